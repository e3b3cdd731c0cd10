import java.io.DataInputStream;
import java.io.IOException;
import java.io.InputStream;
import java.lang.reflect.Constructor;
import java.lang.reflect.Field;
import java.lang.reflect.Method;
import java.lang.reflect.Modifier;
import java.nio.file.Files;
import java.nio.file.Path;
import java.util.Arrays;
import java.util.Set;
import java.util.TreeSet;
import java.util.regex.Matcher;
import java.util.regex.Pattern;

/** The public face, and those rules of LANGUAGE.md that can be seen from the class and its source. */
public final class FaceTest {
    private static final Check CHECK = new Check();
    private static final Set<String> METHODS = new TreeSet<>(Arrays.asList("feed 5", "cut 1", "node 1", "mark 2",
            "put 3", "arc 4", "drop 1", "told 2", "bare 1", "question 1", "rule 0", "forget 1", "place 0", "ask 1",
            "answer 3", "leads 3", "pairs 1", "least 3"));

    private static final Set<String> CALLED = Set.of("java/lang/Object.<init>", "java/util/Arrays.fill",
            "java/util/Arrays.copyOf", "java/lang/Math.min", "java/lang/Math.max", "java/lang/Integer.bitCount",
            "java/lang/Integer.numberOfTrailingZeros", "java/lang/String.length", "java/lang/String.charAt",
            "java/lang/String.indexOf");

    public static void main(String[] args) throws IOException {
        face();
        classes();
        source(stripped(Files.readString(Path.of("src/main/java/PathQueries.java"))));
        compiled(PathQueries.class);
        for (Class<?> inside : PathQueries.class.getDeclaredClasses()) {
            compiled(inside);
        }
        CHECK.end("FaceTest");
    }

    private static void face() {
        Class<?> c = PathQueries.class;
        CHECK.due("public and final", Modifier.isPublic(c.getModifiers()) && Modifier.isFinal(c.getModifiers()));
        Set<String> found = new TreeSet<>();
        Set<String> names = new TreeSet<>();
        for (Method m : c.getDeclaredMethods()) {
            if (Modifier.isPublic(m.getModifiers())) {
                found.add(m.getName() + " " + m.getParameterCount());
                names.add(m.getName());
                boolean ints = Arrays.stream(m.getParameterTypes()).allMatch(t -> t == int.class);
                CHECK.due("ints of " + m, ints && m.getReturnType() == int.class);
                CHECK.due("no static " + m, !Modifier.isStatic(m.getModifiers()));
            } else {
                CHECK.due("private " + m, Modifier.isPrivate(m.getModifiers()) || m.isSynthetic());
            }
        }
        CHECK.due("the methods " + found, found.equals(METHODS));
        privateNames(c, names);
        Set<String> constants = new TreeSet<>();
        for (Field f : c.getDeclaredFields()) {
            if (Modifier.isPublic(f.getModifiers())) {
                constants.add(f.getName());
            } else {
                CHECK.due("private " + f, Modifier.isPrivate(f.getModifiers()));
            }
        }
        CHECK.due("the constants", constants.equals(Set.of("BAD", "NO", "FULL", "LARGE")));
        Constructor<?>[] made = c.getDeclaredConstructors();
        CHECK.due("one constructor", made.length == 1 && made[0].getParameterCount() == 0);
        CHECK.due("it is public", Modifier.isPublic(made[0].getModifiers()));
    }

    private static void privateNames(Class<?> c, Set<String> names) {
        for (Class<?> inside : c.getDeclaredClasses()) {
            for (Method m : inside.getDeclaredMethods()) {
                CHECK.due("a name of its own: " + m, !names.contains(m.getName()));
            }
        }
    }

    private static void classes() {
        Class<?>[] inside = PathQueries.class.getDeclaredClasses();
        CHECK.due("at most twelve classes", inside.length + 1 <= 12);
        for (Class<?> c : inside) {
            CHECK.due("static " + c, Modifier.isStatic(c.getModifiers()));
            CHECK.due("not public " + c, !Modifier.isPublic(c.getModifiers()));
            int fields = 0;
            for (Field f : c.getDeclaredFields()) {
                boolean constant = Modifier.isStatic(f.getModifiers());
                fields += constant ? 0 : 1;
                CHECK.due("final " + f, !constant || Modifier.isFinal(f.getModifiers()));
            }
            CHECK.due("some twenty fields of " + c + ": " + fields, fields <= 22);
            for (Method m : c.getDeclaredMethods()) {
                CHECK.due("at most seven parameters of " + m, m.getParameterCount() <= 7);
            }
        }
    }

    private static String stripped(String source) {
        return source.replaceAll("(?s)/\\*.*?\\*/", "").replaceAll("//[^\n]*", "")
                .replaceAll("\"[^\"\n]*\"", "\"\"").replaceAll("'.'", "' '");
    }

    private static void source(String source) {
        for (String word : new String[] {"throw", "throws", "try", "catch", "synchronized", "assert", "package",
            "protected", "instanceof", "Exception", "native", "volatile", "record", "var", "yield"}) {
            CHECK.due("no " + word, !Pattern.compile("\\b" + word + "\\b").matcher(source).find());
        }
        CHECK.due("no lambda", !source.contains("->"));
        CHECK.due("no method reference", !source.contains("::"));
        CHECK.due("no name that ends in Exact", !source.contains("Exact"));
        Matcher imports = Pattern.compile("import ([^;]+);").matcher(source);
        while (imports.find()) {
            CHECK.due("import " + imports.group(1), imports.group(1).equals("java.util.Arrays"));
        }
        Matcher library = Pattern.compile("\\b(Arrays|Math|Integer|Long|System|Character|String)\\.(\\w+)").matcher(source);
        Set<String> allowed = Set.of("Arrays.fill", "Arrays.copyOf", "Math.min", "Math.max", "Integer.bitCount",
                "Integer.numberOfTrailingZeros");
        while (library.find()) {
            CHECK.due("library " + library.group(), allowed.contains(library.group()));
        }
        lengths(source);
    }

    /** Also what the compiler puts in by itself (for texts joined by +, say) is seen here. */
    private static void compiled(Class<?> c) throws IOException {
        String file = c.getName() + ".class";
        try (InputStream bytes = FaceTest.class.getResourceAsStream(file)) {
            DataInputStream in = new DataInputStream(bytes);
            in.skipBytes(8);
            int entries = in.readUnsignedShort();
            int[] first = new int[entries];
            int[] second = new int[entries];
            int[] tag = new int[entries];
            String[] text = new String[entries];
            for (int i = 1; i < entries; i++) {
                tag[i] = in.readUnsignedByte();
                switch (tag[i]) {
                    case 1 -> text[i] = in.readUTF();
                    case 3, 4 -> in.readInt();
                    case 5, 6 -> {
                        in.readLong();
                        i++;
                    }
                    case 9, 10, 11, 12 -> {
                        first[i] = in.readUnsignedShort();
                        second[i] = in.readUnsignedShort();
                    }
                    case 7, 8 -> first[i] = in.readUnsignedShort();
                    default -> {
                        CHECK.due("an entry of kind " + tag[i] + " in " + file, false);
                        return;
                    }
                }
            }
            for (int i = 1; i < entries; i++) {
                if (tag[i] == 10 || tag[i] == 11) {
                    String of = text[first[first[i]]];
                    String call = of + "." + text[first[second[i]]];
                    CHECK.due("a call of " + call, of.startsWith("PathQueries") || CALLED.contains(call));
                }
            }
        }
    }

    private static void lengths(String source) {
        String[] lines = source.split("\n");
        Pattern head = Pattern.compile("^( {4}| {8})[a-zA-Z].*\\)? \\{$");
        int begin = -1;
        for (int i = 0; i < lines.length; i++) {
            if (head.matcher(lines[i]).find() && lines[i].contains("(")) {
                begin = i;
            }
            boolean ends = lines[i].equals("    }") || lines[i].equals("        }");
            if (ends && begin >= 0) {
                CHECK.due("length of " + lines[begin].trim() + ": " + (i - begin + 1), i - begin + 1 <= 60);
                begin = -1;
            }
        }
    }
}
