section ZzT
theorem li_640 : (640 : Int32).toInt = 640 := by decide
def ZVe (G : List Nat) (c : Zc) (m : Nat) (pv : Int32) (fv : Int32) (tv : Int32) (dv : Int32) (ni : Int32) (bc : Int32) (cd : Int32) : Prop := ∃ f2 : Int32, ∃ t2 : Int32, ∃ d2 : Int32, ∃ ks : Nat, ∃ kl : Nat, ∃ kw : Nat, ∃ na : Int32, ∃ lb : Int32, ∃ nw : Int32, ∃ vn : Int32, ∃ kg : Nat, ∃ g2 : Int32, ∃ cd2 : Int32, zgi c m 12 25 = some pv ∧ zgi c m 12 19 = some f2 ∧ zgi c m 12 18 = some t2 ∧ zgi c m 12 53 = some d2 ∧ zgr c m 12 26 = some ks ∧ zgr c m 12 27 = some kl ∧ zgr c m 12 31 = some kw ∧ zai c ks 0 pv = some na ∧ zai c kl 0 pv = some lb ∧ zai c kw 0 pv = some nw ∧ zgi c m 12 57 = some vn ∧ zgr c m 12 28 = some kg ∧ zai c kg 0 pv = some g2 ∧ zgi c m 12 52 = some cd2 ∧ G[ks]? = some 79 ∧ G[kl]? = some 80 ∧ G[kw]? = some 84 ∧ G[kg]? = some 81 ∧ 0 ≤ f2.toInt ∧ f2.toInt ≤ 6 ∧ 0 ≤ t2.toInt ∧ t2.toInt ≤ 200 ∧ 0 ≤ d2.toInt ∧ d2.toInt ≤ 11 ∧ 0 ≤ pv.toInt ∧ pv.toInt ≤ 8 ∧ 0 ≤ na.toInt ∧ na.toInt ≤ 8 ∧ 0 ≤ lb.toInt ∧ lb.toInt ≤ 8 ∧ 0 ≤ nw.toInt ∧ nw.toInt ≤ 10 ∧ 0 ≤ vn.toInt ∧ vn.toInt ≤ 9 ∧ na.toInt + lb.toInt ≤ vn.toInt ∧ (¬ f2.toInt = 0 ∨ (vn.toInt ≤ 8 ∧ d2.toInt ≤ 10)) ∧ tv.toInt ≤ t2.toInt ∧ 0 ≤ g2.toInt ∧ g2.toInt ≤ 79 ∧ 0 ≤ cd2.toInt ∧ cd2.toInt ≤ 400 ∧ (¬ f2.toInt = 0 ∨ (fv.toInt = 0 ∧ 3 * g2.toInt ≤ t2.toInt ∧ cd2.toInt ≤ t2.toInt)) ∧ GtP c m ∧ WyN c m nw ∧ TbI c m ni ∧ TbC c m bc ∧ TkN c m ∧ CeP c m cd
def Zwo (G : List Nat) (c : Zc) (m : Nat) : Prop := GtW c m ∧ TkN c m
def ZVB (G : List Nat) (c : Zc) (m : Nat) : Prop := ∃ pv : Int32, ∃ f2 : Int32, ∃ t2 : Int32, ∃ d2 : Int32, ∃ ks : Nat, ∃ kl : Nat, ∃ kw : Nat, ∃ na : Int32, ∃ lb : Int32, ∃ nw : Int32, ∃ vn : Int32, ∃ kg : Nat, ∃ g2 : Int32, ∃ cd2 : Int32, ∃ ki : Nat, ∃ i2 : Int32, ∃ tp2 : Int32, zgi c m 12 25 = some pv ∧ zgi c m 12 19 = some f2 ∧ zgi c m 12 18 = some t2 ∧ zgi c m 12 53 = some d2 ∧ zgr c m 12 26 = some ks ∧ zgr c m 12 27 = some kl ∧ zgr c m 12 31 = some kw ∧ zai c ks 0 pv = some na ∧ zai c kl 0 pv = some lb ∧ zai c kw 0 pv = some nw ∧ zgi c m 12 57 = some vn ∧ zgr c m 12 28 = some kg ∧ zai c kg 0 pv = some g2 ∧ zgi c m 12 52 = some cd2 ∧ zgr c m 12 43 = some ki ∧ zai c ki 0 pv = some i2 ∧ zgi c m 12 13 = some tp2 ∧ G[ks]? = some 79 ∧ G[kl]? = some 80 ∧ G[kw]? = some 84 ∧ G[kg]? = some 81 ∧ G[ki]? = some 96 ∧ 0 ≤ pv.toInt ∧ pv.toInt ≤ 8 ∧ f2.toInt = 0 ∧ t2.toInt = 0 ∧ d2.toInt = 0 ∧ na.toInt = 0 ∧ lb.toInt = 0 ∧ nw.toInt = 0 ∧ vn.toInt = 0 ∧ g2.toInt = 0 ∧ cd2.toInt = 0 ∧ i2.toInt = 0 ∧ tp2.toInt = 0 ∧ GtP c m ∧ WyN c m nw ∧ TbI c m 0 ∧ TbC c m 1 ∧ TkN c m
def ZVh (G : List Nat) (c : Zc) (m : Nat) (pv : Int32) (fv : Int32) (tv : Int32) (dv : Int32) (ni : Int32) (bc : Int32) : Prop := ∃ f2 : Int32, ∃ t2 : Int32, ∃ d2 : Int32, ∃ ks : Nat, ∃ kl : Nat, ∃ kw : Nat, ∃ na : Int32, ∃ lb : Int32, ∃ nw : Int32, ∃ vn : Int32, ∃ kg : Nat, ∃ g2 : Int32, ∃ cd2 : Int32, zgi c m 12 25 = some pv ∧ zgi c m 12 19 = some f2 ∧ zgi c m 12 18 = some t2 ∧ zgi c m 12 53 = some d2 ∧ zgr c m 12 26 = some ks ∧ zgr c m 12 27 = some kl ∧ zgr c m 12 31 = some kw ∧ zai c ks 0 pv = some na ∧ zai c kl 0 pv = some lb ∧ zai c kw 0 pv = some nw ∧ zgi c m 12 57 = some vn ∧ zgr c m 12 28 = some kg ∧ zai c kg 0 pv = some g2 ∧ zgi c m 12 52 = some cd2 ∧ G[ks]? = some 79 ∧ G[kl]? = some 80 ∧ G[kw]? = some 84 ∧ G[kg]? = some 81 ∧ 0 ≤ f2.toInt ∧ f2.toInt ≤ 6 ∧ 0 ≤ t2.toInt ∧ t2.toInt ≤ 200 ∧ 0 ≤ d2.toInt ∧ d2.toInt ≤ 11 ∧ 0 ≤ pv.toInt ∧ pv.toInt ≤ 8 ∧ 0 ≤ na.toInt ∧ na.toInt ≤ 8 ∧ 0 ≤ lb.toInt ∧ lb.toInt ≤ 8 ∧ 0 ≤ nw.toInt ∧ nw.toInt ≤ 10 ∧ 0 ≤ vn.toInt ∧ vn.toInt ≤ 9 ∧ na.toInt + lb.toInt ≤ vn.toInt ∧ (¬ f2.toInt = 0 ∨ (vn.toInt ≤ 8 ∧ d2.toInt ≤ 10)) ∧ tv.toInt ≤ t2.toInt ∧ 0 ≤ g2.toInt ∧ g2.toInt ≤ 79 ∧ 0 ≤ cd2.toInt ∧ cd2.toInt ≤ 400 ∧ (¬ f2.toInt = 0 ∨ (fv.toInt = 0 ∧ 3 * g2.toInt ≤ t2.toInt ∧ cd2.toInt + 1 ≤ t2.toInt)) ∧ GtP c m ∧ WyN c m nw ∧ TbI c m ni ∧ TbC c m bc ∧ TkN c m
def ZVi (G : List Nat) (c : Zc) (m : Nat) (pv : Int32) (fv : Int32) (tv : Int32) (dv : Int32) (ni : Int32) (bc : Int32) : Prop := ∃ f2 : Int32, ∃ t2 : Int32, ∃ d2 : Int32, ∃ ks : Nat, ∃ kl : Nat, ∃ kw : Nat, ∃ na : Int32, ∃ lb : Int32, ∃ nw : Int32, ∃ vn : Int32, ∃ kg : Nat, ∃ g2 : Int32, ∃ cd2 : Int32, ∃ ki : Nat, ∃ i2 : Int32, zgi c m 12 25 = some pv ∧ zgi c m 12 19 = some f2 ∧ zgi c m 12 18 = some t2 ∧ zgi c m 12 53 = some d2 ∧ zgr c m 12 26 = some ks ∧ zgr c m 12 27 = some kl ∧ zgr c m 12 31 = some kw ∧ zai c ks 0 pv = some na ∧ zai c kl 0 pv = some lb ∧ zai c kw 0 pv = some nw ∧ zgi c m 12 57 = some vn ∧ zgr c m 12 28 = some kg ∧ zai c kg 0 pv = some g2 ∧ zgi c m 12 52 = some cd2 ∧ zgr c m 12 43 = some ki ∧ zai c ki 0 pv = some i2 ∧ G[ks]? = some 79 ∧ G[kl]? = some 80 ∧ G[kw]? = some 84 ∧ G[kg]? = some 81 ∧ G[ki]? = some 96 ∧ 0 ≤ f2.toInt ∧ f2.toInt ≤ 6 ∧ 0 ≤ t2.toInt ∧ t2.toInt ≤ 200 ∧ 0 ≤ d2.toInt ∧ d2.toInt ≤ 11 ∧ 0 ≤ pv.toInt ∧ pv.toInt ≤ 8 ∧ 0 ≤ na.toInt ∧ na.toInt ≤ 8 ∧ 0 ≤ lb.toInt ∧ lb.toInt ≤ 8 ∧ 0 ≤ nw.toInt ∧ nw.toInt ≤ 10 ∧ 0 ≤ vn.toInt ∧ vn.toInt ≤ 9 ∧ na.toInt + lb.toInt ≤ vn.toInt ∧ (¬ f2.toInt = 0 ∨ (vn.toInt ≤ 8 ∧ d2.toInt ≤ 10)) ∧ tv.toInt ≤ t2.toInt ∧ 0 ≤ g2.toInt ∧ g2.toInt ≤ 79 ∧ 0 ≤ cd2.toInt ∧ cd2.toInt ≤ 400 ∧ 0 ≤ i2.toInt ∧ i2.toInt ≤ 8 ∧ (¬ f2.toInt = 0 ∨ (fv.toInt = 0 ∧ 3 * g2.toInt ≤ t2.toInt ∧ cd2.toInt ≤ t2.toInt ∧ 1 ≤ i2.toInt)) ∧ GtP c m ∧ WyN c m nw ∧ TbI c m i2 ∧ TbC c m bc ∧ TkN c m
def ZSe (G : List Nat) (c : Zc) (m : Nat) (fv : Int32) (a : Int32) (r : Int32) : Prop := ∃ f2 : Int32, zgi c m 12 19 = some f2 ∧ 0 ≤ f2.toInt ∧ f2.toInt ≤ 6 ∧ (¬ f2.toInt = 0 ∨ fv.toInt = 0) ∧ ((f2.toInt = 0 ∧ r.toInt = a.toInt) ∨ (¬ f2.toInt = 0 ∧ -16 ≤ r.toInt ∧ r.toInt ≤ -11))
def ZVj (G : List Nat) (c : Zc) (m : Nat) : Prop := ∃ pv : Int32, ∃ f2 : Int32, ∃ t2 : Int32, ∃ d2 : Int32, ∃ ks : Nat, ∃ kl : Nat, ∃ kw : Nat, ∃ na : Int32, ∃ lb : Int32, ∃ nw : Int32, ∃ vn : Int32, ∃ kg : Nat, ∃ g2 : Int32, ∃ cd2 : Int32, ∃ ki : Nat, ∃ i2 : Int32, zgi c m 12 25 = some pv ∧ zgi c m 12 19 = some f2 ∧ zgi c m 12 18 = some t2 ∧ zgi c m 12 53 = some d2 ∧ zgr c m 12 26 = some ks ∧ zgr c m 12 27 = some kl ∧ zgr c m 12 31 = some kw ∧ zai c ks 0 pv = some na ∧ zai c kl 0 pv = some lb ∧ zai c kw 0 pv = some nw ∧ zgi c m 12 57 = some vn ∧ zgr c m 12 28 = some kg ∧ zai c kg 0 pv = some g2 ∧ zgi c m 12 52 = some cd2 ∧ zgr c m 12 43 = some ki ∧ zai c ki 0 pv = some i2 ∧ G[ks]? = some 79 ∧ G[kl]? = some 80 ∧ G[kw]? = some 84 ∧ G[kg]? = some 81 ∧ G[ki]? = some 96 ∧ 0 ≤ f2.toInt ∧ f2.toInt ≤ 6 ∧ 0 ≤ t2.toInt ∧ t2.toInt ≤ 200 ∧ 0 ≤ d2.toInt ∧ d2.toInt ≤ 11 ∧ 0 ≤ pv.toInt ∧ pv.toInt ≤ 8 ∧ 0 ≤ na.toInt ∧ na.toInt ≤ 8 ∧ 0 ≤ lb.toInt ∧ lb.toInt ≤ 8 ∧ 0 ≤ nw.toInt ∧ nw.toInt ≤ 10 ∧ 0 ≤ vn.toInt ∧ vn.toInt ≤ 9 ∧ na.toInt + lb.toInt ≤ vn.toInt ∧ (¬ f2.toInt = 0 ∨ (vn.toInt ≤ 8 ∧ d2.toInt ≤ 10)) ∧ 0 ≤ g2.toInt ∧ g2.toInt ≤ 79 ∧ 0 ≤ cd2.toInt ∧ cd2.toInt ≤ 400 ∧ 0 ≤ i2.toInt ∧ i2.toInt ≤ 8 ∧ (¬ f2.toInt = 0 ∨ (3 * g2.toInt ≤ t2.toInt ∧ cd2.toInt ≤ t2.toInt ∧ 1 ≤ i2.toInt)) ∧ GtP c m ∧ WyN c m nw ∧ TbI c m i2 ∧ TbC c m 1 ∧ TkN c m
def ZVk (G : List Nat) (c : Zc) (m : Nat) (r : Int32) : Prop := ∃ pv : Int32, ∃ f2 : Int32, ∃ t2 : Int32, ∃ d2 : Int32, ∃ ks : Nat, ∃ kl : Nat, ∃ kw : Nat, ∃ na : Int32, ∃ lb : Int32, ∃ nw : Int32, ∃ vn : Int32, ∃ kg : Nat, ∃ g2 : Int32, ∃ cd2 : Int32, ∃ ki : Nat, ∃ i2 : Int32, ∃ tp2 : Int32, zgi c m 12 25 = some pv ∧ zgi c m 12 19 = some f2 ∧ zgi c m 12 18 = some t2 ∧ zgi c m 12 53 = some d2 ∧ zgr c m 12 26 = some ks ∧ zgr c m 12 27 = some kl ∧ zgr c m 12 31 = some kw ∧ zai c ks 0 pv = some na ∧ zai c kl 0 pv = some lb ∧ zai c kw 0 pv = some nw ∧ zgi c m 12 57 = some vn ∧ zgr c m 12 28 = some kg ∧ zai c kg 0 pv = some g2 ∧ zgi c m 12 52 = some cd2 ∧ zgr c m 12 43 = some ki ∧ zai c ki 0 pv = some i2 ∧ zgi c m 12 13 = some tp2 ∧ G[ks]? = some 79 ∧ G[kl]? = some 80 ∧ G[kw]? = some 84 ∧ G[kg]? = some 81 ∧ G[ki]? = some 96 ∧ 0 ≤ f2.toInt ∧ f2.toInt ≤ 6 ∧ 0 ≤ t2.toInt ∧ t2.toInt ≤ 200 ∧ 0 ≤ d2.toInt ∧ d2.toInt ≤ 11 ∧ 0 ≤ pv.toInt ∧ pv.toInt ≤ 8 ∧ 0 ≤ na.toInt ∧ na.toInt ≤ 8 ∧ 0 ≤ lb.toInt ∧ lb.toInt ≤ 8 ∧ 0 ≤ nw.toInt ∧ nw.toInt ≤ 10 ∧ 0 ≤ vn.toInt ∧ vn.toInt ≤ 9 ∧ na.toInt + lb.toInt ≤ vn.toInt ∧ (¬ f2.toInt = 0 ∨ (vn.toInt ≤ 8 ∧ d2.toInt ≤ 10)) ∧ 0 ≤ g2.toInt ∧ g2.toInt ≤ 79 ∧ 0 ≤ cd2.toInt ∧ cd2.toInt ≤ 400 ∧ 0 ≤ i2.toInt ∧ i2.toInt ≤ 8 ∧ tp2.toInt = 0 ∧ ((f2.toInt = 0 ∧ r.toInt = i2.toInt ∧ 1 ≤ i2.toInt) ∨ (¬ f2.toInt = 0 ∧ r.toInt < 0)) ∧ GtP c m ∧ WyN c m nw ∧ TbI c m i2 ∧ TbC c m 1 ∧ TkN c m
def ZSq (G : List Nat) (c : Zc) (m : Nat) (fv : Int32) (tv : Int32) (r : Int32) : Prop := ∃ f2 : Int32, ∃ t2 : Int32, zgi c m 12 19 = some f2 ∧ zgi c m 12 18 = some t2 ∧ 0 ≤ f2.toInt ∧ f2.toInt ≤ 6 ∧ 0 ≤ t2.toInt ∧ t2.toInt ≤ 200 ∧ tv.toInt ≤ t2.toInt ∧ (¬ f2.toInt = 0 ∨ (fv.toInt = 0 ∧ 0 ≤ r.toInt ∧ r.toInt ≤ 7))
def ZVl (G : List Nat) (c : Zc) (m : Nat) (r : Int32) : Prop := ∃ pv : Int32, ∃ f2 : Int32, ∃ t2 : Int32, ∃ d2 : Int32, ∃ ks : Nat, ∃ kl : Nat, ∃ kw : Nat, ∃ na : Int32, ∃ lb : Int32, ∃ nw : Int32, ∃ vn : Int32, ∃ kg : Nat, ∃ g2 : Int32, ∃ cd2 : Int32, ∃ ki : Nat, ∃ i2 : Int32, ∃ kA : Nat, ∃ gA : Int32, ∃ kB : Nat, ∃ gB : Int32, ∃ tp2 : Int32, zgi c m 12 25 = some pv ∧ zgi c m 12 19 = some f2 ∧ zgi c m 12 18 = some t2 ∧ zgi c m 12 53 = some d2 ∧ zgr c m 12 26 = some ks ∧ zgr c m 12 27 = some kl ∧ zgr c m 12 31 = some kw ∧ zai c ks 0 pv = some na ∧ zai c kl 0 pv = some lb ∧ zai c kw 0 pv = some nw ∧ zgi c m 12 57 = some vn ∧ zgr c m 12 28 = some kg ∧ zai c kg 0 pv = some g2 ∧ zgi c m 12 52 = some cd2 ∧ zgr c m 12 43 = some ki ∧ zai c ki 0 pv = some i2 ∧ zgr c m 12 48 = some kA ∧ zai c kA 0 pv = some gA ∧ zgr c m 12 49 = some kB ∧ zai c kB 0 pv = some gB ∧ zgi c m 12 13 = some tp2 ∧ G[ks]? = some 79 ∧ G[kl]? = some 80 ∧ G[kw]? = some 84 ∧ G[kg]? = some 81 ∧ G[ki]? = some 96 ∧ G[kA]? = some 101 ∧ G[kB]? = some 102 ∧ 0 ≤ f2.toInt ∧ f2.toInt ≤ 6 ∧ 0 ≤ t2.toInt ∧ t2.toInt ≤ 200 ∧ 0 ≤ d2.toInt ∧ d2.toInt ≤ 11 ∧ 0 ≤ pv.toInt ∧ pv.toInt ≤ 8 ∧ 0 ≤ na.toInt ∧ na.toInt ≤ 8 ∧ 0 ≤ lb.toInt ∧ lb.toInt ≤ 8 ∧ 0 ≤ nw.toInt ∧ nw.toInt ≤ 10 ∧ 0 ≤ vn.toInt ∧ vn.toInt ≤ 9 ∧ na.toInt + lb.toInt ≤ vn.toInt ∧ (¬ f2.toInt = 0 ∨ (vn.toInt ≤ 8 ∧ d2.toInt ≤ 10)) ∧ 0 ≤ g2.toInt ∧ g2.toInt ≤ 79 ∧ 0 ≤ cd2.toInt ∧ cd2.toInt ≤ 400 ∧ 0 ≤ i2.toInt ∧ i2.toInt ≤ 8 ∧ tp2.toInt = 0 ∧ ((f2.toInt = 0 ∧ 0 ≤ r.toInt ∧ r.toInt ≤ 3 ∧ (0 ≤ gA.toInt ∧ gA.toInt ≤ 7) ∧ 0 ≤ gB.toInt ∧ gB.toInt ≤ 7) ∨ (¬ f2.toInt = 0 ∧ r.toInt < 0)) ∧ GtP c m ∧ WyN c m nw ∧ TbI c m i2 ∧ TbC c m 1 ∧ TkN c m
section
variable {G : List Nat} {M : List (Nat × Nat)} {c c' q : Zc} {m k k2 : Nat} {n n' b x pv v i fv : Int32} {j e : Int}
theorem CeP_fr (h : CeP c m x) (F : Zfr G M c c') (tm : G[m]? = some 64) (W : Zwt zty G c) (hM : ∀ x ∈ ([(64, 25), (64, 50), (64, 51), (64, 52), (103, 0), (104, 0)] : List (Nat × Nat)), x ∉ M) (hs : Sc c c' m j e) : CeP c' m x := by
  intro hf
  rw [vaf_fr F tm (gf_64_50 W tm) (hM _ (by decide)) (hM _ (by decide)), vaf_fr F tm (gf_64_51 W tm) (hM _ (by decide)) (hM _ (by decide)), vfi_fr F tm (hM (64, 25) (by decide)), vfi_fr F tm (hM (64, 52) (by decide))]
  exact h (hs hf).1
theorem TbC_n (e46 : zgr c m 12 46 = some k) (ep : zgi c m 12 25 = some pv) (r : zai c k 0 pv = some x) (hx : x.toInt < 0) : TbC c m b := by
  intro _ _
  left
  rw [vfi_e ep, ← (vaf_r e46 r).1]
  exact hx
theorem TbC_of (h : CeP c m x) (e46 : zgr c m 12 46 = some k) (ep : zgi c m 12 25 = some pv) (r : zai c k 0 pv = some x) : TbC c m b := by
  intro _ hf
  right
  have := h hf
  rw [vfi_e ep] at *
  rw [← (vaf_r e46 r).1]
  exact this
theorem TbI_up (h : TbI c m n) (ep : zgi c m 12 25 = some pv) (hp : 0 ≤ pv.toInt) (hn : n'.toInt = n.toInt + 1) (hn0 : 0 ≤ n.toInt) (e4 : zgr c m 12 44 = some k) (e5 : zgr c m 12 45 = some k2) (hi : i.toInt = 8 * pv.toInt + n.toInt) (r4 : zai c k 0 i = some v) (r5 : zai c k2 0 i = some x) (ef : zgi c m 12 19 = some fv) (hv : ¬ fv.toInt = 0 ∨ v.toInt = 109 ∨ CeP c m x) : TbI c m n' := by
  intro hf u hu hl
  rcases Int.lt_or_le u n.toInt with z | z
  · exact h hf u hu z
  · have hu2 : 8 * (vfi c m 25).toNat + u = i.toInt.toNat := by rw [vfi_e ep]; omega
    rw [hu2, ← (vaf_r e4 r4).1, ← (vaf_r e5 r5).1]
    rcases hv with y | y | y
    · exact absurd (by rw [← vfi_e ef]; exact hf) y
    · exact .inl y
    · exact .inr (y hf)
theorem GtP_mk (h : GtW c m) (e24 : zgi c m 12 24 = some v) (e25 : zgi c m 12 25 = some v) : GtP c m := ⟨h, by rw [vfi_e e24, vfi_e e25]⟩
theorem TkN_mk (e14 : zgr c m 12 14 = some k) (e15 : zgr c m 12 15 = some k2) (h : TkM c k k2) : TkN c m := by
  intro a b h1 h2
  rw [e14] at h1; rw [e15] at h2; cases h1; cases h2; exact h
theorem TzF_of {ni nw : Int32} {kw ki : Nat} (ep : zgi c m 12 25 = some pv) (e31 : zgr c m 12 31 = some kw) (r31 : zai c kw 0 pv = some nw) (e43 : zgr c m 12 43 = some ki) (r43 : zai c ki 0 pv = some ni) (hw : WyN c m nw) (hi : TbI c m ni) (hc : TbC c m 1) (ef : zgi c m 12 19 = some fv) (hf : fv.toInt = 0) (W : Zwt zty G c) (tm : G[m]? = some 64) : TzF (vaf c m) pv.toInt.toNat := by
  have f0 : vfi c m 19 = 0 := by rw [vfi_e ef]; exact hf
  have hw := hw f0
  have hi := hi f0
  have hc := hc (by decide) f0
  obtain ⟨cd, ec, lc, uc⟩ := gf_64_52 W tm
  rw [vfi_e ep] at *
  rw [vfi_e ec] at hi hc
  refine ⟨fun w h1 h2 => hw w h1 ?_, hc.imp id (fun z => CdE_m z (by omega)), fun k h1 h2 => (hi k h1 ?_).imp id (fun z => CdE_m z (by omega))⟩
  · rw [(vaf_r e31 r31).1]; exact h2
  · rw [(vaf_r e43 r43).1]; exact h2
abbrev M_Mo_settle : List (Nat × Nat) := [(64, 24), (77, 0), (78, 0)]
theorem q_Mo_settle {nf : Nat} (hn : 8589934592 ≤ nf) (W : Zwt zty G c) {a0 : Nat} {a1 : Int32} (t_a0 : G[a0]? = some 64) (pl_a1 : 0 ≤ a1.toInt) (pu_a1 : a1.toInt ≤ 7) (h : GtP c a0) (ht : TzF (vaf c a0) (vfi c a0 25).toNat) (hg : 4 ≤ a1.toInt → TzG (vaf c a0) (vfi c a0 25).toNat) : ∃ q, f_Mo_settle nf a0 a1 c = some q ∧ Zwt zty G q ∧ Zfr G M_Mo_settle c q ∧ GtW q a0 := by
  unfold f_Mo_settle
  obtain ⟨v1, e1, t1⟩ := gf_64_22 W t_a0
  refine wb e1 ?_
  obtain ⟨v2, e2, l2, u2⟩ := ga_77 W t1 (i := a1) (by omega) (by omega)
  refine wb e2 ?_
  obtain ⟨c3, e3, W3, f3, g3⟩ := pf_64_24 W t_a0 (x := v2) (rgi (by omega) (by omega))
  refine wb e3 ?_
  obtain ⟨v4, e4, t4⟩ := gf_64_22 W3 t_a0
  refine wb e4 ?_
  obtain ⟨v5, e5, l5, u5⟩ := gf_64_25 W3 t_a0
  refine wb e5 ?_
  obtain ⟨c6, e6, W6, f6, g6⟩ := pa_77 W3 t4 (i := a1) (by omega) (by omega) (x := v5) (rgi (by omega) (by omega))
  refine wb e6 ?_
  obtain ⟨v7, e7, t7⟩ := gf_64_23 W6 t_a0
  refine wb e7 ?_
  have b1 : (vp_nar .boolean 1).toInt = 1 := nb_1
  obtain ⟨c8, e8, W8, f8, g8⟩ := pa_78 W6 t7 (i := a1) (by omega) (by omega) (x := vp_nar .boolean 1) (rgi (by omega) (by omega))
  refine wb e8 ?_
  have F8 : Zfr G M_Mo_settle c c8 := Zfr.tr (Zfr.tr (Zfr.mo f3 (by decide)) f6 (by decide)) f8 (by decide)
  refine ⟨_, rfl, W8, F8, ?_⟩
  have a22 : vaf c8 a0 22 = upd (vaf c a0 22) a1.toInt.toNat v5 := by
    rw [vaf_fr f8 t_a0 (gf_64_22 W6 t_a0) (by decide) (by decide), (vaf_w e4 e6).1, vaf_fr f3 t_a0 (gf_64_22 W t_a0) (by decide) (by decide)]
  have a23 : vaf c8 a0 23 = upd (vaf c a0 23) a1.toInt.toNat (vp_nar .boolean 1) := by
    rw [(vaf_w e7 e8).1, vaf_fr f6 t_a0 (gf_64_23 W3 t_a0) (by decide) (by decide), vaf_fr f3 t_a0 (gf_64_23 W t_a0) (by decide) (by decide)]
  have d24 : vfi c8 a0 24 = v2.toInt := by
    rw [vfi_fr f8 t_a0 (by decide), vfi_fr f6 t_a0 (by decide), vfi_e g3]
  have p5 : vfi c a0 25 = v5.toInt := by rw [← vfi_fr f3 t_a0 (show (64, 25) ∉ [(64, 24)] by decide), vfi_e e5]
  have r2 := (vaf_r e1 e2).1
  have hq : ∀ s, Zq (vaf c a0) (vaf c8 a0) s := by
    intro s j hj i _ _
    simp only [List.mem_cons, List.not_mem_nil, or_false] at hj
    rcases hj with rfl | rfl | rfl | rfl | rfl | rfl | rfl | rfl | rfl | rfl | rfl
    · rw [vaf_fr F8 t_a0 (gf_64_31 W t_a0) (by decide) (by decide)]
    · rw [vaf_fr F8 t_a0 (gf_64_33 W t_a0) (by decide) (by decide)]
    · rw [vaf_fr F8 t_a0 (gf_64_34 W t_a0) (by decide) (by decide)]
    · rw [vaf_fr F8 t_a0 (gf_64_43 W t_a0) (by decide) (by decide)]
    · rw [vaf_fr F8 t_a0 (gf_64_44 W t_a0) (by decide) (by decide)]
    · rw [vaf_fr F8 t_a0 (gf_64_45 W t_a0) (by decide) (by decide)]
    · rw [vaf_fr F8 t_a0 (gf_64_46 W t_a0) (by decide) (by decide)]
    · rw [vaf_fr F8 t_a0 (gf_64_48 W t_a0) (by decide) (by decide)]
    · rw [vaf_fr F8 t_a0 (gf_64_49 W t_a0) (by decide) (by decide)]
    · rw [vaf_fr F8 t_a0 (gf_64_50 W t_a0) (by decide) (by decide)]
    · rw [vaf_fr F8 t_a0 (gf_64_51 W t_a0) (by decide) (by decide)]
  obtain ⟨⟨hF, hD1, hD2⟩, hpd⟩ := h
  have hp : (vfi c a0 24).toNat = v5.toInt.toNat := by rw [← hpd, p5]
  rw [p5] at ht hg
  rw [hp] at hD1
  refine ⟨fun k hk hth => ?_, ?_, ?_⟩
  · by_cases z : k = a1.toInt.toNat
    · subst z
      rw [a22, upd_s]
      exact ⟨TzF_q (hq _) ht, fun h4 => TzG_q (hq _) (hg (by omega))⟩
    · rw [a23, upd_n z] at hth
      rw [a22, upd_n z]
      have := hF k hk hth
      exact ⟨TzF_q (hq _) this.1, fun h4 => TzG_q (hq _) (this.2 h4)⟩
  · intro k hk
    rw [d24, a22]
    by_cases z : k = a1.toInt.toNat
    · subst z
      rw [upd_s, r2]
      exact fun y => hD1 _ hk y.symm
    · rw [upd_n z, r2]
      exact hD2 k a1.toInt.toNat hk (by omega) z
  · intro i j hi hj hij
    rw [a22]
    by_cases z : i = a1.toInt.toNat
    · subst z
      rw [upd_s, upd_n (Ne.symm hij)]
      exact fun y => hD1 _ hj y.symm
    · by_cases y : j = a1.toInt.toNat
      · subst y
        rw [upd_s, upd_n hij]
        exact hD1 _ hi
      · rw [upd_n z, upd_n y]
        exact hD2 i j hi hj hij
end
theorem ZV_f69 {G : List Nat} {c c' : Zc} {a0 : Nat} {pv fv tv dv ni bc : Int32} (h : ZV G c a0 pv fv tv dv ni bc) (F : Zfr G [(64, 69), (114, 0), (115, 0), (116, 0)] c c') (t : G[a0]? = some 64) (W : Zwt zty G c) : ZV G c' a0 pv fv tv dv ni bc := by
  obtain ⟨xks, xkl, xkw, xna, xlb, xnw, xvn, xF0, xF1, xF2, xF3, xF4, xF5, xF6, xF7, xF8, xF9, xF10, xT0, xT1, xT2, xP0, xP1, xP2, xP3, xP4, xP5, xP6, xP7, xP8, xP9, xP10, xP11, xP12, xP13, xP14, xP15, xP16, xP17, xH0, xH1, xH2, xH3, xH4⟩ := h
  have sc := Sc_fr F t (by decide) (by decide) (by decide)
  exact ⟨xks, xkl, xkw, xna, xlb, xnw, xvn, (Zfr.gi F t (by decide)).trans xF0, (Zfr.gi F t (by decide)).trans xF1, (Zfr.gi F t (by decide)).trans xF2, (Zfr.gi F t (by decide)).trans xF3, (Zfr.gr F t (by decide)).trans xF4, (Zfr.gr F t (by decide)).trans xF5, (Zfr.gr F t (by decide)).trans xF6, (Zfr.ai F xT0 (by decide)).trans xF7, (Zfr.ai F xT1 (by decide)).trans xF8, (Zfr.ai F xT2 (by decide)).trans xF9, (Zfr.gi F t (by decide)).trans xF10, xT0, xT1, xT2, xP0, xP1, xP2, xP3, xP4, xP5, xP6, xP7, xP8, xP9, xP10, xP11, xP12, xP13, xP14, xP15, xP16, xP17, GtP_fr xH0 F t W (by decide), WyN_fr xH1 F t W (by decide) sc, TbI_fr xH2 F t W (by decide) sc, TbC_fr xH3 F t W (by decide) sc, TkN_fr xH4 F t W (by decide)⟩
theorem ZVg_z {G : List Nat} {c : Zc} {a0 : Nat} {pv fv tv dv ni bc : Int32} {kg : Nat} {gc : Int32} (h : ZV G c a0 pv fv tv dv ni bc) (ekg : zgr c a0 12 28 = some kg) (tkg : G[kg]? = some 81) (eg : zai c kg 0 pv = some gc) (hf : fv.toInt = 0) (hg : 3 * gc.toInt ≤ tv.toInt) : ZVg G c a0 pv fv tv dv ni bc := by
  obtain ⟨xks, xkl, xkw, xna, xlb, xnw, xvn, xF0, xF1, xF2, xF3, xF4, xF5, xF6, xF7, xF8, xF9, xF10, xT0, xT1, xT2, xP0, xP1, xP2, xP3, xP4, xP5, xP6, xP7, xP8, xP9, xP10, xP11, xP12, xP13, xP14, xP15, xP16, xP17, xH0, xH1, xH2, xH3, xH4⟩ := h
  exact ⟨fv, tv, dv, xks, xkl, xkw, xna, xlb, xnw, xvn, kg, gc, xF0, xF1, xF2, xF3, xF4, xF5, xF6, xF7, xF8, xF9, xF10, ekg, eg, xT0, xT1, xT2, tkg, by omega, by omega, by omega, by omega, by omega, by omega, by omega, by omega, by omega, by omega, by omega, by omega, by omega, by omega, by omega, by omega, by omega, by omega, by omega, by omega, xH0, xH1, xH2, xH3, xH4⟩
theorem PI_end {c : Zc} {m s0 : Nat} {μ : Int} (h : PI c m s0 μ) (hf : vfi c m 19 = 0) (h9 : vfi c m 69 = 0) : PB c m s0 0 1 1 0 1 μ := by
  rcases h hf with ⟨_, q⟩ | ⟨k, q, _⟩
  · exact q
  · omega
set_option maxHeartbeats 4000000 in
theorem p_Mo_parse {nf : Nat} (hn : 8589934592 ≤ nf) {G : List Nat} {c : Zc} (W : Zwt zty G c) {a0 : Nat} {a1 : Int32} {pv fv tv dv ni bc : Int32} {kg : Nat} {gc cd : Int32} (t_a0 : G[a0]? = some 64) (pl_pv : 0 ≤ pv.toInt) (pu_pv : pv.toInt ≤ 8) (pl_fv : 0 ≤ fv.toInt) (pu_fv : fv.toInt ≤ 0) (pl_tv : 0 ≤ tv.toInt) (pu_tv : tv.toInt ≤ 200) (pl_dv : 0 ≤ dv.toInt) (pu_dv : dv.toInt ≤ 11) (pl_gc : 0 ≤ gc.toInt) (pu_gc : gc.toInt ≤ 79) (pl_a1 : 0 ≤ a1.toInt) (pu_a1 : a1.toInt ≤ 3) (pl_cd : 0 ≤ cd.toInt) (pu_cd : cd.toInt ≤ 400) (e25 : zgi c a0 12 25 = some pv) (e19 : zgi c a0 12 19 = some fv) (e18 : zgi c a0 12 18 = some tv) (e53 : zgi c a0 12 53 = some dv) (ekg : zgr c a0 12 28 = some kg) (egc : zai c kg 0 pv = some gc) (ecd : zgi c a0 12 52 = some cd) (pp_0 : 3 * gc.toInt ≤ tv.toInt) (pp_1 : cd.toInt + 1 ≤ tv.toInt) (hb : ZV G c a0 pv fv tv dv ni bc) : ∃ q, f_Mo_parse nf a0 a1 c = some q ∧ Zwt zty G q ∧ Zfr G M_Mo_parse c q ∧ ZVe G q a0 pv fv tv dv ni bc cd := by
  unfold f_Mo_parse
  have l0 := li_0
  obtain ⟨kg', ekg', tkg⟩ := gf_64_28 W t_a0
  rw [ekg] at ekg'; cases ekg'
  obtain ⟨c1, e1, W1, f1, g1⟩ := pf_64_69 W t_a0 (x := 0) (rgi (by omega) (by omega))
  refine wb e1 ?_
  obtain ⟨wo, ewo⟩ := go_64 W1 t_a0
  refine wb ewo ?_
  obtain ⟨q2, eq2, W2, f2, w2⟩ := p_Mo_frame hn W1 (a1 := a1) t_a0 (by omega) (by omega) g1
  refine wb eq2 ?_
  unfold f_Mo_parse_10
  have F2 : Zfr G [(64, 69), (114, 0), (115, 0), (116, 0)] c q2 := Zfr.tr (Zfr.mo f1 (by decide)) f2 (by decide)
  have Z2 := ZVg_z (ZV_f69 hb F2 t_a0 W) ((Zfr.gr F2 t_a0 (by decide)).trans ekg) tkg ((Zfr.ai F2 tkg (by decide)).trans egc) (by omega) pp_0
  have P2 := PI_init t_a0 W1 f2 w2 (by rw [vfi_e g1]; omega) ⟨by omega, by omega⟩ ((Zfr.gi f1 t_a0 (by decide)).trans ecd) ((Zfr.gi f1 t_a0 (by decide)).trans e18) pp_1 pl_cd pu_tv (by rw [vfi_fr f1 t_a0 (by decide), vfi_e e53]; omega)
  obtain ⟨⟨x, cb⟩, eb, rfl, Wb, Fb, Zb, ⟨μ, Pb⟩, hend⟩ := p_parse_lp hn W2 t_a0 Z2 P2
  refine wb eb ?_
  dsimp only at Wb Fb Zb Pb hend t_a0 ⊢
  obtain ⟨f, t, d, kg3, gc3, b25, b19, b18, b53, bkg, bgc, tkg3, hr, hg, htt, zz⟩ := ZV_g Zb
  obtain ⟨cdb, bcd, lcd, ucd⟩ := gf_64_52 Wb t_a0
  have hPB : vfi cb x 19 = 0 → PB cb x cd.toInt.toNat 0 1 1 0 1 μ := fun hf => PI_end Pb hf (hend hf)
  have hnum : ¬ f.toInt = 0 ∨ cdb.toInt + 1 ≤ t.toInt := by
    by_cases z : f.toInt = 0
    · exact PB_nm (hPB (by rw [vfi_e b19]; exact z)) b19 bcd b18
    · exact .inl z
  obtain ⟨q, eq, Wq, Fq, cw, zr⟩ := p_Mo_parse_122 hn Wb (ni := ni) (bc := bc) t_a0 (by omega) (by omega) (by omega) (by omega) (by omega) (by omega) (by omega) (by omega) b25 b19 b18 b53 bcd (by omega) zz
  refine ⟨q, eq, Wq, Zfr.tr (Zfr.tr (Zfr.mo F2 (by decide)) Fb (by decide)) Fq (by decide), ?_⟩
  obtain ⟨xf2, xt2, xd2, xks, xkl, xkw, xna, xlb, xnw, xvn, xF0, xF1, xF2, xF3, xF4, xF5, xF6, xF7, xF8, xF9, xF10, xT0, xT1, xT2, xP0, xP1, xP2, xP3, xP4, xP5, xP6, xP7, xP8, xP9, xP10, xP11, xP12, xP13, xP14, xP15, xP16, xP17, xP18, xP19, xH0, xH1, xH2, xH3, xH4⟩ := zr
  obtain ⟨cd2, dcd, ld2, ud2⟩ := gf_64_52 Wq t_a0
  obtain ⟨xg, exg, lg, ug⟩ := ga_81 Wb tkg3 (i := pv) (by omega) (by omega)
  rw [bgc] at exg; cases exg
  have h19 : vfi q x 19 = vfi cb x 19 := vfi_fr Fq t_a0 (by decide)
  have h25 : vfi q x 25 = vfi cb x 25 := vfi_fr Fq t_a0 (by decide)
  have hc2 : vfi cb x 19 = 0 → cd2.toInt = cdb.toInt + 1 := fun hf => by
    have := (cw.2 hf).2.2
    rw [vfi_e dcd, vfi_e bcd] at this
    exact this
  have hff : xf2.toInt = f.toInt := by
    have a := vfi_e xF1
    have b := vfi_e b19
    omega
  have hc3 : ¬ f.toInt = 0 ∨ cd2.toInt = cdb.toInt + 1 := by
    by_cases z : f.toInt = 0
    · exact .inr (hc2 (by rw [vfi_e b19]; exact z))
    · exact .inl z
  refine ⟨xf2, xt2, xd2, xks, xkl, xkw, xna, xlb, xnw, xvn, kg3, gc3, cd2, xF0, xF1, xF2, xF3, xF4, xF5, xF6, xF7, xF8, xF9, xF10, (Zfr.gr Fq t_a0 (by decide)).trans bkg, (Zfr.ai Fq tkg3 (by decide)).trans bgc, dcd, xT0, xT1, xT2, tkg3, by omega, by omega, by omega, by omega, by omega, by omega, by omega, by omega, by omega, by omega, by omega, by omega, by omega, by omega, by omega, by omega, by omega, by omega, by omega, by omega, by omega, by omega, by omega, by omega, xH0, xH1, xH2, xH3, xH4, ?_⟩
  intro hf
  rw [h19] at hf
  obtain ⟨_, ⟨n, dd, s1, s2, _⟩, s3, _, _⟩ := hPB hf hf
  obtain ⟨w1, w2, w3⟩ := cw.2 hf
  rw [vfi_e bcd] at s1 s3 w1 w2 w3
  rw [h25, w3]
  unfold sm at s3
  rw [vfi_e b18] at s3
  have hx : 512 * (vfi cb x 25).toNat + cd.toInt.toNat + n = 512 * (vfi cb x 25).toNat + cdb.toInt.toNat := by omega
  refine ⟨n, dd, by omega, by omega, Cdp_cg (fun i hi => ?_) s2, ?_⟩
  · rw [w1, w2]; exact ⟨upd_n (by omega), upd_n (by omega)⟩
  · rw [hx, w1, upd_s]; decide
end ZzT
