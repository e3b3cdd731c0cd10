set_option maxRecDepth 100000 in
theorem km_0 : Cond.selects rr_PQ yy_PQ_append yy_PQ_append ∈ zT := zm 0 (by decide +kernel) (by decide +kernel)
set_option maxRecDepth 100000 in
theorem km_11 : Cond.selects rr_Reader yy_Reader_fail yy_Reader_fail ∈ zT := zm 11 (by decide +kernel) (by decide +kernel)
set_option maxRecDepth 100000 in
theorem km_12 : Cond.selects rr_Reader yy_Reader_failAt yy_Reader_failAt ∈ zT := zm 12 (by decide +kernel) (by decide +kernel)
set_option maxRecDepth 100000 in
theorem km_13 : Cond.selects rr_Reader yy_Reader_takeHead yy_Reader_takeHead ∈ zT := zm 13 (by decide +kernel) (by decide +kernel)
set_option maxRecDepth 100000 in
theorem km_14 : Cond.selects rr_Reader yy_Reader_takeInNode yy_Reader_takeInNode ∈ zT := zm 14 (by decide +kernel) (by decide +kernel)
set_option maxRecDepth 100000 in
theorem km_15 : Cond.selects rr_Reader yy_Reader_nameNode yy_Reader_nameNode ∈ zT := zm 15 (by decide +kernel) (by decide +kernel)
set_option maxRecDepth 100000 in
theorem km_16 : Cond.selects rr_Reader yy_Reader_tellNode yy_Reader_tellNode ∈ zT := zm 16 (by decide +kernel) (by decide +kernel)
set_option maxRecDepth 100000 in
theorem km_17 : Cond.selects rr_Reader yy_Reader_takeSlot yy_Reader_takeSlot ∈ zT := zm 17 (by decide +kernel) (by decide +kernel)
set_option maxRecDepth 100000 in
theorem km_18 : Cond.selects rr_Reader yy_Reader_makeKnown yy_Reader_makeKnown ∈ zT := zm 18 (by decide +kernel) (by decide +kernel)
set_option maxRecDepth 100000 in
theorem km_19 : Cond.selects rr_Reader yy_Reader_closeNode yy_Reader_closeNode ∈ zT := zm 19 (by decide +kernel) (by decide +kernel)
set_option maxRecDepth 100000 in
theorem km_20 : Cond.selects rr_Reader yy_Reader_takeAfterNode yy_Reader_takeAfterNode ∈ zT := zm 20 (by decide +kernel) (by decide +kernel)
set_option maxRecDepth 100000 in
theorem km_21 : Cond.selects rr_Reader yy_Reader_openWay yy_Reader_openWay ∈ zT := zm 21 (by decide +kernel) (by decide +kernel)
set_option maxRecDepth 100000 in
theorem km_22 : Cond.selects rr_Reader yy_Reader_passOn yy_Reader_passOn ∈ zT := zm 22 (by decide +kernel) (by decide +kernel)
set_option maxRecDepth 100000 in
theorem km_23 : Cond.selects rr_Reader yy_Reader_openGive yy_Reader_openGive ∈ zT := zm 23 (by decide +kernel) (by decide +kernel)
set_option maxRecDepth 100000 in
theorem km_24 : Cond.selects rr_Reader yy_Reader_takeInWay yy_Reader_takeInWay ∈ zT := zm 24 (by decide +kernel) (by decide +kernel)
set_option maxRecDepth 100000 in
theorem km_25 : Cond.selects rr_Reader yy_Reader_nameLeast yy_Reader_nameLeast ∈ zT := zm 25 (by decide +kernel) (by decide +kernel)
set_option maxRecDepth 100000 in
theorem km_26 : Cond.selects rr_Reader yy_Reader_takeStep yy_Reader_takeStep ∈ zT := zm 26 (by decide +kernel) (by decide +kernel)
set_option maxRecDepth 100000 in
theorem km_27 : Cond.selects rr_Way yy_Way_settlePending yy_Way_settlePending ∈ zT := zm 27 (by decide +kernel) (by decide +kernel)
set_option maxRecDepth 100000 in
theorem km_28 : Cond.selects rr_Way yy_Way_lead yy_Way_lead ∈ zT := zm 28 (by decide +kernel) (by decide +kernel)
set_option maxRecDepth 100000 in
theorem km_29 : Cond.selects rr_Reader yy_Reader_addStep yy_Reader_addStep ∈ zT := zm 29 (by decide +kernel) (by decide +kernel)
set_option maxRecDepth 100000 in
theorem km_30 : Cond.selects rr_Reader yy_Reader_takeAfterStep yy_Reader_takeAfterStep ∈ zT := zm 30 (by decide +kernel) (by decide +kernel)
set_option maxRecDepth 100000 in
theorem km_31 : Cond.selects rr_Reader yy_Reader_takeFact yy_Reader_takeFact ∈ zT := zm 31 (by decide +kernel) (by decide +kernel)
set_option maxRecDepth 100000 in
theorem km_32 : Cond.selects rr_Reader yy_Reader_takeAfterFact yy_Reader_takeAfterFact ∈ zT := zm 32 (by decide +kernel) (by decide +kernel)
set_option maxRecDepth 100000 in
theorem km_33 : Cond.selects rr_Operators yy_Operators_popOpen yy_Operators_popOpen ∈ zT := zm 33 (by decide +kernel) (by decide +kernel)
set_option maxRecDepth 100000 in
theorem km_34 : Cond.selects rr_Reader yy_Reader_takeUnit yy_Reader_takeUnit ∈ zT := zm 34 (by decide +kernel) (by decide +kernel)
set_option maxRecDepth 100000 in
theorem km_35 : Cond.selects rr_Reader yy_Reader_findVariable yy_Reader_findVariable ∈ zT := zm 35 (by decide +kernel) (by decide +kernel)
set_option maxRecDepth 100000 in
theorem km_36 : Cond.selects rr_Reader yy_Reader_takeAfterVariable yy_Reader_takeAfterVariable ∈ zT := zm 36 (by decide +kernel) (by decide +kernel)
set_option maxRecDepth 100000 in
theorem km_37 : Cond.selects rr_Reader yy_Reader_takeAfterUnit yy_Reader_takeAfterUnit ∈ zT := zm 37 (by decide +kernel) (by decide +kernel)
set_option maxRecDepth 100000 in
theorem km_38 : Cond.selects rr_Reader yy_Reader_takeComparison yy_Reader_takeComparison ∈ zT := zm 38 (by decide +kernel) (by decide +kernel)
set_option maxRecDepth 100000 in
theorem km_39 : Cond.selects rr_Reader yy_Reader_takeItem yy_Reader_takeItem ∈ zT := zm 39 (by decide +kernel) (by decide +kernel)
set_option maxRecDepth 100000 in
theorem km_40 : Cond.selects rr_Reader yy_Reader_takeTail yy_Reader_takeTail ∈ zT := zm 40 (by decide +kernel) (by decide +kernel)
set_option maxRecDepth 100000 in
theorem km_41 : Cond.selects rr_Reader yy_Reader_takeLimit yy_Reader_takeLimit ∈ zT := zm 41 (by decide +kernel) (by decide +kernel)
set_option maxRecDepth 100000 in
theorem km_42 : Cond.selects rr_Reader yy_Reader_givenSlot yy_Reader_givenSlot ∈ zT := zm 42 (by decide +kernel) (by decide +kernel)
set_option maxRecDepth 100000 in
theorem km_44 : Cond.selects rr_RuleBook yy_RuleBook_workOfAll yy_RuleBook_workOfAll ∈ zT := zm 44 (by decide +kernel) (by decide +kernel)
set_option maxRecDepth 100000 in
theorem km_45 : Cond.selects rr_RuleBook yy_RuleBook_isOneLarge yy_RuleBook_isOneLarge ∈ zT := zm 45 (by decide +kernel) (by decide +kernel)
set_option maxRecDepth 100000 in
theorem km_46 : Cond.selects rr_RuleBook yy_RuleBook_goRound yy_RuleBook_goRound ∈ zT := zm 46 (by decide +kernel) (by decide +kernel)
set_option maxRecDepth 100000 in
theorem km_47 : Cond.selects rr_Finder yy_Finder_measureFrom yy_Finder_measureFrom ∈ zT := zm 47 (by decide +kernel) (by decide +kernel)
set_option maxRecDepth 100000 in
theorem km_48 : Cond.selects rr_Finder yy_Finder_goFirst yy_Finder_goFirst ∈ zT := zm 48 (by decide +kernel) (by decide +kernel)
set_option maxRecDepth 100000 in
theorem km_49 : Cond.selects rr_Finder yy_Finder_goOn yy_Finder_goOn ∈ zT := zm 49 (by decide +kernel) (by decide +kernel)
set_option maxRecDepth 100000 in
theorem km_50 : Cond.selects rr_Finder yy_Finder_spread yy_Finder_spread ∈ zT := zm 50 (by decide +kernel) (by decide +kernel)
set_option maxRecDepth 100000 in
theorem km_51 : Cond.selects rr_Search yy_Search_candidates yy_Search_candidates ∈ zT := zm 51 (by decide +kernel) (by decide +kernel)
set_option maxRecDepth 100000 in
theorem km_52 : Cond.selects rr_Search yy_Search_knownFit yy_Search_knownFit ∈ zT := zm 52 (by decide +kernel) (by decide +kernel)
set_option maxRecDepth 100000 in
theorem km_53 : Cond.selects rr_Finder yy_Finder_load yy_Finder_load ∈ zT := zm 53 (by decide +kernel) (by decide +kernel)
set_option maxRecDepth 100000 in
theorem km_54 : Cond.selects rr_RuleBook yy_RuleBook_linkAll yy_RuleBook_linkAll ∈ zT := zm 54 (by decide +kernel) (by decide +kernel)
set_option maxRecDepth 100000 in
theorem km_125 : Cond.initialized rr_PQ ∈ zT := zm 125 (by decide +kernel) (by decide +kernel)
set_option maxRecDepth 100000 in
theorem km_126 : Cond.initialized rr_Graph ∈ zT := zm 126 (by decide +kernel) (by decide +kernel)
set_option maxRecDepth 100000 in
theorem km_127 : Cond.initialized rr_Arrays ∈ zT := zm 127 (by decide +kernel) (by decide +kernel)
set_option maxRecDepth 100000 in
theorem km_128 : Cond.initialized rr_Text ∈ zT := zm 128 (by decide +kernel) (by decide +kernel)
set_option maxRecDepth 100000 in
theorem km_129 : Cond.initialized rr_Way ∈ zT := zm 129 (by decide +kernel) (by decide +kernel)
set_option maxRecDepth 100000 in
theorem km_130 : Cond.initialized rr_Reader ∈ zT := zm 130 (by decide +kernel) (by decide +kernel)
set_option maxRecDepth 100000 in
theorem km_131 : Cond.initialized rr_Tokens ∈ zT := zm 131 (by decide +kernel) (by decide +kernel)
set_option maxRecDepth 100000 in
theorem km_132 : Cond.initialized rr_Operators ∈ zT := zm 132 (by decide +kernel) (by decide +kernel)
set_option maxRecDepth 100000 in
theorem km_133 : Cond.initialized rr_Finder ∈ zT := zm 133 (by decide +kernel) (by decide +kernel)
set_option maxRecDepth 100000 in
theorem km_134 : Cond.initialized rr_Search ∈ zT := zm 134 (by decide +kernel) (by decide +kernel)
set_option maxRecDepth 100000 in
theorem km_135 : Cond.initialized rr_RuleBook ∈ zT := zm 135 (by decide +kernel) (by decide +kernel)
set_option maxRecDepth 100000 in
theorem km_137 : Cond.initialized rr_Rows ∈ zT := zm 137 (by decide +kernel) (by decide +kernel)
set_option maxRecDepth 100000 in
theorem km_139 : Cond.initialized rr_Math ∈ zT := zm 139 (by decide +kernel) (by decide +kernel)
set_option maxRecDepth 100000 in
theorem km_145 : Cond.initialized rr_Integer ∈ zT := zm 145 (by decide +kernel) (by decide +kernel)
set_option maxRecDepth 100000 in
theorem km_161 : Cond.methodLink rr_Graph 43 yy_Arrays_fill ∈ zT := zm 161 (by decide +kernel) (by decide +kernel)
set_option maxRecDepth 100000 in
theorem km_162 : Cond.static yy_Arrays_fill ∈ zT := zm 162 (by decide +kernel) (by decide +kernel)
set_option maxRecDepth 100000 in
theorem km_163 : Cond.code yy_Arrays_fill bb_Arrays_fill 4 none ∈ zT := zm 163 (by decide +kernel) (by decide +kernel)
set_option maxRecDepth 100000 in
theorem km_164 : Cond.fieldLink rr_Graph 9 "PathQueries$Graph" "marks" "[I" ∈ zT := zm 164 (by decide +kernel) (by decide +kernel)
set_option maxRecDepth 100000 in
theorem km_165 : Cond.fieldLink rr_Graph 15 "PathQueries$Graph" "columns" "[I" ∈ zT := zm 165 (by decide +kernel) (by decide +kernel)
set_option maxRecDepth 100000 in
theorem km_166 : Cond.fieldLink rr_Finder 110 "PathQueries$Graph" "columns" "[I" ∈ zT := zm 166 (by decide +kernel) (by decide +kernel)
set_option maxRecDepth 100000 in
theorem km_167 : Cond.fieldLink rr_Graph 18 "PathQueries$Graph" "from" "[I" ∈ zT := zm 167 (by decide +kernel) (by decide +kernel)
set_option maxRecDepth 100000 in
theorem km_168 : Cond.fieldLink rr_Graph 21 "PathQueries$Graph" "to" "[I" ∈ zT := zm 168 (by decide +kernel) (by decide +kernel)
set_option maxRecDepth 100000 in
theorem km_169 : Cond.fieldLink rr_Graph 24 "PathQueries$Graph" "label" "[I" ∈ zT := zm 169 (by decide +kernel) (by decide +kernel)
set_option maxRecDepth 100000 in
theorem km_170 : Cond.fieldLink rr_Graph 27 "PathQueries$Graph" "weight" "[I" ∈ zT := zm 170 (by decide +kernel) (by decide +kernel)
set_option maxRecDepth 100000 in
theorem km_171 : Cond.fieldLink rr_Graph 30 "PathQueries$Graph" "reach" "[I" ∈ zT := zm 171 (by decide +kernel) (by decide +kernel)
set_option maxRecDepth 100000 in
theorem km_172 : Cond.fieldLink rr_Finder 174 "PathQueries$Graph" "reach" "[I" ∈ zT := zm 172 (by decide +kernel) (by decide +kernel)
set_option maxRecDepth 100000 in
theorem km_173 : Cond.fieldLink rr_Graph 33 "PathQueries$Graph" "nodes" "I" ∈ zT := zm 173 (by decide +kernel) (by decide +kernel)
set_option maxRecDepth 100000 in
theorem km_174 : Cond.fieldLink rr_Search 84 "PathQueries$Graph" "nodes" "I" ∈ zT := zm 174 (by decide +kernel) (by decide +kernel)
set_option maxRecDepth 100000 in
theorem km_175 : Cond.fieldLink rr_RuleBook 69 "PathQueries$Graph" "nodes" "I" ∈ zT := zm 175 (by decide +kernel) (by decide +kernel)
set_option maxRecDepth 100000 in
theorem km_176 : Cond.fieldLink rr_Finder 143 "PathQueries$Graph" "nodes" "I" ∈ zT := zm 176 (by decide +kernel) (by decide +kernel)
set_option maxRecDepth 100000 in
theorem km_177 : Cond.fieldLink rr_PQ 115 "PathQueries$Graph" "nodes" "I" ∈ zT := zm 177 (by decide +kernel) (by decide +kernel)
set_option maxRecDepth 100000 in
theorem km_178 : Cond.fieldLink rr_Graph 37 "PathQueries$Graph" "arcs" "I" ∈ zT := zm 178 (by decide +kernel) (by decide +kernel)
set_option maxRecDepth 100000 in
theorem km_179 : Cond.fieldLink rr_PQ 112 "PathQueries$Graph" "arcs" "I" ∈ zT := zm 179 (by decide +kernel) (by decide +kernel)
set_option maxRecDepth 100000 in
theorem km_180 : Cond.fieldLink rr_Graph 40 "PathQueries$Graph" "version" "I" ∈ zT := zm 180 (by decide +kernel) (by decide +kernel)
set_option maxRecDepth 100000 in
theorem km_181 : Cond.fieldLink rr_RuleBook 44 "PathQueries$Graph" "version" "I" ∈ zT := zm 181 (by decide +kernel) (by decide +kernel)
set_option maxRecDepth 100000 in
theorem km_182 : Cond.fieldLink rr_Finder 137 "PathQueries$Graph" "version" "I" ∈ zT := zm 182 (by decide +kernel) (by decide +kernel)
set_option maxRecDepth 100000 in
theorem km_183 : Cond.fieldLink rr_PQ 145 "PathQueries$Graph" "version" "I" ∈ zT := zm 183 (by decide +kernel) (by decide +kernel)
set_option maxRecDepth 100000 in
theorem km_220 : Cond.constantLong rr_Way 45 (-1) ∈ zT := zm 220 (by decide +kernel) (by decide +kernel)
set_option maxRecDepth 100000 in
theorem km_221 : Cond.fieldLink rr_Way 9 "PathQueries$Way" "from" "I" ∈ zT := zm 221 (by decide +kernel) (by decide +kernel)
set_option maxRecDepth 100000 in
theorem km_222 : Cond.fieldLink rr_Finder 113 "PathQueries$Way" "from" "I" ∈ zT := zm 222 (by decide +kernel) (by decide +kernel)
set_option maxRecDepth 100000 in
theorem km_223 : Cond.fieldLink rr_Search 99 "PathQueries$Way" "from" "I" ∈ zT := zm 223 (by decide +kernel) (by decide +kernel)
set_option maxRecDepth 100000 in
theorem km_224 : Cond.fieldLink rr_Way 15 "PathQueries$Way" "to" "I" ∈ zT := zm 224 (by decide +kernel) (by decide +kernel)
set_option maxRecDepth 100000 in
theorem km_225 : Cond.fieldLink rr_Finder 118 "PathQueries$Way" "to" "I" ∈ zT := zm 225 (by decide +kernel) (by decide +kernel)
set_option maxRecDepth 100000 in
theorem km_226 : Cond.fieldLink rr_Search 104 "PathQueries$Way" "to" "I" ∈ zT := zm 226 (by decide +kernel) (by decide +kernel)
set_option maxRecDepth 100000 in
theorem km_227 : Cond.fieldLink rr_Way 18 "PathQueries$Way" "leastSlot" "I" ∈ zT := zm 227 (by decide +kernel) (by decide +kernel)
set_option maxRecDepth 100000 in
theorem km_228 : Cond.fieldLink rr_Text 87 "PathQueries$Way" "leastSlot" "I" ∈ zT := zm 228 (by decide +kernel) (by decide +kernel)
set_option maxRecDepth 100000 in
theorem km_229 : Cond.fieldLink rr_Reader 247 "PathQueries$Way" "leastSlot" "I" ∈ zT := zm 229 (by decide +kernel) (by decide +kernel)
set_option maxRecDepth 100000 in
theorem km_230 : Cond.fieldLink rr_Way 21 "PathQueries$Way" "turned" "Z" ∈ zT := zm 230 (by decide +kernel) (by decide +kernel)
set_option maxRecDepth 100000 in
theorem km_231 : Cond.fieldLink rr_Reader 244 "PathQueries$Way" "turned" "Z" ∈ zT := zm 231 (by decide +kernel) (by decide +kernel)
set_option maxRecDepth 100000 in
theorem km_232 : Cond.fieldLink rr_PQ 207 "PathQueries$Way" "turned" "Z" ∈ zT := zm 232 (by decide +kernel) (by decide +kernel)
set_option maxRecDepth 100000 in
theorem km_233 : Cond.fieldLink rr_Way 25 "PathQueries$Way" "ruled" "Z" ∈ zT := zm 233 (by decide +kernel) (by decide +kernel)
set_option maxRecDepth 100000 in
theorem km_234 : Cond.fieldLink rr_RuleBook 120 "PathQueries$Way" "ruled" "Z" ∈ zT := zm 234 (by decide +kernel) (by decide +kernel)
set_option maxRecDepth 100000 in
theorem km_235 : Cond.fieldLink rr_Way 28 "PathQueries$Way" "steps" "I" ∈ zT := zm 235 (by decide +kernel) (by decide +kernel)
set_option maxRecDepth 100000 in
theorem km_236 : Cond.fieldLink rr_Finder 167 "PathQueries$Way" "steps" "I" ∈ zT := zm 236 (by decide +kernel) (by decide +kernel)
set_option maxRecDepth 100000 in
theorem km_237 : Cond.fieldLink rr_Reader 253 "PathQueries$Way" "steps" "I" ∈ zT := zm 237 (by decide +kernel) (by decide +kernel)
set_option maxRecDepth 100000 in
theorem km_238 : Cond.fieldLink rr_Way 31 "PathQueries$Way" "step" "[I" ∈ zT := zm 238 (by decide +kernel) (by decide +kernel)
set_option maxRecDepth 100000 in
theorem km_239 : Cond.fieldLink rr_Finder 177 "PathQueries$Way" "step" "[I" ∈ zT := zm 239 (by decide +kernel) (by decide +kernel)
set_option maxRecDepth 100000 in
theorem km_240 : Cond.fieldLink rr_Way 35 "PathQueries$Way" "follow" "[I" ∈ zT := zm 240 (by decide +kernel) (by decide +kernel)
set_option maxRecDepth 100000 in
theorem km_241 : Cond.fieldLink rr_Finder 186 "PathQueries$Way" "follow" "[I" ∈ zT := zm 241 (by decide +kernel) (by decide +kernel)
set_option maxRecDepth 100000 in
theorem km_242 : Cond.fieldLink rr_Way 38 "PathQueries$Way" "whole" "J" ∈ zT := zm 242 (by decide +kernel) (by decide +kernel)
set_option maxRecDepth 100000 in
theorem km_243 : Cond.fieldLink rr_Finder 150 "PathQueries$Way" "whole" "J" ∈ zT := zm 243 (by decide +kernel) (by decide +kernel)
set_option maxRecDepth 100000 in
theorem km_244 : Cond.fieldLink rr_Way 42 "PathQueries$Way" "level" "I" ∈ zT := zm 244 (by decide +kernel) (by decide +kernel)
set_option maxRecDepth 100000 in
theorem km_245 : Cond.fieldLink rr_Reader 268 "PathQueries$Way" "level" "I" ∈ zT := zm 245 (by decide +kernel) (by decide +kernel)
set_option maxRecDepth 100000 in
theorem km_246 : Cond.fieldLink rr_Way 47 "PathQueries$Way" "pending" "J" ∈ zT := zm 246 (by decide +kernel) (by decide +kernel)
set_option maxRecDepth 100000 in
theorem km_247 : Cond.fieldLink rr_Way 50 "PathQueries$Way" "either" "[J" ∈ zT := zm 247 (by decide +kernel) (by decide +kernel)
set_option maxRecDepth 100000 in
theorem km_248 : Cond.fieldLink rr_Way 54 "PathQueries$Way" "row" "[J" ∈ zT := zm 248 (by decide +kernel) (by decide +kernel)
set_option maxRecDepth 100000 in
theorem km_249 : Cond.fieldLink rr_Way 57 "PathQueries$Way" "arcs" "[I" ∈ zT := zm 249 (by decide +kernel) (by decide +kernel)
set_option maxRecDepth 100000 in
theorem km_250 : Cond.fieldLink rr_Way 60 "PathQueries$Way" "ahead" "[I" ∈ zT := zm 250 (by decide +kernel) (by decide +kernel)
set_option maxRecDepth 100000 in
theorem km_251 : Cond.fieldLink rr_Search 113 "PathQueries$Way" "ahead" "[I" ∈ zT := zm 251 (by decide +kernel) (by decide +kernel)
set_option maxRecDepth 100000 in
theorem km_252 : Cond.fieldLink rr_Finder 164 "PathQueries$Way" "ahead" "[I" ∈ zT := zm 252 (by decide +kernel) (by decide +kernel)
set_option maxRecDepth 100000 in
theorem km_253 : Cond.fieldLink rr_Way 63 "PathQueries$Way" "behind" "[I" ∈ zT := zm 253 (by decide +kernel) (by decide +kernel)
set_option maxRecDepth 100000 in
theorem km_254 : Cond.fieldLink rr_Search 110 "PathQueries$Way" "behind" "[I" ∈ zT := zm 254 (by decide +kernel) (by decide +kernel)
set_option maxRecDepth 100000 in
theorem km_255 : Cond.fieldLink rr_Way 66 "PathQueries$Way" "loops" "I" ∈ zT := zm 255 (by decide +kernel) (by decide +kernel)
set_option maxRecDepth 100000 in
theorem km_256 : Cond.fieldLink rr_Search 107 "PathQueries$Way" "loops" "I" ∈ zT := zm 256 (by decide +kernel) (by decide +kernel)
set_option maxRecDepth 100000 in
theorem km_257 : Cond.fieldLink rr_Way 69 "PathQueries$Way" "measuredAt" "I" ∈ zT := zm 257 (by decide +kernel) (by decide +kernel)
set_option maxRecDepth 100000 in
theorem km_258 : Cond.fieldLink rr_Finder 134 "PathQueries$Way" "measuredAt" "I" ∈ zT := zm 258 (by decide +kernel) (by decide +kernel)
set_option maxRecDepth 100000 in
theorem km_259 : Cond.fieldLink rr_RuleBook 125 "PathQueries$Way" "measuredAt" "I" ∈ zT := zm 259 (by decide +kernel) (by decide +kernel)
set_option maxRecDepth 100000 in
theorem km_298 : Cond.fieldLink rr_Text 9 "PathQueries$Text" "stands" "Z" ∈ zT := zm 298 (by decide +kernel) (by decide +kernel)
set_option maxRecDepth 100000 in
theorem km_299 : Cond.fieldLink rr_RuleBook 38 "PathQueries$Text" "stands" "Z" ∈ zT := zm 299 (by decide +kernel) (by decide +kernel)
set_option maxRecDepth 100000 in
theorem km_301 : Cond.fieldLink rr_PQ 154 "PathQueries$Text" "stands" "Z" ∈ zT := zm 301 (by decide +kernel) (by decide +kernel)
set_option maxRecDepth 100000 in
theorem km_303 : Cond.fieldLink rr_RuleBook 41 "PathQueries$Text" "label" "I" ∈ zT := zm 303 (by decide +kernel) (by decide +kernel)
set_option maxRecDepth 100000 in
theorem km_304 : Cond.fieldLink rr_Reader 181 "PathQueries$Text" "label" "I" ∈ zT := zm 304 (by decide +kernel) (by decide +kernel)
set_option maxRecDepth 100000 in
theorem km_306 : Cond.fieldLink rr_Text 19 "PathQueries$Text" "nodeSlots" "I" ∈ zT := zm 306 (by decide +kernel) (by decide +kernel)
set_option maxRecDepth 100000 in
theorem km_307 : Cond.fieldLink rr_Reader 199 "PathQueries$Text" "nodeSlots" "I" ∈ zT := zm 307 (by decide +kernel) (by decide +kernel)
set_option maxRecDepth 100000 in
theorem km_308 : Cond.fieldLink rr_Text 22 "PathQueries$Text" "ways" "I" ∈ zT := zm 308 (by decide +kernel) (by decide +kernel)
set_option maxRecDepth 100000 in
theorem km_309 : Cond.fieldLink rr_Finder 47 "PathQueries$Text" "ways" "I" ∈ zT := zm 309 (by decide +kernel) (by decide +kernel)
set_option maxRecDepth 100000 in
theorem km_310 : Cond.fieldLink rr_RuleBook 113 "PathQueries$Text" "ways" "I" ∈ zT := zm 310 (by decide +kernel) (by decide +kernel)
set_option maxRecDepth 100000 in
theorem km_311 : Cond.fieldLink rr_Reader 236 "PathQueries$Text" "ways" "I" ∈ zT := zm 311 (by decide +kernel) (by decide +kernel)
set_option maxRecDepth 100000 in
theorem km_312 : Cond.fieldLink rr_PQ 196 "PathQueries$Text" "ways" "I" ∈ zT := zm 312 (by decide +kernel) (by decide +kernel)
set_option maxRecDepth 100000 in
theorem km_313 : Cond.fieldLink rr_Text 27 "PathQueries$Text" "way" "[LPathQueries$Way;" ∈ zT := zm 313 (by decide +kernel) (by decide +kernel)
set_option maxRecDepth 100000 in
theorem km_314 : Cond.fieldLink rr_Reader 73 "PathQueries$Text" "way" "[LPathQueries$Way;" ∈ zT := zm 314 (by decide +kernel) (by decide +kernel)
set_option maxRecDepth 100000 in
theorem km_315 : Cond.fieldLink rr_Finder 53 "PathQueries$Text" "way" "[LPathQueries$Way;" ∈ zT := zm 315 (by decide +kernel) (by decide +kernel)
set_option maxRecDepth 100000 in
theorem km_316 : Cond.fieldLink rr_Search 95 "PathQueries$Text" "way" "[LPathQueries$Way;" ∈ zT := zm 316 (by decide +kernel) (by decide +kernel)
set_option maxRecDepth 100000 in
theorem km_317 : Cond.fieldLink rr_RuleBook 116 "PathQueries$Text" "way" "[LPathQueries$Way;" ∈ zT := zm 317 (by decide +kernel) (by decide +kernel)
set_option maxRecDepth 100000 in
theorem km_318 : Cond.fieldLink rr_PQ 199 "PathQueries$Text" "way" "[LPathQueries$Way;" ∈ zT := zm 318 (by decide +kernel) (by decide +kernel)
set_option maxRecDepth 100000 in
theorem km_319 : Cond.fieldLink rr_Text 31 "PathQueries$Text" "demands" "I" ∈ zT := zm 319 (by decide +kernel) (by decide +kernel)
set_option maxRecDepth 100000 in
theorem km_320 : Cond.fieldLink rr_Finder 61 "PathQueries$Text" "demands" "I" ∈ zT := zm 320 (by decide +kernel) (by decide +kernel)
set_option maxRecDepth 100000 in
theorem km_321 : Cond.fieldLink rr_Text 34 "PathQueries$Text" "demand" "[I" ∈ zT := zm 321 (by decide +kernel) (by decide +kernel)
set_option maxRecDepth 100000 in
theorem km_322 : Cond.fieldLink rr_Finder 67 "PathQueries$Text" "demand" "[I" ∈ zT := zm 322 (by decide +kernel) (by decide +kernel)
set_option maxRecDepth 100000 in
theorem km_323 : Cond.fieldLink rr_Search 89 "PathQueries$Text" "demand" "[I" ∈ zT := zm 323 (by decide +kernel) (by decide +kernel)
set_option maxRecDepth 100000 in
theorem km_325 : Cond.fieldLink rr_Finder 64 "PathQueries$Text" "suited" "[I" ∈ zT := zm 325 (by decide +kernel) (by decide +kernel)
set_option maxRecDepth 100000 in
theorem km_326 : Cond.fieldLink rr_Search 92 "PathQueries$Text" "suited" "[I" ∈ zT := zm 326 (by decide +kernel) (by decide +kernel)
set_option maxRecDepth 100000 in
theorem km_327 : Cond.fieldLink rr_Text 41 "PathQueries$Text" "groups" "I" ∈ zT := zm 327 (by decide +kernel) (by decide +kernel)
set_option maxRecDepth 100000 in
theorem km_328 : Cond.fieldLink rr_Reader 205 "PathQueries$Text" "groups" "I" ∈ zT := zm 328 (by decide +kernel) (by decide +kernel)
set_option maxRecDepth 100000 in
theorem km_329 : Cond.fieldLink rr_Text 44 "PathQueries$Text" "own" "[I" ∈ zT := zm 329 (by decide +kernel) (by decide +kernel)
set_option maxRecDepth 100000 in
theorem km_330 : Cond.fieldLink rr_Search 59 "PathQueries$Text" "own" "[I" ∈ zT := zm 330 (by decide +kernel) (by decide +kernel)
set_option maxRecDepth 100000 in
theorem km_331 : Cond.fieldLink rr_Reader 202 "PathQueries$Text" "own" "[I" ∈ zT := zm 331 (by decide +kernel) (by decide +kernel)
set_option maxRecDepth 100000 in
theorem km_332 : Cond.fieldLink rr_Text 47 "PathQueries$Text" "wayEnd" "[I" ∈ zT := zm 332 (by decide +kernel) (by decide +kernel)
set_option maxRecDepth 100000 in
theorem km_333 : Cond.fieldLink rr_Search 51 "PathQueries$Text" "wayEnd" "[I" ∈ zT := zm 333 (by decide +kernel) (by decide +kernel)
set_option maxRecDepth 100000 in
theorem km_334 : Cond.fieldLink rr_Text 50 "PathQueries$Text" "demandEnd" "[I" ∈ zT := zm 334 (by decide +kernel) (by decide +kernel)
set_option maxRecDepth 100000 in
theorem km_335 : Cond.fieldLink rr_Search 56 "PathQueries$Text" "demandEnd" "[I" ∈ zT := zm 335 (by decide +kernel) (by decide +kernel)
set_option maxRecDepth 100000 in
theorem km_336 : Cond.fieldLink rr_Text 53 "PathQueries$Text" "codeEnd" "I" ∈ zT := zm 336 (by decide +kernel) (by decide +kernel)
set_option maxRecDepth 100000 in
theorem km_337 : Cond.fieldLink rr_Operators 58 "PathQueries$Text" "codeEnd" "I" ∈ zT := zm 337 (by decide +kernel) (by decide +kernel)
set_option maxRecDepth 100000 in
theorem km_338 : Cond.fieldLink rr_Reader 295 "PathQueries$Text" "codeEnd" "I" ∈ zT := zm 338 (by decide +kernel) (by decide +kernel)
set_option maxRecDepth 100000 in
theorem km_339 : Cond.fieldLink rr_Text 56 "PathQueries$Text" "code" "[I" ∈ zT := zm 339 (by decide +kernel) (by decide +kernel)
set_option maxRecDepth 100000 in
theorem km_340 : Cond.fieldLink rr_Finder 91 "PathQueries$Text" "code" "[I" ∈ zT := zm 340 (by decide +kernel) (by decide +kernel)
set_option maxRecDepth 100000 in
theorem km_341 : Cond.fieldLink rr_Text 59 "PathQueries$Text" "condEnd" "I" ∈ zT := zm 341 (by decide +kernel) (by decide +kernel)
set_option maxRecDepth 100000 in
theorem km_342 : Cond.fieldLink rr_Finder 84 "PathQueries$Text" "condEnd" "I" ∈ zT := zm 342 (by decide +kernel) (by decide +kernel)
set_option maxRecDepth 100000 in
theorem km_343 : Cond.fieldLink rr_Reader 298 "PathQueries$Text" "condEnd" "I" ∈ zT := zm 343 (by decide +kernel) (by decide +kernel)
set_option maxRecDepth 100000 in
theorem km_344 : Cond.fieldLink rr_Text 62 "PathQueries$Text" "items" "I" ∈ zT := zm 344 (by decide +kernel) (by decide +kernel)
set_option maxRecDepth 100000 in
theorem km_345 : Cond.fieldLink rr_Collector 45 "PathQueries$Text" "items" "I" ∈ zT := zm 345 (by decide +kernel) (by decide +kernel)
set_option maxRecDepth 100000 in
theorem km_347 : Cond.fieldLink rr_Reader 330 "PathQueries$Text" "items" "I" ∈ zT := zm 347 (by decide +kernel) (by decide +kernel)
set_option maxRecDepth 100000 in
theorem km_348 : Cond.fieldLink rr_Text 65 "PathQueries$Text" "itemKind" "[I" ∈ zT := zm 348 (by decide +kernel) (by decide +kernel)
set_option maxRecDepth 100000 in
theorem km_349 : Cond.fieldLink rr_Collector 92 "PathQueries$Text" "itemKind" "[I" ∈ zT := zm 349 (by decide +kernel) (by decide +kernel)
set_option maxRecDepth 100000 in
theorem km_350 : Cond.fieldLink rr_Text 68 "PathQueries$Text" "itemEnd" "[I" ∈ zT := zm 350 (by decide +kernel) (by decide +kernel)
set_option maxRecDepth 100000 in
theorem km_352 : Cond.fieldLink rr_Text 71 "PathQueries$Text" "limit" "I" ∈ zT := zm 352 (by decide +kernel) (by decide +kernel)
set_option maxRecDepth 100000 in
theorem km_354 : Cond.fieldLink rr_Reader 348 "PathQueries$Text" "limit" "I" ∈ zT := zm 354 (by decide +kernel) (by decide +kernel)
set_option maxRecDepth 100000 in
theorem km_356 : Cond.fieldLink rr_RuleBook 99 "PathQueries$Text" "giveFrom" "I" ∈ zT := zm 356 (by decide +kernel) (by decide +kernel)
set_option maxRecDepth 100000 in
theorem km_357 : Cond.fieldLink rr_Reader 342 "PathQueries$Text" "giveFrom" "I" ∈ zT := zm 357 (by decide +kernel) (by decide +kernel)
set_option maxRecDepth 100000 in
theorem km_359 : Cond.fieldLink rr_RuleBook 102 "PathQueries$Text" "giveTo" "I" ∈ zT := zm 359 (by decide +kernel) (by decide +kernel)
set_option maxRecDepth 100000 in
theorem km_360 : Cond.fieldLink rr_Reader 345 "PathQueries$Text" "giveTo" "I" ∈ zT := zm 360 (by decide +kernel) (by decide +kernel)
set_option maxRecDepth 100000 in
theorem km_418 : Cond.fieldLink rr_Tokens 15 "PathQueries$Tokens" "value" "[I" ∈ zT := zm 418 (by decide +kernel) (by decide +kernel)
set_option maxRecDepth 100000 in
theorem km_419 : Cond.fieldLink rr_Reader 178 "PathQueries$Tokens" "value" "[I" ∈ zT := zm 419 (by decide +kernel) (by decide +kernel)
set_option maxRecDepth 100000 in
theorem km_421 : Cond.fieldLink rr_Reader 130 "PathQueries$Tokens" "place" "[I" ∈ zT := zm 421 (by decide +kernel) (by decide +kernel)
set_option maxRecDepth 100000 in
theorem km_422 : Cond.fieldLink rr_Tokens 21 "PathQueries$Tokens" "count" "I" ∈ zT := zm 422 (by decide +kernel) (by decide +kernel)
set_option maxRecDepth 100000 in
theorem km_424 : Cond.fieldLink rr_Tokens 25 "PathQueries$Tokens" "tape" "[B" ∈ zT := zm 424 (by decide +kernel) (by decide +kernel)
set_option maxRecDepth 100000 in
theorem km_445 : Cond.fieldLink rr_Operators 9 "PathQueries$Operators" "open" "I" ∈ zT := zm 445 (by decide +kernel) (by decide +kernel)
set_option maxRecDepth 100000 in
theorem km_446 : Cond.fieldLink rr_Reader 136 "PathQueries$Operators" "open" "I" ∈ zT := zm 446 (by decide +kernel) (by decide +kernel)
set_option maxRecDepth 100000 in
theorem km_447 : Cond.fieldLink rr_Operators 15 "PathQueries$Operators" "parens" "I" ∈ zT := zm 447 (by decide +kernel) (by decide +kernel)
set_option maxRecDepth 100000 in
theorem km_448 : Cond.fieldLink rr_Reader 315 "PathQueries$Operators" "parens" "I" ∈ zT := zm 448 (by decide +kernel) (by decide +kernel)
set_option maxRecDepth 100000 in
theorem km_449 : Cond.fieldLink rr_Operators 18 "PathQueries$Operators" "brackets" "I" ∈ zT := zm 449 (by decide +kernel) (by decide +kernel)
set_option maxRecDepth 100000 in
theorem km_450 : Cond.fieldLink rr_Reader 289 "PathQueries$Operators" "brackets" "I" ∈ zT := zm 450 (by decide +kernel) (by decide +kernel)
set_option maxRecDepth 100000 in
theorem km_451 : Cond.fieldLink rr_Operators 34 "PathQueries$Operators" "text" "LPathQueries$Text;" ∈ zT := zm 451 (by decide +kernel) (by decide +kernel)
set_option maxRecDepth 100000 in
theorem km_452 : Cond.fieldLink rr_Operators 21 "PathQueries$Operators" "top" "I" ∈ zT := zm 452 (by decide +kernel) (by decide +kernel)
set_option maxRecDepth 100000 in
theorem km_453 : Cond.fieldLink rr_Operators 24 "PathQueries$Operators" "rank" "[I" ∈ zT := zm 453 (by decide +kernel) (by decide +kernel)
set_option maxRecDepth 100000 in
theorem km_454 : Cond.fieldLink rr_Operators 28 "PathQueries$Operators" "op" "[I" ∈ zT := zm 454 (by decide +kernel) (by decide +kernel)
set_option maxRecDepth 100000 in
theorem km_455 : Cond.fieldLink rr_Operators 31 "PathQueries$Operators" "skip" "[I" ∈ zT := zm 455 (by decide +kernel) (by decide +kernel)
set_option maxRecDepth 100000 in
theorem km_473 : Cond.fieldLink rr_Reader 9 "PathQueries$Reader" "faultPlace" "I" ∈ zT := zm 473 (by decide +kernel) (by decide +kernel)
set_option maxRecDepth 100000 in
theorem km_474 : Cond.fieldLink rr_PQ 158 "PathQueries$Reader" "faultPlace" "I" ∈ zT := zm 474 (by decide +kernel) (by decide +kernel)
set_option maxRecDepth 100000 in
theorem km_475 : Cond.fieldLink rr_Reader 18 "PathQueries$Reader" "tokens" "LPathQueries$Tokens;" ∈ zT := zm 475 (by decide +kernel) (by decide +kernel)
set_option maxRecDepth 100000 in
theorem km_476 : Cond.fieldLink rr_Reader 87 "PathQueries$Reader" "operators" "LPathQueries$Operators;" ∈ zT := zm 476 (by decide +kernel) (by decide +kernel)
set_option maxRecDepth 100000 in
theorem km_477 : Cond.fieldLink rr_Reader 22 "PathQueries$Reader" "slotOf" "[I" ∈ zT := zm 477 (by decide +kernel) (by decide +kernel)
set_option maxRecDepth 100000 in
theorem km_478 : Cond.fieldLink rr_Reader 69 "PathQueries$Reader" "text" "LPathQueries$Text;" ∈ zT := zm 478 (by decide +kernel) (by decide +kernel)
set_option maxRecDepth 100000 in
theorem km_479 : Cond.fieldLink rr_Reader 79 "PathQueries$Reader" "way" "LPathQueries$Way;" ∈ zT := zm 479 (by decide +kernel) (by decide +kernel)
set_option maxRecDepth 100000 in
theorem km_480 : Cond.fieldLink rr_Reader 26 "PathQueries$Reader" "forRule" "Z" ∈ zT := zm 480 (by decide +kernel) (by decide +kernel)
set_option maxRecDepth 100000 in
theorem km_481 : Cond.fieldLink rr_Reader 30 "PathQueries$Reader" "at" "I" ∈ zT := zm 481 (by decide +kernel) (by decide +kernel)
set_option maxRecDepth 100000 in
theorem km_482 : Cond.fieldLink rr_Reader 33 "PathQueries$Reader" "state" "I" ∈ zT := zm 482 (by decide +kernel) (by decide +kernel)
set_option maxRecDepth 100000 in
theorem km_483 : Cond.fieldLink rr_Reader 36 "PathQueries$Reader" "fault" "I" ∈ zT := zm 483 (by decide +kernel) (by decide +kernel)
set_option maxRecDepth 100000 in
theorem km_484 : Cond.fieldLink rr_Reader 39 "PathQueries$Reader" "slots" "I" ∈ zT := zm 484 (by decide +kernel) (by decide +kernel)
set_option maxRecDepth 100000 in
theorem km_485 : Cond.fieldLink rr_Reader 42 "PathQueries$Reader" "known" "I" ∈ zT := zm 485 (by decide +kernel) (by decide +kernel)
set_option maxRecDepth 100000 in
theorem km_486 : Cond.fieldLink rr_Reader 45 "PathQueries$Reader" "leasts" "I" ∈ zT := zm 486 (by decide +kernel) (by decide +kernel)
set_option maxRecDepth 100000 in
theorem km_487 : Cond.fieldLink rr_Reader 48 "PathQueries$Reader" "knownOutside" "I" ∈ zT := zm 487 (by decide +kernel) (by decide +kernel)
set_option maxRecDepth 100000 in
theorem km_488 : Cond.fieldLink rr_Reader 51 "PathQueries$Reader" "opener" "I" ∈ zT := zm 488 (by decide +kernel) (by decide +kernel)
set_option maxRecDepth 100000 in
theorem km_489 : Cond.fieldLink rr_Reader 54 "PathQueries$Reader" "front" "I" ∈ zT := zm 489 (by decide +kernel) (by decide +kernel)
set_option maxRecDepth 100000 in
theorem km_490 : Cond.fieldLink rr_Reader 57 "PathQueries$Reader" "slot" "I" ∈ zT := zm 490 (by decide +kernel) (by decide +kernel)
set_option maxRecDepth 100000 in
theorem km_491 : Cond.fieldLink rr_Reader 60 "PathQueries$Reader" "marks" "I" ∈ zT := zm 491 (by decide +kernel) (by decide +kernel)
set_option maxRecDepth 100000 in
theorem km_492 : Cond.fieldLink rr_Reader 63 "PathQueries$Reader" "side" "I" ∈ zT := zm 492 (by decide +kernel) (by decide +kernel)
set_option maxRecDepth 100000 in
theorem km_493 : Cond.fieldLink rr_Reader 66 "PathQueries$Reader" "taken" "Z" ∈ zT := zm 493 (by decide +kernel) (by decide +kernel)
set_option maxRecDepth 100000 in
theorem km_547 : Cond.fieldLink rr_Search 40 "PathQueries$Search" "graph" "LPathQueries$Graph;" ∈ zT := zm 547 (by decide +kernel) (by decide +kernel)
set_option maxRecDepth 100000 in
theorem km_548 : Cond.fieldLink rr_Search 48 "PathQueries$Search" "value" "[I" ∈ zT := zm 548 (by decide +kernel) (by decide +kernel)
set_option maxRecDepth 100000 in
theorem km_549 : Cond.fieldLink rr_Search 9 "PathQueries$Search" "order" "[I" ∈ zT := zm 549 (by decide +kernel) (by decide +kernel)
set_option maxRecDepth 100000 in
theorem km_550 : Cond.fieldLink rr_Search 15 "PathQueries$Search" "before" "[I" ∈ zT := zm 550 (by decide +kernel) (by decide +kernel)
set_option maxRecDepth 100000 in
theorem km_551 : Cond.fieldLink rr_Search 18 "PathQueries$Search" "left" "[I" ∈ zT := zm 551 (by decide +kernel) (by decide +kernel)
set_option maxRecDepth 100000 in
theorem km_552 : Cond.fieldLink rr_Search 44 "PathQueries$Search" "text" "LPathQueries$Text;" ∈ zT := zm 552 (by decide +kernel) (by decide +kernel)
set_option maxRecDepth 100000 in
theorem km_553 : Cond.fieldLink rr_Search 21 "PathQueries$Search" "firstWay" "I" ∈ zT := zm 553 (by decide +kernel) (by decide +kernel)
set_option maxRecDepth 100000 in
theorem km_554 : Cond.fieldLink rr_Search 25 "PathQueries$Search" "endWay" "I" ∈ zT := zm 554 (by decide +kernel) (by decide +kernel)
set_option maxRecDepth 100000 in
theorem km_555 : Cond.fieldLink rr_Search 28 "PathQueries$Search" "firstDemand" "I" ∈ zT := zm 555 (by decide +kernel) (by decide +kernel)
set_option maxRecDepth 100000 in
theorem km_556 : Cond.fieldLink rr_Search 31 "PathQueries$Search" "endDemand" "I" ∈ zT := zm 556 (by decide +kernel) (by decide +kernel)
set_option maxRecDepth 100000 in
theorem km_557 : Cond.fieldLink rr_Search 34 "PathQueries$Search" "count" "I" ∈ zT := zm 557 (by decide +kernel) (by decide +kernel)
set_option maxRecDepth 100000 in
theorem km_558 : Cond.fieldLink rr_Search 37 "PathQueries$Search" "depth" "I" ∈ zT := zm 558 (by decide +kernel) (by decide +kernel)
set_option maxRecDepth 100000 in
theorem km_584 : Cond.fieldLink rr_Finder 9 "PathQueries$Finder" "value" "[I" ∈ zT := zm 584 (by decide +kernel) (by decide +kernel)
set_option maxRecDepth 100000 in
theorem km_585 : Cond.fieldLink rr_RuleBook 96 "PathQueries$Finder" "value" "[I" ∈ zT := zm 585 (by decide +kernel) (by decide +kernel)
set_option maxRecDepth 100000 in
theorem km_586 : Cond.fieldLink rr_Finder 27 "PathQueries$Finder" "graph" "LPathQueries$Graph;" ∈ zT := zm 586 (by decide +kernel) (by decide +kernel)
set_option maxRecDepth 100000 in
theorem km_587 : Cond.fieldLink rr_Finder 40 "PathQueries$Finder" "matched" "LPathQueries$Search;" ∈ zT := zm 587 (by decide +kernel) (by decide +kernel)
set_option maxRecDepth 100000 in
theorem km_588 : Cond.fieldLink rr_Finder 44 "PathQueries$Finder" "absent" "LPathQueries$Search;" ∈ zT := zm 588 (by decide +kernel) (by decide +kernel)
set_option maxRecDepth 100000 in
theorem km_589 : Cond.fieldLink rr_Finder 15 "PathQueries$Finder" "stack" "[I" ∈ zT := zm 589 (by decide +kernel) (by decide +kernel)
set_option maxRecDepth 100000 in
theorem km_590 : Cond.fieldLink rr_Finder 18 "PathQueries$Finder" "now" "[I" ∈ zT := zm 590 (by decide +kernel) (by decide +kernel)
set_option maxRecDepth 100000 in
theorem km_591 : Cond.fieldLink rr_Finder 21 "PathQueries$Finder" "next" "[I" ∈ zT := zm 591 (by decide +kernel) (by decide +kernel)
set_option maxRecDepth 100000 in
theorem km_592 : Cond.fieldLink rr_Finder 24 "PathQueries$Finder" "seen" "[I" ∈ zT := zm 592 (by decide +kernel) (by decide +kernel)
set_option maxRecDepth 100000 in
theorem km_593 : Cond.fieldLink rr_Finder 31 "PathQueries$Finder" "text" "LPathQueries$Text;" ∈ zT := zm 593 (by decide +kernel) (by decide +kernel)
set_option maxRecDepth 100000 in
theorem km_622 : Cond.fieldLink rr_RuleBook 11 "PathQueries$RuleBook" "rules" "[LPathQueries$Text;" ∈ zT := zm 622 (by decide +kernel) (by decide +kernel)
set_option maxRecDepth 100000 in
theorem km_623 : Cond.fieldLink rr_PQ 151 "PathQueries$RuleBook" "rules" "[LPathQueries$Text;" ∈ zT := zm 623 (by decide +kernel) (by decide +kernel)
set_option maxRecDepth 100000 in
theorem km_624 : Cond.fieldLink rr_RuleBook 29 "PathQueries$RuleBook" "graph" "LPathQueries$Graph;" ∈ zT := zm 624 (by decide +kernel) (by decide +kernel)
set_option maxRecDepth 100000 in
theorem km_625 : Cond.fieldLink rr_RuleBook 33 "PathQueries$RuleBook" "finder" "LPathQueries$Finder;" ∈ zT := zm 625 (by decide +kernel) (by decide +kernel)
set_option maxRecDepth 100000 in
theorem km_626 : Cond.fieldLink rr_RuleBook 17 "PathQueries$RuleBook" "gained" "[I" ∈ zT := zm 626 (by decide +kernel) (by decide +kernel)
set_option maxRecDepth 100000 in
theorem km_627 : Cond.fieldLink rr_RuleBook 21 "PathQueries$RuleBook" "settledAt" "I" ∈ zT := zm 627 (by decide +kernel) (by decide +kernel)
set_option maxRecDepth 100000 in
theorem km_628 : Cond.fieldLink rr_RuleBook 25 "PathQueries$RuleBook" "large" "Z" ∈ zT := zm 628 (by decide +kernel) (by decide +kernel)
set_option maxRecDepth 100000 in
theorem km_654 : Cond.fieldLink rr_Rows 7 "PathQueries$Rows" "rows" "I" ∈ zT := zm 654 (by decide +kernel) (by decide +kernel)
set_option maxRecDepth 100000 in
theorem km_656 : Cond.fieldLink rr_PQ 175 "PathQueries$Rows" "rows" "I" ∈ zT := zm 656 (by decide +kernel) (by decide +kernel)
set_option maxRecDepth 100000 in
theorem km_657 : Cond.fieldLink rr_Rows 13 "PathQueries$Rows" "width" "I" ∈ zT := zm 657 (by decide +kernel) (by decide +kernel)
set_option maxRecDepth 100000 in
theorem km_658 : Cond.fieldLink rr_PQ 179 "PathQueries$Rows" "width" "I" ∈ zT := zm 658 (by decide +kernel) (by decide +kernel)
set_option maxRecDepth 100000 in
theorem km_659 : Cond.fieldLink rr_Rows 16 "PathQueries$Rows" "cells" "[I" ∈ zT := zm 659 (by decide +kernel) (by decide +kernel)
set_option maxRecDepth 100000 in
theorem km_660 : Cond.fieldLink rr_Rows 20 "PathQueries$Rows" "order" "[I" ∈ zT := zm 660 (by decide +kernel) (by decide +kernel)
set_option maxRecDepth 100000 in
theorem km_661 : Cond.fieldLink rr_Rows 23 "PathQueries$Rows" "other" "[I" ∈ zT := zm 661 (by decide +kernel) (by decide +kernel)
set_option maxRecDepth 100000 in
theorem km_674 : Cond.fieldLink rr_Collector 12 "PathQueries$Collector" "raw" "LPathQueries$Rows;" ∈ zT := zm 674 (by decide +kernel) (by decide +kernel)
set_option maxRecDepth 100000 in
theorem km_676 : Cond.fieldLink rr_Collector 21 "PathQueries$Collector" "total" "[J" ∈ zT := zm 676 (by decide +kernel) (by decide +kernel)
set_option maxRecDepth 100000 in
theorem km_689 : Cond.fieldLink rr_PQ 9 "PathQueries" "tape" "[B" ∈ zT := zm 689 (by decide +kernel) (by decide +kernel)
set_option maxRecDepth 100000 in
theorem km_690 : Cond.fieldLink rr_PQ 16 "PathQueries" "graph" "LPathQueries$Graph;" ∈ zT := zm 690 (by decide +kernel) (by decide +kernel)
set_option maxRecDepth 100000 in
theorem km_692 : Cond.fieldLink rr_PQ 32 "PathQueries" "reader" "LPathQueries$Reader;" ∈ zT := zm 692 (by decide +kernel) (by decide +kernel)
set_option maxRecDepth 100000 in
theorem km_693 : Cond.fieldLink rr_PQ 41 "PathQueries" "finder" "LPathQueries$Finder;" ∈ zT := zm 693 (by decide +kernel) (by decide +kernel)
set_option maxRecDepth 100000 in
theorem km_694 : Cond.fieldLink rr_PQ 50 "PathQueries" "book" "LPathQueries$RuleBook;" ∈ zT := zm 694 (by decide +kernel) (by decide +kernel)
set_option maxRecDepth 100000 in
theorem km_696 : Cond.fieldLink rr_PQ 63 "PathQueries" "questions" "[LPathQueries$Text;" ∈ zT := zm 696 (by decide +kernel) (by decide +kernel)
set_option maxRecDepth 100000 in
theorem km_697 : Cond.fieldLink rr_PQ 69 "PathQueries" "answers" "[LPathQueries$Rows;" ∈ zT := zm 697 (by decide +kernel) (by decide +kernel)
set_option maxRecDepth 100000 in
theorem km_698 : Cond.fieldLink rr_PQ 73 "PathQueries" "answeredAt" "[I" ∈ zT := zm 698 (by decide +kernel) (by decide +kernel)
set_option maxRecDepth 100000 in
theorem km_699 : Cond.fieldLink rr_PQ 77 "PathQueries" "length" "I" ∈ zT := zm 699 (by decide +kernel) (by decide +kernel)
set_option maxRecDepth 100000 in
theorem km_727 : Cond.methodLink rr_PQ 82 yy_PQ_append ∈ zT := zm 727 (by decide +kernel) (by decide +kernel)
set_option maxRecDepth 100000 in
theorem km_729 : Cond.instanceMethod yy_PQ_append ∈ zT := zm 729 (by decide +kernel) (by decide +kernel)
set_option maxRecDepth 100000 in
theorem km_730 : Cond.code yy_PQ_append bb_PQ_append 3 none ∈ zT := zm 730 (by decide +kernel) (by decide +kernel)
set_option maxRecDepth 100000 in
theorem km_739 : Cond.methodLink rr_PQ 86 yy_Graph_addNode ∈ zT := zm 739 (by decide +kernel) (by decide +kernel)
set_option maxRecDepth 100000 in
theorem km_740 : Cond.instanceMethod yy_Graph_addNode ∈ zT := zm 740 (by decide +kernel) (by decide +kernel)
set_option maxRecDepth 100000 in
theorem km_741 : Cond.selects rr_Graph yy_Graph_addNode yy_Graph_addNode ∈ zT := zm 741 (by decide +kernel) (by decide +kernel)
set_option maxRecDepth 100000 in
theorem km_742 : Cond.code yy_Graph_addNode bb_Graph_addNode 2 (some (.int)) ∈ zT := zm 742 (by decide +kernel) (by decide +kernel)
set_option maxRecDepth 100000 in
theorem km_747 : Cond.methodLink rr_PQ 90 yy_Graph_isNode ∈ zT := zm 747 (by decide +kernel) (by decide +kernel)
set_option maxRecDepth 100000 in
theorem km_748 : Cond.instanceMethod yy_Graph_isNode ∈ zT := zm 748 (by decide +kernel) (by decide +kernel)
set_option maxRecDepth 100000 in
theorem km_749 : Cond.selects rr_Graph yy_Graph_isNode yy_Graph_isNode ∈ zT := zm 749 (by decide +kernel) (by decide +kernel)
set_option maxRecDepth 100000 in
theorem km_750 : Cond.code yy_Graph_isNode bb_Graph_isNode 2 (some (.boolean)) ∈ zT := zm 750 (by decide +kernel) (by decide +kernel)
set_option maxRecDepth 100000 in
theorem km_751 : Cond.methodLink rr_PQ 94 yy_Graph_changeMarks ∈ zT := zm 751 (by decide +kernel) (by decide +kernel)
set_option maxRecDepth 100000 in
theorem km_752 : Cond.instanceMethod yy_Graph_changeMarks ∈ zT := zm 752 (by decide +kernel) (by decide +kernel)
set_option maxRecDepth 100000 in
theorem km_753 : Cond.selects rr_Graph yy_Graph_changeMarks yy_Graph_changeMarks ∈ zT := zm 753 (by decide +kernel) (by decide +kernel)
set_option maxRecDepth 100000 in
theorem km_754 : Cond.code yy_Graph_changeMarks bb_Graph_changeMarks 4 (some (.int)) ∈ zT := zm 754 (by decide +kernel) (by decide +kernel)
set_option maxRecDepth 100000 in
theorem km_759 : Cond.methodLink rr_PQ 98 yy_Graph_changeColumn ∈ zT := zm 759 (by decide +kernel) (by decide +kernel)
set_option maxRecDepth 100000 in
theorem km_760 : Cond.instanceMethod yy_Graph_changeColumn ∈ zT := zm 760 (by decide +kernel) (by decide +kernel)
set_option maxRecDepth 100000 in
theorem km_761 : Cond.selects rr_Graph yy_Graph_changeColumn yy_Graph_changeColumn ∈ zT := zm 761 (by decide +kernel) (by decide +kernel)
set_option maxRecDepth 100000 in
theorem km_762 : Cond.code yy_Graph_changeColumn bb_Graph_changeColumn 5 (some (.int)) ∈ zT := zm 762 (by decide +kernel) (by decide +kernel)
set_option maxRecDepth 100000 in
theorem km_767 : Cond.methodLink rr_PQ 102 yy_Graph_addArc ∈ zT := zm 767 (by decide +kernel) (by decide +kernel)
set_option maxRecDepth 100000 in
theorem km_768 : Cond.instanceMethod yy_Graph_addArc ∈ zT := zm 768 (by decide +kernel) (by decide +kernel)
set_option maxRecDepth 100000 in
theorem km_769 : Cond.selects rr_Graph yy_Graph_addArc yy_Graph_addArc ∈ zT := zm 769 (by decide +kernel) (by decide +kernel)
set_option maxRecDepth 100000 in
theorem km_770 : Cond.code yy_Graph_addArc bb_Graph_addArc 6 (some (.int)) ∈ zT := zm 770 (by decide +kernel) (by decide +kernel)
set_option maxRecDepth 100000 in
theorem km_775 : Cond.methodLink rr_PQ 106 yy_Graph_isArc ∈ zT := zm 775 (by decide +kernel) (by decide +kernel)
set_option maxRecDepth 100000 in
theorem km_776 : Cond.instanceMethod yy_Graph_isArc ∈ zT := zm 776 (by decide +kernel) (by decide +kernel)
set_option maxRecDepth 100000 in
theorem km_777 : Cond.selects rr_Graph yy_Graph_isArc yy_Graph_isArc ∈ zT := zm 777 (by decide +kernel) (by decide +kernel)
set_option maxRecDepth 100000 in
theorem km_778 : Cond.code yy_Graph_isArc bb_Graph_isArc 2 (some (.boolean)) ∈ zT := zm 778 (by decide +kernel) (by decide +kernel)
set_option maxRecDepth 100000 in
theorem km_779 : Cond.methodLink rr_PQ 109 yy_Graph_removeArc ∈ zT := zm 779 (by decide +kernel) (by decide +kernel)
set_option maxRecDepth 100000 in
theorem km_780 : Cond.instanceMethod yy_Graph_removeArc ∈ zT := zm 780 (by decide +kernel) (by decide +kernel)
set_option maxRecDepth 100000 in
theorem km_781 : Cond.selects rr_Graph yy_Graph_removeArc yy_Graph_removeArc ∈ zT := zm 781 (by decide +kernel) (by decide +kernel)
set_option maxRecDepth 100000 in
theorem km_782 : Cond.code yy_Graph_removeArc bb_Graph_removeArc 2 none ∈ zT := zm 782 (by decide +kernel) (by decide +kernel)
set_option maxRecDepth 100000 in
theorem km_787 : Cond.methodLink rr_PQ 118 yy_RuleBook_standing ∈ zT := zm 787 (by decide +kernel) (by decide +kernel)
set_option maxRecDepth 100000 in
theorem km_788 : Cond.instanceMethod yy_RuleBook_standing ∈ zT := zm 788 (by decide +kernel) (by decide +kernel)
set_option maxRecDepth 100000 in
theorem km_789 : Cond.selects rr_RuleBook yy_RuleBook_standing yy_RuleBook_standing ∈ zT := zm 789 (by decide +kernel) (by decide +kernel)
set_option maxRecDepth 100000 in
theorem km_790 : Cond.code yy_RuleBook_standing bb_RuleBook_standing 3 (some (.int)) ∈ zT := zm 790 (by decide +kernel) (by decide +kernel)
set_option maxRecDepth 100000 in
theorem km_791 : Cond.methodLink rr_PQ 122 yy_Graph_ofNode ∈ zT := zm 791 (by decide +kernel) (by decide +kernel)
set_option maxRecDepth 100000 in
theorem km_792 : Cond.instanceMethod yy_Graph_ofNode ∈ zT := zm 792 (by decide +kernel) (by decide +kernel)
set_option maxRecDepth 100000 in
theorem km_793 : Cond.selects rr_Graph yy_Graph_ofNode yy_Graph_ofNode ∈ zT := zm 793 (by decide +kernel) (by decide +kernel)
set_option maxRecDepth 100000 in
theorem km_794 : Cond.code yy_Graph_ofNode bb_Graph_ofNode 5 (some (.int)) ∈ zT := zm 794 (by decide +kernel) (by decide +kernel)
set_option maxRecDepth 100000 in
theorem km_795 : Cond.methodLink rr_PQ 125 yy_Graph_ofArc ∈ zT := zm 795 (by decide +kernel) (by decide +kernel)
set_option maxRecDepth 100000 in
theorem km_796 : Cond.instanceMethod yy_Graph_ofArc ∈ zT := zm 796 (by decide +kernel) (by decide +kernel)
set_option maxRecDepth 100000 in
theorem km_797 : Cond.selects rr_Graph yy_Graph_ofArc yy_Graph_ofArc ∈ zT := zm 797 (by decide +kernel) (by decide +kernel)
set_option maxRecDepth 100000 in
theorem km_798 : Cond.code yy_Graph_ofArc bb_Graph_ofArc 3 (some (.int)) ∈ zT := zm 798 (by decide +kernel) (by decide +kernel)
set_option maxRecDepth 100000 in
theorem km_803 : Cond.methodLink rr_PQ 128 yy_Graph_strip ∈ zT := zm 803 (by decide +kernel) (by decide +kernel)
set_option maxRecDepth 100000 in
theorem km_804 : Cond.instanceMethod yy_Graph_strip ∈ zT := zm 804 (by decide +kernel) (by decide +kernel)
set_option maxRecDepth 100000 in
theorem km_805 : Cond.selects rr_Graph yy_Graph_strip yy_Graph_strip ∈ zT := zm 805 (by decide +kernel) (by decide +kernel)
set_option maxRecDepth 100000 in
theorem km_806 : Cond.code yy_Graph_strip bb_Graph_strip 4 (some (.int)) ∈ zT := zm 806 (by decide +kernel) (by decide +kernel)
set_option maxRecDepth 100000 in
theorem km_807 : Cond.methodLink rr_Graph 49 yy_Graph_removeArc ∈ zT := zm 807 (by decide +kernel) (by decide +kernel)
set_option maxRecDepth 100000 in
theorem km_820 : Cond.methodLink rr_Reader 115 yy_Text_clear ∈ zT := zm 820 (by decide +kernel) (by decide +kernel)
set_option maxRecDepth 100000 in
theorem km_821 : Cond.instanceMethod yy_Text_clear ∈ zT := zm 821 (by decide +kernel) (by decide +kernel)
set_option maxRecDepth 100000 in
theorem km_822 : Cond.selects rr_Text yy_Text_clear yy_Text_clear ∈ zT := zm 822 (by decide +kernel) (by decide +kernel)
set_option maxRecDepth 100000 in
theorem km_823 : Cond.code yy_Text_clear bb_Text_clear 1 none ∈ zT := zm 823 (by decide +kernel) (by decide +kernel)
set_option maxRecDepth 100000 in
theorem km_824 : Cond.methodLink rr_Text 81 yy_Text_openGroup ∈ zT := zm 824 (by decide +kernel) (by decide +kernel)
set_option maxRecDepth 100000 in
theorem km_825 : Cond.instanceMethod yy_Text_openGroup ∈ zT := zm 825 (by decide +kernel) (by decide +kernel)
set_option maxRecDepth 100000 in
theorem km_826 : Cond.selects rr_Text yy_Text_openGroup yy_Text_openGroup ∈ zT := zm 826 (by decide +kernel) (by decide +kernel)
set_option maxRecDepth 100000 in
theorem km_827 : Cond.code yy_Text_openGroup bb_Text_openGroup 1 none ∈ zT := zm 827 (by decide +kernel) (by decide +kernel)
set_option maxRecDepth 100000 in
theorem km_828 : Cond.methodLink rr_Text 84 yy_Text_endGroup ∈ zT := zm 828 (by decide +kernel) (by decide +kernel)
set_option maxRecDepth 100000 in
theorem km_829 : Cond.instanceMethod yy_Text_endGroup ∈ zT := zm 829 (by decide +kernel) (by decide +kernel)
set_option maxRecDepth 100000 in
theorem km_830 : Cond.selects rr_Text yy_Text_endGroup yy_Text_endGroup ∈ zT := zm 830 (by decide +kernel) (by decide +kernel)
set_option maxRecDepth 100000 in
theorem km_831 : Cond.code yy_Text_endGroup bb_Text_endGroup 1 none ∈ zT := zm 831 (by decide +kernel) (by decide +kernel)
set_option maxRecDepth 100000 in
theorem km_832 : Cond.methodLink rr_Reader 118 yy_Operators_begin ∈ zT := zm 832 (by decide +kernel) (by decide +kernel)
set_option maxRecDepth 100000 in
theorem km_833 : Cond.instanceMethod yy_Operators_begin ∈ zT := zm 833 (by decide +kernel) (by decide +kernel)
set_option maxRecDepth 100000 in
theorem km_834 : Cond.selects rr_Operators yy_Operators_begin yy_Operators_begin ∈ zT := zm 834 (by decide +kernel) (by decide +kernel)
set_option maxRecDepth 100000 in
theorem km_835 : Cond.code yy_Operators_begin bb_Operators_begin 2 none ∈ zT := zm 835 (by decide +kernel) (by decide +kernel)
set_option maxRecDepth 100000 in
theorem km_836 : Cond.methodLink rr_Reader 120 yy_Arrays_fill ∈ zT := zm 836 (by decide +kernel) (by decide +kernel)
set_option maxRecDepth 100000 in
theorem km_854 : Cond.methodLink rr_Tokens 49 yy_Tokens_isDigit ∈ zT := zm 854 (by decide +kernel) (by decide +kernel)
set_option maxRecDepth 100000 in
theorem km_855 : Cond.static yy_Tokens_isDigit ∈ zT := zm 855 (by decide +kernel) (by decide +kernel)
set_option maxRecDepth 100000 in
theorem km_856 : Cond.code yy_Tokens_isDigit bb_Tokens_isDigit 1 (some (.boolean)) ∈ zT := zm 856 (by decide +kernel) (by decide +kernel)
set_option maxRecDepth 100000 in
theorem km_899 : Cond.static yy_Math_max_0 ∈ zT := zm 899 (by decide +kernel) (by decide +kernel)
set_option maxRecDepth 100000 in
theorem km_900 : Cond.code yy_Math_max_0 bb_Math_max_0 2 (some (.int)) ∈ zT := zm 900 (by decide +kernel) (by decide +kernel)
set_option maxRecDepth 100000 in
theorem km_998 : Cond.methodLink rr_Reader 133 yy_Reader_fail ∈ zT := zm 998 (by decide +kernel) (by decide +kernel)
set_option maxRecDepth 100000 in
theorem km_1000 : Cond.instanceMethod yy_Reader_fail ∈ zT := zm 1000 (by decide +kernel) (by decide +kernel)
set_option maxRecDepth 100000 in
theorem km_1001 : Cond.code yy_Reader_fail bb_Reader_fail 2 none ∈ zT := zm 1001 (by decide +kernel) (by decide +kernel)
set_option maxRecDepth 100000 in
theorem km_1002 : Cond.methodLink rr_Reader 126 yy_Reader_failAt ∈ zT := zm 1002 (by decide +kernel) (by decide +kernel)
set_option maxRecDepth 100000 in
theorem km_1004 : Cond.instanceMethod yy_Reader_failAt ∈ zT := zm 1004 (by decide +kernel) (by decide +kernel)
set_option maxRecDepth 100000 in
theorem km_1005 : Cond.code yy_Reader_failAt bb_Reader_failAt 3 none ∈ zT := zm 1005 (by decide +kernel) (by decide +kernel)
set_option maxRecDepth 100000 in
theorem km_1006 : Cond.methodLink rr_Reader 139 yy_Reader_takeHead ∈ zT := zm 1006 (by decide +kernel) (by decide +kernel)
set_option maxRecDepth 100000 in
theorem km_1008 : Cond.instanceMethod yy_Reader_takeHead ∈ zT := zm 1008 (by decide +kernel) (by decide +kernel)
set_option maxRecDepth 100000 in
theorem km_1009 : Cond.code yy_Reader_takeHead bb_Reader_takeHead 3 none ∈ zT := zm 1009 (by decide +kernel) (by decide +kernel)
set_option maxRecDepth 100000 in
theorem km_1010 : Cond.methodLink rr_Reader 142 yy_Reader_takeInNode ∈ zT := zm 1010 (by decide +kernel) (by decide +kernel)
set_option maxRecDepth 100000 in
theorem km_1012 : Cond.instanceMethod yy_Reader_takeInNode ∈ zT := zm 1012 (by decide +kernel) (by decide +kernel)
set_option maxRecDepth 100000 in
theorem km_1013 : Cond.code yy_Reader_takeInNode bb_Reader_takeInNode 2 none ∈ zT := zm 1013 (by decide +kernel) (by decide +kernel)
set_option maxRecDepth 100000 in
theorem km_1014 : Cond.methodLink rr_Reader 184 yy_Reader_nameNode ∈ zT := zm 1014 (by decide +kernel) (by decide +kernel)
set_option maxRecDepth 100000 in
theorem km_1016 : Cond.instanceMethod yy_Reader_nameNode ∈ zT := zm 1016 (by decide +kernel) (by decide +kernel)
set_option maxRecDepth 100000 in
theorem km_1017 : Cond.code yy_Reader_nameNode bb_Reader_nameNode 2 none ∈ zT := zm 1017 (by decide +kernel) (by decide +kernel)
set_option maxRecDepth 100000 in
theorem km_1018 : Cond.methodLink rr_Reader 187 yy_Reader_tellNode ∈ zT := zm 1018 (by decide +kernel) (by decide +kernel)
set_option maxRecDepth 100000 in
theorem km_1020 : Cond.instanceMethod yy_Reader_tellNode ∈ zT := zm 1020 (by decide +kernel) (by decide +kernel)
set_option maxRecDepth 100000 in
theorem km_1021 : Cond.code yy_Reader_tellNode bb_Reader_tellNode 2 none ∈ zT := zm 1021 (by decide +kernel) (by decide +kernel)
set_option maxRecDepth 100000 in
theorem km_1022 : Cond.methodLink rr_Reader 196 yy_Reader_takeSlot ∈ zT := zm 1022 (by decide +kernel) (by decide +kernel)
set_option maxRecDepth 100000 in
theorem km_1024 : Cond.instanceMethod yy_Reader_takeSlot ∈ zT := zm 1024 (by decide +kernel) (by decide +kernel)
set_option maxRecDepth 100000 in
theorem km_1025 : Cond.code yy_Reader_takeSlot bb_Reader_takeSlot 2 none ∈ zT := zm 1025 (by decide +kernel) (by decide +kernel)
set_option maxRecDepth 100000 in
theorem km_1026 : Cond.methodLink rr_Reader 193 yy_Reader_makeKnown ∈ zT := zm 1026 (by decide +kernel) (by decide +kernel)
set_option maxRecDepth 100000 in
theorem km_1028 : Cond.instanceMethod yy_Reader_makeKnown ∈ zT := zm 1028 (by decide +kernel) (by decide +kernel)
set_option maxRecDepth 100000 in
theorem km_1029 : Cond.code yy_Reader_makeKnown bb_Reader_makeKnown 1 none ∈ zT := zm 1029 (by decide +kernel) (by decide +kernel)
set_option maxRecDepth 100000 in
theorem km_1030 : Cond.methodLink rr_Reader 190 yy_Reader_closeNode ∈ zT := zm 1030 (by decide +kernel) (by decide +kernel)
set_option maxRecDepth 100000 in
theorem km_1032 : Cond.instanceMethod yy_Reader_closeNode ∈ zT := zm 1032 (by decide +kernel) (by decide +kernel)
set_option maxRecDepth 100000 in
theorem km_1033 : Cond.code yy_Reader_closeNode bb_Reader_closeNode 1 none ∈ zT := zm 1033 (by decide +kernel) (by decide +kernel)
set_option maxRecDepth 100000 in
theorem km_1034 : Cond.methodLink rr_Reader 208 yy_Text_addDemand ∈ zT := zm 1034 (by decide +kernel) (by decide +kernel)
set_option maxRecDepth 100000 in
theorem km_1035 : Cond.instanceMethod yy_Text_addDemand ∈ zT := zm 1035 (by decide +kernel) (by decide +kernel)
set_option maxRecDepth 100000 in
theorem km_1036 : Cond.selects rr_Text yy_Text_addDemand yy_Text_addDemand ∈ zT := zm 1036 (by decide +kernel) (by decide +kernel)
set_option maxRecDepth 100000 in
theorem km_1037 : Cond.code yy_Text_addDemand bb_Text_addDemand 3 none ∈ zT := zm 1037 (by decide +kernel) (by decide +kernel)
set_option maxRecDepth 100000 in
theorem km_1038 : Cond.methodLink rr_Reader 211 yy_Way_join ∈ zT := zm 1038 (by decide +kernel) (by decide +kernel)
set_option maxRecDepth 100000 in
theorem km_1039 : Cond.instanceMethod yy_Way_join ∈ zT := zm 1039 (by decide +kernel) (by decide +kernel)
set_option maxRecDepth 100000 in
theorem km_1040 : Cond.selects rr_Way yy_Way_join yy_Way_join ∈ zT := zm 1040 (by decide +kernel) (by decide +kernel)
set_option maxRecDepth 100000 in
theorem km_1041 : Cond.code yy_Way_join bb_Way_join 3 none ∈ zT := zm 1041 (by decide +kernel) (by decide +kernel)
set_option maxRecDepth 100000 in
theorem km_1042 : Cond.methodLink rr_Reader 216 yy_Text_endGroup ∈ zT := zm 1042 (by decide +kernel) (by decide +kernel)
set_option maxRecDepth 100000 in
theorem km_1043 : Cond.methodLink rr_Reader 145 yy_Reader_takeAfterNode ∈ zT := zm 1043 (by decide +kernel) (by decide +kernel)
set_option maxRecDepth 100000 in
theorem km_1045 : Cond.instanceMethod yy_Reader_takeAfterNode ∈ zT := zm 1045 (by decide +kernel) (by decide +kernel)
set_option maxRecDepth 100000 in
theorem km_1046 : Cond.code yy_Reader_takeAfterNode bb_Reader_takeAfterNode 2 none ∈ zT := zm 1046 (by decide +kernel) (by decide +kernel)
set_option maxRecDepth 100000 in
theorem km_1047 : Cond.methodLink rr_Reader 219 yy_Reader_openWay ∈ zT := zm 1047 (by decide +kernel) (by decide +kernel)
set_option maxRecDepth 100000 in
theorem km_1049 : Cond.instanceMethod yy_Reader_openWay ∈ zT := zm 1049 (by decide +kernel) (by decide +kernel)
set_option maxRecDepth 100000 in
theorem km_1050 : Cond.code yy_Reader_openWay bb_Reader_openWay 2 none ∈ zT := zm 1050 (by decide +kernel) (by decide +kernel)
set_option maxRecDepth 100000 in
theorem km_1051 : Cond.methodLink rr_Reader 239 yy_Way_open ∈ zT := zm 1051 (by decide +kernel) (by decide +kernel)
set_option maxRecDepth 100000 in
theorem km_1052 : Cond.instanceMethod yy_Way_open ∈ zT := zm 1052 (by decide +kernel) (by decide +kernel)
set_option maxRecDepth 100000 in
theorem km_1053 : Cond.selects rr_Way yy_Way_open yy_Way_open ∈ zT := zm 1053 (by decide +kernel) (by decide +kernel)
set_option maxRecDepth 100000 in
theorem km_1054 : Cond.code yy_Way_open bb_Way_open 2 none ∈ zT := zm 1054 (by decide +kernel) (by decide +kernel)
set_option maxRecDepth 100000 in
theorem km_1055 : Cond.methodLink rr_Reader 223 yy_Text_emit ∈ zT := zm 1055 (by decide +kernel) (by decide +kernel)
set_option maxRecDepth 100000 in
theorem km_1056 : Cond.instanceMethod yy_Text_emit ∈ zT := zm 1056 (by decide +kernel) (by decide +kernel)
set_option maxRecDepth 100000 in
theorem km_1057 : Cond.selects rr_Text yy_Text_emit yy_Text_emit ∈ zT := zm 1057 (by decide +kernel) (by decide +kernel)
set_option maxRecDepth 100000 in
theorem km_1058 : Cond.code yy_Text_emit bb_Text_emit 3 (some (.int)) ∈ zT := zm 1058 (by decide +kernel) (by decide +kernel)
set_option maxRecDepth 100000 in
theorem km_1059 : Cond.methodLink rr_Reader 227 yy_Operators_unwind ∈ zT := zm 1059 (by decide +kernel) (by decide +kernel)
set_option maxRecDepth 100000 in
theorem km_1060 : Cond.instanceMethod yy_Operators_unwind ∈ zT := zm 1060 (by decide +kernel) (by decide +kernel)
set_option maxRecDepth 100000 in
theorem km_1061 : Cond.selects rr_Operators yy_Operators_unwind yy_Operators_unwind ∈ zT := zm 1061 (by decide +kernel) (by decide +kernel)
set_option maxRecDepth 100000 in
theorem km_1062 : Cond.code yy_Operators_unwind bb_Operators_unwind 3 none ∈ zT := zm 1062 (by decide +kernel) (by decide +kernel)
set_option maxRecDepth 100000 in
theorem km_1063 : Cond.methodLink rr_Operators 61 yy_Text_change ∈ zT := zm 1063 (by decide +kernel) (by decide +kernel)
set_option maxRecDepth 100000 in
theorem km_1064 : Cond.instanceMethod yy_Text_change ∈ zT := zm 1064 (by decide +kernel) (by decide +kernel)
set_option maxRecDepth 100000 in
theorem km_1065 : Cond.selects rr_Text yy_Text_change yy_Text_change ∈ zT := zm 1065 (by decide +kernel) (by decide +kernel)
set_option maxRecDepth 100000 in
theorem km_1066 : Cond.code yy_Text_change bb_Text_change 4 none ∈ zT := zm 1066 (by decide +kernel) (by decide +kernel)
set_option maxRecDepth 100000 in
theorem km_1067 : Cond.methodLink rr_Operators 46 yy_Text_emit ∈ zT := zm 1067 (by decide +kernel) (by decide +kernel)
set_option maxRecDepth 100000 in
theorem km_1068 : Cond.methodLink rr_Reader 230 yy_Reader_passOn ∈ zT := zm 1068 (by decide +kernel) (by decide +kernel)
set_option maxRecDepth 100000 in
theorem km_1070 : Cond.instanceMethod yy_Reader_passOn ∈ zT := zm 1070 (by decide +kernel) (by decide +kernel)
set_option maxRecDepth 100000 in
theorem km_1071 : Cond.code yy_Reader_passOn bb_Reader_passOn 2 none ∈ zT := zm 1071 (by decide +kernel) (by decide +kernel)
set_option maxRecDepth 100000 in
theorem km_1072 : Cond.methodLink rr_Reader 233 yy_Reader_openGive ∈ zT := zm 1072 (by decide +kernel) (by decide +kernel)
set_option maxRecDepth 100000 in
theorem km_1074 : Cond.instanceMethod yy_Reader_openGive ∈ zT := zm 1074 (by decide +kernel) (by decide +kernel)
set_option maxRecDepth 100000 in
theorem km_1075 : Cond.code yy_Reader_openGive bb_Reader_openGive 1 none ∈ zT := zm 1075 (by decide +kernel) (by decide +kernel)
set_option maxRecDepth 100000 in
theorem km_1076 : Cond.methodLink rr_Reader 148 yy_Reader_takeInWay ∈ zT := zm 1076 (by decide +kernel) (by decide +kernel)
set_option maxRecDepth 100000 in
theorem km_1078 : Cond.instanceMethod yy_Reader_takeInWay ∈ zT := zm 1078 (by decide +kernel) (by decide +kernel)
set_option maxRecDepth 100000 in
theorem km_1079 : Cond.code yy_Reader_takeInWay bb_Reader_takeInWay 2 none ∈ zT := zm 1079 (by decide +kernel) (by decide +kernel)
set_option maxRecDepth 100000 in
theorem km_1080 : Cond.methodLink rr_Reader 241 yy_Reader_nameLeast ∈ zT := zm 1080 (by decide +kernel) (by decide +kernel)
set_option maxRecDepth 100000 in
theorem km_1082 : Cond.instanceMethod yy_Reader_nameLeast ∈ zT := zm 1082 (by decide +kernel) (by decide +kernel)
set_option maxRecDepth 100000 in
theorem km_1083 : Cond.code yy_Reader_nameLeast bb_Reader_nameLeast 2 none ∈ zT := zm 1083 (by decide +kernel) (by decide +kernel)
set_option maxRecDepth 100000 in
theorem km_1084 : Cond.methodLink rr_Reader 151 yy_Reader_takeStep ∈ zT := zm 1084 (by decide +kernel) (by decide +kernel)
set_option maxRecDepth 100000 in
theorem km_1086 : Cond.instanceMethod yy_Reader_takeStep ∈ zT := zm 1086 (by decide +kernel) (by decide +kernel)
set_option maxRecDepth 100000 in
theorem km_1087 : Cond.code yy_Reader_takeStep bb_Reader_takeStep 4 none ∈ zT := zm 1087 (by decide +kernel) (by decide +kernel)
set_option maxRecDepth 100000 in
theorem km_1088 : Cond.methodLink rr_Reader 250 yy_Way_openRows ∈ zT := zm 1088 (by decide +kernel) (by decide +kernel)
set_option maxRecDepth 100000 in
theorem km_1089 : Cond.instanceMethod yy_Way_openRows ∈ zT := zm 1089 (by decide +kernel) (by decide +kernel)
set_option maxRecDepth 100000 in
theorem km_1090 : Cond.selects rr_Way yy_Way_openRows yy_Way_openRows ∈ zT := zm 1090 (by decide +kernel) (by decide +kernel)
set_option maxRecDepth 100000 in
theorem km_1091 : Cond.code yy_Way_openRows bb_Way_openRows 1 none ∈ zT := zm 1091 (by decide +kernel) (by decide +kernel)
set_option maxRecDepth 100000 in
theorem km_1092 : Cond.methodLink rr_Way 72 yy_Way_settlePending ∈ zT := zm 1092 (by decide +kernel) (by decide +kernel)
set_option maxRecDepth 100000 in
theorem km_1094 : Cond.instanceMethod yy_Way_settlePending ∈ zT := zm 1094 (by decide +kernel) (by decide +kernel)
set_option maxRecDepth 100000 in
theorem km_1095 : Cond.code yy_Way_settlePending bb_Way_settlePending 7 none ∈ zT := zm 1095 (by decide +kernel) (by decide +kernel)
set_option maxRecDepth 100000 in
theorem km_1096 : Cond.methodLink rr_Way 78 yy_Way_lead ∈ zT := zm 1096 (by decide +kernel) (by decide +kernel)
set_option maxRecDepth 100000 in
theorem km_1098 : Cond.instanceMethod yy_Way_lead ∈ zT := zm 1098 (by decide +kernel) (by decide +kernel)
set_option maxRecDepth 100000 in
theorem km_1099 : Cond.code yy_Way_lead bb_Way_lead 6 none ∈ zT := zm 1099 (by decide +kernel) (by decide +kernel)
set_option maxRecDepth 100000 in
theorem km_1100 : Cond.constantLong rr_Way 84 65535 ∈ zT := zm 1100 (by decide +kernel) (by decide +kernel)
set_option maxRecDepth 100000 in
theorem km_1101 : Cond.constantLong rr_Way 82 4294967296 ∈ zT := zm 1101 (by decide +kernel) (by decide +kernel)
set_option maxRecDepth 100000 in
theorem km_1102 : Cond.methodLink rr_Reader 256 yy_Reader_addStep ∈ zT := zm 1102 (by decide +kernel) (by decide +kernel)
set_option maxRecDepth 100000 in
theorem km_1104 : Cond.instanceMethod yy_Reader_addStep ∈ zT := zm 1104 (by decide +kernel) (by decide +kernel)
set_option maxRecDepth 100000 in
theorem km_1105 : Cond.code yy_Reader_addStep bb_Reader_addStep 2 none ∈ zT := zm 1105 (by decide +kernel) (by decide +kernel)
set_option maxRecDepth 100000 in
theorem km_1106 : Cond.methodLink rr_Reader 259 yy_Way_addStep ∈ zT := zm 1106 (by decide +kernel) (by decide +kernel)
set_option maxRecDepth 100000 in
theorem km_1107 : Cond.instanceMethod yy_Way_addStep ∈ zT := zm 1107 (by decide +kernel) (by decide +kernel)
set_option maxRecDepth 100000 in
theorem km_1108 : Cond.selects rr_Way yy_Way_addStep yy_Way_addStep ∈ zT := zm 1108 (by decide +kernel) (by decide +kernel)
set_option maxRecDepth 100000 in
theorem km_1109 : Cond.code yy_Way_addStep bb_Way_addStep 3 none ∈ zT := zm 1109 (by decide +kernel) (by decide +kernel)
set_option maxRecDepth 100000 in
theorem km_1110 : Cond.methodLink rr_Reader 154 yy_Reader_takeAfterStep ∈ zT := zm 1110 (by decide +kernel) (by decide +kernel)
set_option maxRecDepth 100000 in
theorem km_1112 : Cond.instanceMethod yy_Reader_takeAfterStep ∈ zT := zm 1112 (by decide +kernel) (by decide +kernel)
set_option maxRecDepth 100000 in
theorem km_1113 : Cond.code yy_Reader_takeAfterStep bb_Reader_takeAfterStep 3 none ∈ zT := zm 1113 (by decide +kernel) (by decide +kernel)
set_option maxRecDepth 100000 in
theorem km_1114 : Cond.methodLink rr_Reader 261 yy_Way_repeat ∈ zT := zm 1114 (by decide +kernel) (by decide +kernel)
set_option maxRecDepth 100000 in
theorem km_1115 : Cond.instanceMethod yy_Way_repeat ∈ zT := zm 1115 (by decide +kernel) (by decide +kernel)
set_option maxRecDepth 100000 in
theorem km_1116 : Cond.selects rr_Way yy_Way_repeat yy_Way_repeat ∈ zT := zm 1116 (by decide +kernel) (by decide +kernel)
set_option maxRecDepth 100000 in
theorem km_1117 : Cond.code yy_Way_repeat bb_Way_repeat 3 none ∈ zT := zm 1117 (by decide +kernel) (by decide +kernel)
set_option maxRecDepth 100000 in
theorem km_1118 : Cond.methodLink rr_Reader 265 yy_Way_nextRow ∈ zT := zm 1118 (by decide +kernel) (by decide +kernel)
set_option maxRecDepth 100000 in
theorem km_1119 : Cond.instanceMethod yy_Way_nextRow ∈ zT := zm 1119 (by decide +kernel) (by decide +kernel)
set_option maxRecDepth 100000 in
theorem km_1120 : Cond.selects rr_Way yy_Way_nextRow yy_Way_nextRow ∈ zT := zm 1120 (by decide +kernel) (by decide +kernel)
set_option maxRecDepth 100000 in
theorem km_1121 : Cond.code yy_Way_nextRow bb_Way_nextRow 3 none ∈ zT := zm 1121 (by decide +kernel) (by decide +kernel)
set_option maxRecDepth 100000 in
theorem km_1122 : Cond.methodLink rr_Reader 271 yy_Way_closeRows ∈ zT := zm 1122 (by decide +kernel) (by decide +kernel)
set_option maxRecDepth 100000 in
theorem km_1123 : Cond.instanceMethod yy_Way_closeRows ∈ zT := zm 1123 (by decide +kernel) (by decide +kernel)
set_option maxRecDepth 100000 in
theorem km_1124 : Cond.selects rr_Way yy_Way_closeRows yy_Way_closeRows ∈ zT := zm 1124 (by decide +kernel) (by decide +kernel)
set_option maxRecDepth 100000 in
theorem km_1125 : Cond.code yy_Way_closeRows bb_Way_closeRows 1 none ∈ zT := zm 1125 (by decide +kernel) (by decide +kernel)
set_option maxRecDepth 100000 in
theorem km_1126 : Cond.methodLink rr_Way 75 yy_Way_nextRow ∈ zT := zm 1126 (by decide +kernel) (by decide +kernel)
set_option maxRecDepth 100000 in
theorem km_1127 : Cond.methodLink rr_Reader 274 yy_Way_endRows ∈ zT := zm 1127 (by decide +kernel) (by decide +kernel)
set_option maxRecDepth 100000 in
theorem km_1128 : Cond.instanceMethod yy_Way_endRows ∈ zT := zm 1128 (by decide +kernel) (by decide +kernel)
set_option maxRecDepth 100000 in
theorem km_1129 : Cond.selects rr_Way yy_Way_endRows yy_Way_endRows ∈ zT := zm 1129 (by decide +kernel) (by decide +kernel)
set_option maxRecDepth 100000 in
theorem km_1130 : Cond.code yy_Way_endRows bb_Way_endRows 1 none ∈ zT := zm 1130 (by decide +kernel) (by decide +kernel)
set_option maxRecDepth 100000 in
theorem km_1131 : Cond.methodLink rr_Reader 157 yy_Reader_takeFact ∈ zT := zm 1131 (by decide +kernel) (by decide +kernel)
set_option maxRecDepth 100000 in
theorem km_1133 : Cond.instanceMethod yy_Reader_takeFact ∈ zT := zm 1133 (by decide +kernel) (by decide +kernel)
set_option maxRecDepth 100000 in
theorem km_1134 : Cond.code yy_Reader_takeFact bb_Reader_takeFact 2 none ∈ zT := zm 1134 (by decide +kernel) (by decide +kernel)
set_option maxRecDepth 100000 in
theorem km_1135 : Cond.methodLink rr_Reader 277 yy_Operators_openPrefix ∈ zT := zm 1135 (by decide +kernel) (by decide +kernel)
set_option maxRecDepth 100000 in
theorem km_1136 : Cond.instanceMethod yy_Operators_openPrefix ∈ zT := zm 1136 (by decide +kernel) (by decide +kernel)
set_option maxRecDepth 100000 in
theorem km_1137 : Cond.selects rr_Operators yy_Operators_openPrefix yy_Operators_openPrefix ∈ zT := zm 1137 (by decide +kernel) (by decide +kernel)
set_option maxRecDepth 100000 in
theorem km_1138 : Cond.code yy_Operators_openPrefix bb_Operators_openPrefix 3 none ∈ zT := zm 1138 (by decide +kernel) (by decide +kernel)
set_option maxRecDepth 100000 in
theorem km_1139 : Cond.methodLink rr_Operators 42 yy_Operators_push ∈ zT := zm 1139 (by decide +kernel) (by decide +kernel)
set_option maxRecDepth 100000 in
theorem km_1140 : Cond.instanceMethod yy_Operators_push ∈ zT := zm 1140 (by decide +kernel) (by decide +kernel)
set_option maxRecDepth 100000 in
theorem km_1141 : Cond.selects rr_Operators yy_Operators_push yy_Operators_push ∈ zT := zm 1141 (by decide +kernel) (by decide +kernel)
set_option maxRecDepth 100000 in
theorem km_1142 : Cond.code yy_Operators_push bb_Operators_push 3 none ∈ zT := zm 1142 (by decide +kernel) (by decide +kernel)
set_option maxRecDepth 100000 in
theorem km_1143 : Cond.methodLink rr_Reader 280 yy_Operators_openBracket ∈ zT := zm 1143 (by decide +kernel) (by decide +kernel)
set_option maxRecDepth 100000 in
theorem km_1144 : Cond.instanceMethod yy_Operators_openBracket ∈ zT := zm 1144 (by decide +kernel) (by decide +kernel)
set_option maxRecDepth 100000 in
theorem km_1145 : Cond.selects rr_Operators yy_Operators_openBracket yy_Operators_openBracket ∈ zT := zm 1145 (by decide +kernel) (by decide +kernel)
set_option maxRecDepth 100000 in
theorem km_1146 : Cond.code yy_Operators_openBracket bb_Operators_openBracket 1 none ∈ zT := zm 1146 (by decide +kernel) (by decide +kernel)
set_option maxRecDepth 100000 in
theorem km_1147 : Cond.methodLink rr_Operators 52 yy_Operators_openPrefix ∈ zT := zm 1147 (by decide +kernel) (by decide +kernel)
set_option maxRecDepth 100000 in
theorem km_1148 : Cond.methodLink rr_Reader 283 yy_Text_openGroup ∈ zT := zm 1148 (by decide +kernel) (by decide +kernel)
set_option maxRecDepth 100000 in
theorem km_1149 : Cond.methodLink rr_Reader 160 yy_Reader_takeAfterFact ∈ zT := zm 1149 (by decide +kernel) (by decide +kernel)
set_option maxRecDepth 100000 in
theorem km_1151 : Cond.instanceMethod yy_Reader_takeAfterFact ∈ zT := zm 1151 (by decide +kernel) (by decide +kernel)
set_option maxRecDepth 100000 in
theorem km_1152 : Cond.code yy_Reader_takeAfterFact bb_Reader_takeAfterFact 2 none ∈ zT := zm 1152 (by decide +kernel) (by decide +kernel)
set_option maxRecDepth 100000 in
theorem km_1153 : Cond.methodLink rr_Reader 286 yy_Operators_between ∈ zT := zm 1153 (by decide +kernel) (by decide +kernel)
set_option maxRecDepth 100000 in
theorem km_1154 : Cond.instanceMethod yy_Operators_between ∈ zT := zm 1154 (by decide +kernel) (by decide +kernel)
set_option maxRecDepth 100000 in
theorem km_1155 : Cond.selects rr_Operators yy_Operators_between yy_Operators_between ∈ zT := zm 1155 (by decide +kernel) (by decide +kernel)
set_option maxRecDepth 100000 in
theorem km_1156 : Cond.code yy_Operators_between bb_Operators_between 3 none ∈ zT := zm 1156 (by decide +kernel) (by decide +kernel)
set_option maxRecDepth 100000 in
theorem km_1157 : Cond.methodLink rr_Operators 38 yy_Operators_unwind ∈ zT := zm 1157 (by decide +kernel) (by decide +kernel)
set_option maxRecDepth 100000 in
theorem km_1158 : Cond.methodLink rr_Reader 292 yy_Operators_closeBracket ∈ zT := zm 1158 (by decide +kernel) (by decide +kernel)
set_option maxRecDepth 100000 in
theorem km_1159 : Cond.instanceMethod yy_Operators_closeBracket ∈ zT := zm 1159 (by decide +kernel) (by decide +kernel)
set_option maxRecDepth 100000 in
theorem km_1160 : Cond.selects rr_Operators yy_Operators_closeBracket yy_Operators_closeBracket ∈ zT := zm 1160 (by decide +kernel) (by decide +kernel)
set_option maxRecDepth 100000 in
theorem km_1161 : Cond.code yy_Operators_closeBracket bb_Operators_closeBracket 1 none ∈ zT := zm 1161 (by decide +kernel) (by decide +kernel)
set_option maxRecDepth 100000 in
theorem km_1162 : Cond.methodLink rr_Operators 55 yy_Operators_popOpen ∈ zT := zm 1162 (by decide +kernel) (by decide +kernel)
set_option maxRecDepth 100000 in
theorem km_1164 : Cond.instanceMethod yy_Operators_popOpen ∈ zT := zm 1164 (by decide +kernel) (by decide +kernel)
set_option maxRecDepth 100000 in
theorem km_1165 : Cond.code yy_Operators_popOpen bb_Operators_popOpen 1 none ∈ zT := zm 1165 (by decide +kernel) (by decide +kernel)
set_option maxRecDepth 100000 in
theorem km_1166 : Cond.methodLink rr_Reader 163 yy_Reader_takeUnit ∈ zT := zm 1166 (by decide +kernel) (by decide +kernel)
set_option maxRecDepth 100000 in
theorem km_1168 : Cond.instanceMethod yy_Reader_takeUnit ∈ zT := zm 1168 (by decide +kernel) (by decide +kernel)
set_option maxRecDepth 100000 in
theorem km_1169 : Cond.code yy_Reader_takeUnit bb_Reader_takeUnit 2 none ∈ zT := zm 1169 (by decide +kernel) (by decide +kernel)
set_option maxRecDepth 100000 in
theorem km_1170 : Cond.methodLink rr_Reader 301 yy_Operators_openParen ∈ zT := zm 1170 (by decide +kernel) (by decide +kernel)
set_option maxRecDepth 100000 in
theorem km_1171 : Cond.instanceMethod yy_Operators_openParen ∈ zT := zm 1171 (by decide +kernel) (by decide +kernel)
set_option maxRecDepth 100000 in
theorem km_1172 : Cond.selects rr_Operators yy_Operators_openParen yy_Operators_openParen ∈ zT := zm 1172 (by decide +kernel) (by decide +kernel)
set_option maxRecDepth 100000 in
theorem km_1173 : Cond.code yy_Operators_openParen bb_Operators_openParen 1 none ∈ zT := zm 1173 (by decide +kernel) (by decide +kernel)
set_option maxRecDepth 100000 in
theorem km_1174 : Cond.methodLink rr_Reader 304 yy_Reader_findVariable ∈ zT := zm 1174 (by decide +kernel) (by decide +kernel)
set_option maxRecDepth 100000 in
theorem km_1176 : Cond.instanceMethod yy_Reader_findVariable ∈ zT := zm 1176 (by decide +kernel) (by decide +kernel)
set_option maxRecDepth 100000 in
theorem km_1177 : Cond.code yy_Reader_findVariable bb_Reader_findVariable 2 none ∈ zT := zm 1177 (by decide +kernel) (by decide +kernel)
set_option maxRecDepth 100000 in
theorem km_1178 : Cond.methodLink rr_Reader 307 yy_Text_wayOfLeast ∈ zT := zm 1178 (by decide +kernel) (by decide +kernel)
set_option maxRecDepth 100000 in
theorem km_1179 : Cond.instanceMethod yy_Text_wayOfLeast ∈ zT := zm 1179 (by decide +kernel) (by decide +kernel)
set_option maxRecDepth 100000 in
theorem km_1180 : Cond.selects rr_Text yy_Text_wayOfLeast yy_Text_wayOfLeast ∈ zT := zm 1180 (by decide +kernel) (by decide +kernel)
set_option maxRecDepth 100000 in
theorem km_1181 : Cond.code yy_Text_wayOfLeast bb_Text_wayOfLeast 3 (some (.int)) ∈ zT := zm 1181 (by decide +kernel) (by decide +kernel)
set_option maxRecDepth 100000 in
theorem km_1182 : Cond.methodLink rr_Reader 166 yy_Reader_takeAfterVariable ∈ zT := zm 1182 (by decide +kernel) (by decide +kernel)
set_option maxRecDepth 100000 in
theorem km_1184 : Cond.instanceMethod yy_Reader_takeAfterVariable ∈ zT := zm 1184 (by decide +kernel) (by decide +kernel)
set_option maxRecDepth 100000 in
theorem km_1185 : Cond.code yy_Reader_takeAfterVariable bb_Reader_takeAfterVariable 2 none ∈ zT := zm 1185 (by decide +kernel) (by decide +kernel)
set_option maxRecDepth 100000 in
theorem km_1186 : Cond.methodLink rr_Reader 311 yy_Text_change ∈ zT := zm 1186 (by decide +kernel) (by decide +kernel)
set_option maxRecDepth 100000 in
theorem km_1187 : Cond.methodLink rr_Reader 169 yy_Reader_takeAfterUnit ∈ zT := zm 1187 (by decide +kernel) (by decide +kernel)
set_option maxRecDepth 100000 in
theorem km_1189 : Cond.instanceMethod yy_Reader_takeAfterUnit ∈ zT := zm 1189 (by decide +kernel) (by decide +kernel)
set_option maxRecDepth 100000 in
theorem km_1190 : Cond.code yy_Reader_takeAfterUnit bb_Reader_takeAfterUnit 2 none ∈ zT := zm 1190 (by decide +kernel) (by decide +kernel)
set_option maxRecDepth 100000 in
theorem km_1191 : Cond.methodLink rr_Reader 318 yy_Operators_closeParen ∈ zT := zm 1191 (by decide +kernel) (by decide +kernel)
set_option maxRecDepth 100000 in
theorem km_1192 : Cond.instanceMethod yy_Operators_closeParen ∈ zT := zm 1192 (by decide +kernel) (by decide +kernel)
set_option maxRecDepth 100000 in
theorem km_1193 : Cond.selects rr_Operators yy_Operators_closeParen yy_Operators_closeParen ∈ zT := zm 1193 (by decide +kernel) (by decide +kernel)
set_option maxRecDepth 100000 in
theorem km_1194 : Cond.code yy_Operators_closeParen bb_Operators_closeParen 1 none ∈ zT := zm 1194 (by decide +kernel) (by decide +kernel)
set_option maxRecDepth 100000 in
theorem km_1195 : Cond.methodLink rr_Reader 321 yy_Reader_takeComparison ∈ zT := zm 1195 (by decide +kernel) (by decide +kernel)
set_option maxRecDepth 100000 in
theorem km_1197 : Cond.instanceMethod yy_Reader_takeComparison ∈ zT := zm 1197 (by decide +kernel) (by decide +kernel)
set_option maxRecDepth 100000 in
theorem km_1198 : Cond.code yy_Reader_takeComparison bb_Reader_takeComparison 3 none ∈ zT := zm 1198 (by decide +kernel) (by decide +kernel)
set_option maxRecDepth 100000 in
theorem km_1199 : Cond.methodLink rr_Reader 327 yy_Reader_comparison ∈ zT := zm 1199 (by decide +kernel) (by decide +kernel)
set_option maxRecDepth 100000 in
theorem km_1200 : Cond.static yy_Reader_comparison ∈ zT := zm 1200 (by decide +kernel) (by decide +kernel)
set_option maxRecDepth 100000 in
theorem km_1201 : Cond.code yy_Reader_comparison bb_Reader_comparison 1 (some (.int)) ∈ zT := zm 1201 (by decide +kernel) (by decide +kernel)
set_option maxRecDepth 100000 in
theorem km_1202 : Cond.methodLink rr_Reader 324 yy_Text_endItem ∈ zT := zm 1202 (by decide +kernel) (by decide +kernel)
set_option maxRecDepth 100000 in
theorem km_1203 : Cond.instanceMethod yy_Text_endItem ∈ zT := zm 1203 (by decide +kernel) (by decide +kernel)
set_option maxRecDepth 100000 in
theorem km_1204 : Cond.selects rr_Text yy_Text_endItem yy_Text_endItem ∈ zT := zm 1204 (by decide +kernel) (by decide +kernel)
set_option maxRecDepth 100000 in
theorem km_1205 : Cond.code yy_Text_endItem bb_Text_endItem 1 none ∈ zT := zm 1205 (by decide +kernel) (by decide +kernel)
set_option maxRecDepth 100000 in
theorem km_1206 : Cond.methodLink rr_Reader 172 yy_Reader_takeItem ∈ zT := zm 1206 (by decide +kernel) (by decide +kernel)
set_option maxRecDepth 100000 in
theorem km_1208 : Cond.instanceMethod yy_Reader_takeItem ∈ zT := zm 1208 (by decide +kernel) (by decide +kernel)
set_option maxRecDepth 100000 in
theorem km_1209 : Cond.code yy_Reader_takeItem bb_Reader_takeItem 4 none ∈ zT := zm 1209 (by decide +kernel) (by decide +kernel)
set_option maxRecDepth 100000 in
theorem km_1210 : Cond.methodLink rr_Reader 333 yy_Text_openItem ∈ zT := zm 1210 (by decide +kernel) (by decide +kernel)
set_option maxRecDepth 100000 in
theorem km_1211 : Cond.instanceMethod yy_Text_openItem ∈ zT := zm 1211 (by decide +kernel) (by decide +kernel)
set_option maxRecDepth 100000 in
theorem km_1212 : Cond.selects rr_Text yy_Text_openItem yy_Text_openItem ∈ zT := zm 1212 (by decide +kernel) (by decide +kernel)
set_option maxRecDepth 100000 in
theorem km_1213 : Cond.code yy_Text_openItem bb_Text_openItem 2 none ∈ zT := zm 1213 (by decide +kernel) (by decide +kernel)
set_option maxRecDepth 100000 in
theorem km_1214 : Cond.methodLink rr_Reader 175 yy_Reader_takeTail ∈ zT := zm 1214 (by decide +kernel) (by decide +kernel)
set_option maxRecDepth 100000 in
theorem km_1216 : Cond.instanceMethod yy_Reader_takeTail ∈ zT := zm 1216 (by decide +kernel) (by decide +kernel)
set_option maxRecDepth 100000 in
theorem km_1217 : Cond.code yy_Reader_takeTail bb_Reader_takeTail 2 none ∈ zT := zm 1217 (by decide +kernel) (by decide +kernel)
set_option maxRecDepth 100000 in
theorem km_1218 : Cond.methodLink rr_Reader 336 yy_Reader_takeLimit ∈ zT := zm 1218 (by decide +kernel) (by decide +kernel)
set_option maxRecDepth 100000 in
theorem km_1220 : Cond.instanceMethod yy_Reader_takeLimit ∈ zT := zm 1220 (by decide +kernel) (by decide +kernel)
set_option maxRecDepth 100000 in
theorem km_1221 : Cond.code yy_Reader_takeLimit bb_Reader_takeLimit 2 none ∈ zT := zm 1221 (by decide +kernel) (by decide +kernel)
set_option maxRecDepth 100000 in
theorem km_1222 : Cond.methodLink rr_Reader 339 yy_Reader_givenSlot ∈ zT := zm 1222 (by decide +kernel) (by decide +kernel)
set_option maxRecDepth 100000 in
theorem km_1224 : Cond.instanceMethod yy_Reader_givenSlot ∈ zT := zm 1224 (by decide +kernel) (by decide +kernel)
set_option maxRecDepth 100000 in
theorem km_1225 : Cond.code yy_Reader_givenSlot bb_Reader_givenSlot 2 (some (.int)) ∈ zT := zm 1225 (by decide +kernel) (by decide +kernel)
set_option maxRecDepth 100000 in
theorem km_1242 : Cond.methodLink rr_PQ 148 yy_RuleBook_has ∈ zT := zm 1242 (by decide +kernel) (by decide +kernel)
set_option maxRecDepth 100000 in
theorem km_1243 : Cond.instanceMethod yy_RuleBook_has ∈ zT := zm 1243 (by decide +kernel) (by decide +kernel)
set_option maxRecDepth 100000 in
theorem km_1244 : Cond.selects rr_RuleBook yy_RuleBook_has yy_RuleBook_has ∈ zT := zm 1244 (by decide +kernel) (by decide +kernel)
set_option maxRecDepth 100000 in
theorem km_1245 : Cond.code yy_RuleBook_has bb_RuleBook_has 2 (some (.boolean)) ∈ zT := zm 1245 (by decide +kernel) (by decide +kernel)
set_option maxRecDepth 100000 in
theorem km_1254 : Cond.methodLink rr_PQ 161 yy_RuleBook_settle ∈ zT := zm 1254 (by decide +kernel) (by decide +kernel)
set_option maxRecDepth 100000 in
theorem km_1255 : Cond.instanceMethod yy_RuleBook_settle ∈ zT := zm 1255 (by decide +kernel) (by decide +kernel)
set_option maxRecDepth 100000 in
theorem km_1256 : Cond.selects rr_RuleBook yy_RuleBook_settle yy_RuleBook_settle ∈ zT := zm 1256 (by decide +kernel) (by decide +kernel)
set_option maxRecDepth 100000 in
theorem km_1257 : Cond.code yy_RuleBook_settle bb_RuleBook_settle 6 (some (.boolean)) ∈ zT := zm 1257 (by decide +kernel) (by decide +kernel)
set_option maxRecDepth 100000 in
theorem km_1258 : Cond.methodLink rr_RuleBook 49 yy_Graph_relate ∈ zT := zm 1258 (by decide +kernel) (by decide +kernel)
set_option maxRecDepth 100000 in
theorem km_1259 : Cond.instanceMethod yy_Graph_relate ∈ zT := zm 1259 (by decide +kernel) (by decide +kernel)
set_option maxRecDepth 100000 in
theorem km_1260 : Cond.selects rr_Graph yy_Graph_relate yy_Graph_relate ∈ zT := zm 1260 (by decide +kernel) (by decide +kernel)
set_option maxRecDepth 100000 in
theorem km_1261 : Cond.code yy_Graph_relate bb_Graph_relate 2 none ∈ zT := zm 1261 (by decide +kernel) (by decide +kernel)
set_option maxRecDepth 100000 in
theorem km_1262 : Cond.methodLink rr_Graph 53 yy_Graph_link ∈ zT := zm 1262 (by decide +kernel) (by decide +kernel)
set_option maxRecDepth 100000 in
theorem km_1263 : Cond.instanceMethod yy_Graph_link ∈ zT := zm 1263 (by decide +kernel) (by decide +kernel)
set_option maxRecDepth 100000 in
theorem km_1264 : Cond.selects rr_Graph yy_Graph_link yy_Graph_link ∈ zT := zm 1264 (by decide +kernel) (by decide +kernel)
set_option maxRecDepth 100000 in
theorem km_1265 : Cond.code yy_Graph_link bb_Graph_link 4 none ∈ zT := zm 1265 (by decide +kernel) (by decide +kernel)
set_option maxRecDepth 100000 in
theorem km_1266 : Cond.methodLink rr_RuleBook 52 yy_RuleBook_workOfAll ∈ zT := zm 1266 (by decide +kernel) (by decide +kernel)
set_option maxRecDepth 100000 in
theorem km_1268 : Cond.instanceMethod yy_RuleBook_workOfAll ∈ zT := zm 1268 (by decide +kernel) (by decide +kernel)
set_option maxRecDepth 100000 in
theorem km_1269 : Cond.code yy_RuleBook_workOfAll bb_RuleBook_workOfAll 4 (some (.long)) ∈ zT := zm 1269 (by decide +kernel) (by decide +kernel)
set_option maxRecDepth 100000 in
theorem km_1270 : Cond.methodLink rr_RuleBook 72 yy_Text_work ∈ zT := zm 1270 (by decide +kernel) (by decide +kernel)
set_option maxRecDepth 100000 in
theorem km_1271 : Cond.instanceMethod yy_Text_work ∈ zT := zm 1271 (by decide +kernel) (by decide +kernel)
set_option maxRecDepth 100000 in
theorem km_1272 : Cond.selects rr_Text yy_Text_work yy_Text_work ∈ zT := zm 1272 (by decide +kernel) (by decide +kernel)
set_option maxRecDepth 100000 in
theorem km_1273 : Cond.code yy_Text_work bb_Text_work 5 (some (.long)) ∈ zT := zm 1273 (by decide +kernel) (by decide +kernel)
set_option maxRecDepth 100000 in
theorem km_1274 : Cond.methodLink rr_RuleBook 56 yy_RuleBook_standing ∈ zT := zm 1274 (by decide +kernel) (by decide +kernel)
set_option maxRecDepth 100000 in
theorem km_1275 : Cond.methodLink rr_RuleBook 60 yy_RuleBook_isOneLarge ∈ zT := zm 1275 (by decide +kernel) (by decide +kernel)
set_option maxRecDepth 100000 in
theorem km_1277 : Cond.instanceMethod yy_RuleBook_isOneLarge ∈ zT := zm 1277 (by decide +kernel) (by decide +kernel)
set_option maxRecDepth 100000 in
theorem km_1278 : Cond.code yy_RuleBook_isOneLarge bb_RuleBook_isOneLarge 2 (some (.boolean)) ∈ zT := zm 1278 (by decide +kernel) (by decide +kernel)
set_option maxRecDepth 100000 in
theorem km_1279 : Cond.constantLong rr_RuleBook 76 20000 ∈ zT := zm 1279 (by decide +kernel) (by decide +kernel)
set_option maxRecDepth 100000 in
theorem km_1280 : Cond.constantLong rr_RuleBook 64 1000000 ∈ zT := zm 1280 (by decide +kernel) (by decide +kernel)
set_option maxRecDepth 100000 in
theorem km_1281 : Cond.methodLink rr_RuleBook 66 yy_RuleBook_goRound ∈ zT := zm 1281 (by decide +kernel) (by decide +kernel)
set_option maxRecDepth 100000 in
theorem km_1283 : Cond.instanceMethod yy_RuleBook_goRound ∈ zT := zm 1283 (by decide +kernel) (by decide +kernel)
set_option maxRecDepth 100000 in
theorem km_1284 : Cond.code yy_RuleBook_goRound bb_RuleBook_goRound 5 (some (.boolean)) ∈ zT := zm 1284 (by decide +kernel) (by decide +kernel)
set_option maxRecDepth 100000 in
theorem km_1285 : Cond.methodLink rr_RuleBook 78 yy_Arrays_fill ∈ zT := zm 1285 (by decide +kernel) (by decide +kernel)
set_option maxRecDepth 100000 in
theorem km_1286 : Cond.methodLink rr_RuleBook 84 yy_RuleBook_forgetRuled ∈ zT := zm 1286 (by decide +kernel) (by decide +kernel)
set_option maxRecDepth 100000 in
theorem km_1287 : Cond.static yy_RuleBook_forgetRuled ∈ zT := zm 1287 (by decide +kernel) (by decide +kernel)
set_option maxRecDepth 100000 in
theorem km_1288 : Cond.code yy_RuleBook_forgetRuled bb_RuleBook_forgetRuled 2 none ∈ zT := zm 1288 (by decide +kernel) (by decide +kernel)
set_option maxRecDepth 100000 in
theorem km_1289 : Cond.methodLink rr_RuleBook 88 yy_Finder_start ∈ zT := zm 1289 (by decide +kernel) (by decide +kernel)
set_option maxRecDepth 100000 in
theorem km_1290 : Cond.instanceMethod yy_Finder_start ∈ zT := zm 1290 (by decide +kernel) (by decide +kernel)
set_option maxRecDepth 100000 in
theorem km_1291 : Cond.selects rr_Finder yy_Finder_start yy_Finder_start ∈ zT := zm 1291 (by decide +kernel) (by decide +kernel)
set_option maxRecDepth 100000 in
theorem km_1292 : Cond.code yy_Finder_start bb_Finder_start 3 none ∈ zT := zm 1292 (by decide +kernel) (by decide +kernel)
set_option maxRecDepth 100000 in
theorem km_1293 : Cond.methodLink rr_Finder 57 yy_Finder_bringUpToDate ∈ zT := zm 1293 (by decide +kernel) (by decide +kernel)
set_option maxRecDepth 100000 in
theorem km_1294 : Cond.instanceMethod yy_Finder_bringUpToDate ∈ zT := zm 1294 (by decide +kernel) (by decide +kernel)
set_option maxRecDepth 100000 in
theorem km_1295 : Cond.selects rr_Finder yy_Finder_bringUpToDate yy_Finder_bringUpToDate ∈ zT := zm 1295 (by decide +kernel) (by decide +kernel)
set_option maxRecDepth 100000 in
theorem km_1296 : Cond.code yy_Finder_bringUpToDate bb_Finder_bringUpToDate 3 none ∈ zT := zm 1296 (by decide +kernel) (by decide +kernel)
set_option maxRecDepth 100000 in
theorem km_1297 : Cond.methodLink rr_Finder 140 yy_Way_forgetArcs ∈ zT := zm 1297 (by decide +kernel) (by decide +kernel)
set_option maxRecDepth 100000 in
theorem km_1298 : Cond.instanceMethod yy_Way_forgetArcs ∈ zT := zm 1298 (by decide +kernel) (by decide +kernel)
set_option maxRecDepth 100000 in
theorem km_1299 : Cond.selects rr_Way yy_Way_forgetArcs yy_Way_forgetArcs ∈ zT := zm 1299 (by decide +kernel) (by decide +kernel)
set_option maxRecDepth 100000 in
theorem km_1300 : Cond.code yy_Way_forgetArcs bb_Way_forgetArcs 1 none ∈ zT := zm 1300 (by decide +kernel) (by decide +kernel)
set_option maxRecDepth 100000 in
theorem km_1301 : Cond.methodLink rr_Way 86 yy_Arrays_fill ∈ zT := zm 1301 (by decide +kernel) (by decide +kernel)
set_option maxRecDepth 100000 in
theorem km_1302 : Cond.methodLink rr_Finder 146 yy_Finder_measureFrom ∈ zT := zm 1302 (by decide +kernel) (by decide +kernel)
set_option maxRecDepth 100000 in
theorem km_1304 : Cond.instanceMethod yy_Finder_measureFrom ∈ zT := zm 1304 (by decide +kernel) (by decide +kernel)
set_option maxRecDepth 100000 in
theorem km_1305 : Cond.code yy_Finder_measureFrom bb_Finder_measureFrom 9 none ∈ zT := zm 1305 (by decide +kernel) (by decide +kernel)
set_option maxRecDepth 100000 in
theorem km_1306 : Cond.constantLong rr_Finder 154 4294967296 ∈ zT := zm 1306 (by decide +kernel) (by decide +kernel)
set_option maxRecDepth 100000 in
theorem km_1307 : Cond.methodLink rr_Finder 156 yy_Way_arrive ∈ zT := zm 1307 (by decide +kernel) (by decide +kernel)
set_option maxRecDepth 100000 in
theorem km_1308 : Cond.instanceMethod yy_Way_arrive ∈ zT := zm 1308 (by decide +kernel) (by decide +kernel)
set_option maxRecDepth 100000 in
theorem km_1309 : Cond.selects rr_Way yy_Way_arrive yy_Way_arrive ∈ zT := zm 1309 (by decide +kernel) (by decide +kernel)
set_option maxRecDepth 100000 in
theorem km_1310 : Cond.code yy_Way_arrive bb_Way_arrive 6 none ∈ zT := zm 1310 (by decide +kernel) (by decide +kernel)
set_option maxRecDepth 100000 in
theorem km_1311 : Cond.methodLink rr_Finder 160 yy_Finder_goFirst ∈ zT := zm 1311 (by decide +kernel) (by decide +kernel)
set_option maxRecDepth 100000 in
theorem km_1313 : Cond.instanceMethod yy_Finder_goFirst ∈ zT := zm 1313 (by decide +kernel) (by decide +kernel)
set_option maxRecDepth 100000 in
theorem km_1314 : Cond.code yy_Finder_goFirst bb_Finder_goFirst 6 (some (.boolean)) ∈ zT := zm 1314 (by decide +kernel) (by decide +kernel)
set_option maxRecDepth 100000 in
theorem km_1315 : Cond.methodLink rr_Finder 170 yy_Finder_goOn ∈ zT := zm 1315 (by decide +kernel) (by decide +kernel)
set_option maxRecDepth 100000 in
theorem km_1317 : Cond.instanceMethod yy_Finder_goOn ∈ zT := zm 1317 (by decide +kernel) (by decide +kernel)
set_option maxRecDepth 100000 in
theorem km_1318 : Cond.code yy_Finder_goOn bb_Finder_goOn 4 (some (.boolean)) ∈ zT := zm 1318 (by decide +kernel) (by decide +kernel)
set_option maxRecDepth 100000 in
theorem km_1319 : Cond.methodLink rr_Finder 180 yy_Arrays_fill ∈ zT := zm 1319 (by decide +kernel) (by decide +kernel)
set_option maxRecDepth 100000 in
theorem km_1320 : Cond.methodLink rr_Finder 189 yy_Finder_spread ∈ zT := zm 1320 (by decide +kernel) (by decide +kernel)
set_option maxRecDepth 100000 in
theorem km_1322 : Cond.instanceMethod yy_Finder_spread ∈ zT := zm 1322 (by decide +kernel) (by decide +kernel)
set_option maxRecDepth 100000 in
theorem km_1323 : Cond.code yy_Finder_spread bb_Finder_spread 7 none ∈ zT := zm 1323 (by decide +kernel) (by decide +kernel)
set_option maxRecDepth 100000 in
theorem km_1324 : Cond.methodLink rr_Finder 70 yy_Graph_nodesWith ∈ zT := zm 1324 (by decide +kernel) (by decide +kernel)
set_option maxRecDepth 100000 in
theorem km_1325 : Cond.instanceMethod yy_Graph_nodesWith ∈ zT := zm 1325 (by decide +kernel) (by decide +kernel)
set_option maxRecDepth 100000 in
theorem km_1326 : Cond.selects rr_Graph yy_Graph_nodesWith yy_Graph_nodesWith ∈ zT := zm 1326 (by decide +kernel) (by decide +kernel)
set_option maxRecDepth 100000 in
theorem km_1327 : Cond.code yy_Graph_nodesWith bb_Graph_nodesWith 4 (some (.int)) ∈ zT := zm 1327 (by decide +kernel) (by decide +kernel)
set_option maxRecDepth 100000 in
theorem km_1328 : Cond.methodLink rr_Finder 76 yy_Search_begin ∈ zT := zm 1328 (by decide +kernel) (by decide +kernel)
set_option maxRecDepth 100000 in
theorem km_1329 : Cond.instanceMethod yy_Search_begin ∈ zT := zm 1329 (by decide +kernel) (by decide +kernel)
set_option maxRecDepth 100000 in
theorem km_1330 : Cond.selects rr_Search yy_Search_begin yy_Search_begin ∈ zT := zm 1330 (by decide +kernel) (by decide +kernel)
set_option maxRecDepth 100000 in
theorem km_1331 : Cond.code yy_Search_begin bb_Search_begin 5 none ∈ zT := zm 1331 (by decide +kernel) (by decide +kernel)
set_option maxRecDepth 100000 in
theorem km_1332 : Cond.methodLink rr_Search 62 yy_Search_candidates ∈ zT := zm 1332 (by decide +kernel) (by decide +kernel)
set_option maxRecDepth 100000 in
theorem km_1334 : Cond.instanceMethod yy_Search_candidates ∈ zT := zm 1334 (by decide +kernel) (by decide +kernel)
set_option maxRecDepth 100000 in
theorem km_1335 : Cond.code yy_Search_candidates bb_Search_candidates 7 (some (.int)) ∈ zT := zm 1335 (by decide +kernel) (by decide +kernel)
set_option maxRecDepth 100000 in
theorem km_1336 : Cond.methodLink rr_RuleBook 93 yy_Finder_nextRow ∈ zT := zm 1336 (by decide +kernel) (by decide +kernel)
set_option maxRecDepth 100000 in
theorem km_1337 : Cond.instanceMethod yy_Finder_nextRow ∈ zT := zm 1337 (by decide +kernel) (by decide +kernel)
set_option maxRecDepth 100000 in
theorem km_1338 : Cond.selects rr_Finder yy_Finder_nextRow yy_Finder_nextRow ∈ zT := zm 1338 (by decide +kernel) (by decide +kernel)
set_option maxRecDepth 100000 in
theorem km_1339 : Cond.code yy_Finder_nextRow bb_Finder_nextRow 2 (some (.boolean)) ∈ zT := zm 1339 (by decide +kernel) (by decide +kernel)
set_option maxRecDepth 100000 in
theorem km_1340 : Cond.constant rr_Finder 80 1000000 ∈ zT := zm 1340 (by decide +kernel) (by decide +kernel)
set_option maxRecDepth 100000 in
theorem km_1341 : Cond.methodLink rr_Finder 81 yy_Search_next ∈ zT := zm 1341 (by decide +kernel) (by decide +kernel)
set_option maxRecDepth 100000 in
theorem km_1342 : Cond.instanceMethod yy_Search_next ∈ zT := zm 1342 (by decide +kernel) (by decide +kernel)
set_option maxRecDepth 100000 in
theorem km_1343 : Cond.selects rr_Search yy_Search_next yy_Search_next ∈ zT := zm 1343 (by decide +kernel) (by decide +kernel)
set_option maxRecDepth 100000 in
theorem km_1344 : Cond.code yy_Search_next bb_Search_next 3 (some (.boolean)) ∈ zT := zm 1344 (by decide +kernel) (by decide +kernel)
set_option maxRecDepth 100000 in
theorem km_1345 : Cond.constant rr_Search 66 1000000 ∈ zT := zm 1345 (by decide +kernel) (by decide +kernel)
set_option maxRecDepth 100000 in
theorem km_1346 : Cond.methodLink rr_Search 67 yy_Integer_numberOfTrailingZeros ∈ zT := zm 1346 (by decide +kernel) (by decide +kernel)
set_option maxRecDepth 100000 in
theorem km_1347 : Cond.static yy_Integer_numberOfTrailingZeros ∈ zT := zm 1347 (by decide +kernel) (by decide +kernel)
set_option maxRecDepth 100000 in
theorem km_1348 : Cond.code yy_Integer_numberOfTrailingZeros bb_Integer_numberOfTrailingZeros 2 (some (.int)) ∈ zT := zm 1348 (by decide +kernel) (by decide +kernel)
set_option maxRecDepth 100000 in
theorem km_1349 : Cond.constant rr_Integer 264 65536 ∈ zT := zm 1349 (by decide +kernel) (by decide +kernel)
set_option maxRecDepth 100000 in
theorem km_1350 : Cond.methodLink rr_Finder 87 yy_Finder_evaluate ∈ zT := zm 1350 (by decide +kernel) (by decide +kernel)
set_option maxRecDepth 100000 in
theorem km_1351 : Cond.instanceMethod yy_Finder_evaluate ∈ zT := zm 1351 (by decide +kernel) (by decide +kernel)
set_option maxRecDepth 100000 in
theorem km_1352 : Cond.selects rr_Finder yy_Finder_evaluate yy_Finder_evaluate ∈ zT := zm 1352 (by decide +kernel) (by decide +kernel)
set_option maxRecDepth 100000 in
theorem km_1353 : Cond.code yy_Finder_evaluate bb_Finder_evaluate 8 (some (.int)) ∈ zT := zm 1353 (by decide +kernel) (by decide +kernel)
set_option maxRecDepth 100000 in
theorem km_1354 : Cond.methodLink rr_Finder 94 yy_Search_fits ∈ zT := zm 1354 (by decide +kernel) (by decide +kernel)
set_option maxRecDepth 100000 in
theorem km_1355 : Cond.instanceMethod yy_Search_fits ∈ zT := zm 1355 (by decide +kernel) (by decide +kernel)
set_option maxRecDepth 100000 in
theorem km_1356 : Cond.selects rr_Search yy_Search_fits yy_Search_fits ∈ zT := zm 1356 (by decide +kernel) (by decide +kernel)
set_option maxRecDepth 100000 in
theorem km_1357 : Cond.code yy_Search_fits bb_Search_fits 3 (some (.boolean)) ∈ zT := zm 1357 (by decide +kernel) (by decide +kernel)
set_option maxRecDepth 100000 in
theorem km_1358 : Cond.methodLink rr_Search 72 yy_Search_begin ∈ zT := zm 1358 (by decide +kernel) (by decide +kernel)
set_option maxRecDepth 100000 in
theorem km_1359 : Cond.methodLink rr_Search 76 yy_Search_knownFit ∈ zT := zm 1359 (by decide +kernel) (by decide +kernel)
set_option maxRecDepth 100000 in
theorem km_1361 : Cond.instanceMethod yy_Search_knownFit ∈ zT := zm 1361 (by decide +kernel) (by decide +kernel)
set_option maxRecDepth 100000 in
theorem km_1362 : Cond.code yy_Search_knownFit bb_Search_knownFit 5 (some (.boolean)) ∈ zT := zm 1362 (by decide +kernel) (by decide +kernel)
set_option maxRecDepth 100000 in
theorem km_1363 : Cond.methodLink rr_Search 80 yy_Search_next ∈ zT := zm 1363 (by decide +kernel) (by decide +kernel)
set_option maxRecDepth 100000 in
theorem km_1364 : Cond.methodLink rr_Finder 98 yy_Finder_load ∈ zT := zm 1364 (by decide +kernel) (by decide +kernel)
set_option maxRecDepth 100000 in
theorem km_1366 : Cond.instanceMethod yy_Finder_load ∈ zT := zm 1366 (by decide +kernel) (by decide +kernel)
set_option maxRecDepth 100000 in
theorem km_1367 : Cond.code yy_Finder_load bb_Finder_load 4 (some (.int)) ∈ zT := zm 1367 (by decide +kernel) (by decide +kernel)
set_option maxRecDepth 100000 in
theorem km_1368 : Cond.methodLink rr_Finder 121 yy_Way_arcsBetween ∈ zT := zm 1368 (by decide +kernel) (by decide +kernel)
set_option maxRecDepth 100000 in
theorem km_1369 : Cond.instanceMethod yy_Way_arcsBetween ∈ zT := zm 1369 (by decide +kernel) (by decide +kernel)
set_option maxRecDepth 100000 in
theorem km_1370 : Cond.selects rr_Way yy_Way_arcsBetween yy_Way_arcsBetween ∈ zT := zm 1370 (by decide +kernel) (by decide +kernel)
set_option maxRecDepth 100000 in
theorem km_1371 : Cond.code yy_Way_arcsBetween bb_Way_arcsBetween 3 (some (.int)) ∈ zT := zm 1371 (by decide +kernel) (by decide +kernel)
set_option maxRecDepth 100000 in
theorem km_1372 : Cond.methodLink rr_Finder 101 yy_Math_max_0 ∈ zT := zm 1372 (by decide +kernel) (by decide +kernel)
set_option maxRecDepth 100000 in
theorem km_1373 : Cond.methodLink rr_Finder 106 yy_Finder_operate ∈ zT := zm 1373 (by decide +kernel) (by decide +kernel)
set_option maxRecDepth 100000 in
theorem km_1374 : Cond.static yy_Finder_operate ∈ zT := zm 1374 (by decide +kernel) (by decide +kernel)
set_option maxRecDepth 100000 in
theorem km_1375 : Cond.code yy_Finder_operate bb_Finder_operate 3 (some (.int)) ∈ zT := zm 1375 (by decide +kernel) (by decide +kernel)
set_option maxRecDepth 100000 in
theorem km_1376 : Cond.methodLink rr_Finder 124 yy_Finder_bounded ∈ zT := zm 1376 (by decide +kernel) (by decide +kernel)
set_option maxRecDepth 100000 in
theorem km_1377 : Cond.static yy_Finder_bounded ∈ zT := zm 1377 (by decide +kernel) (by decide +kernel)
set_option maxRecDepth 100000 in
theorem km_1378 : Cond.code yy_Finder_bounded bb_Finder_bounded 2 (some (.int)) ∈ zT := zm 1378 (by decide +kernel) (by decide +kernel)
set_option maxRecDepth 100000 in
theorem km_1379 : Cond.constantLong rr_Finder 128 1000000000 ∈ zT := zm 1379 (by decide +kernel) (by decide +kernel)
set_option maxRecDepth 100000 in
theorem km_1380 : Cond.constant rr_Finder 130 1000000000 ∈ zT := zm 1380 (by decide +kernel) (by decide +kernel)
set_option maxRecDepth 100000 in
theorem km_1381 : Cond.constantLong rr_Finder 131 (-1000000000) ∈ zT := zm 1381 (by decide +kernel) (by decide +kernel)
set_option maxRecDepth 100000 in
theorem km_1382 : Cond.constant rr_Finder 133 (-1000000000) ∈ zT := zm 1382 (by decide +kernel) (by decide +kernel)
set_option maxRecDepth 100000 in
theorem km_1383 : Cond.methodLink rr_RuleBook 105 yy_Graph_reached ∈ zT := zm 1383 (by decide +kernel) (by decide +kernel)
set_option maxRecDepth 100000 in
theorem km_1384 : Cond.instanceMethod yy_Graph_reached ∈ zT := zm 1384 (by decide +kernel) (by decide +kernel)
set_option maxRecDepth 100000 in
theorem km_1385 : Cond.selects rr_Graph yy_Graph_reached yy_Graph_reached ∈ zT := zm 1385 (by decide +kernel) (by decide +kernel)
set_option maxRecDepth 100000 in
theorem km_1386 : Cond.code yy_Graph_reached bb_Graph_reached 3 (some (.int)) ∈ zT := zm 1386 (by decide +kernel) (by decide +kernel)
set_option maxRecDepth 100000 in
theorem km_1387 : Cond.methodLink rr_RuleBook 109 yy_RuleBook_linkAll ∈ zT := zm 1387 (by decide +kernel) (by decide +kernel)
set_option maxRecDepth 100000 in
theorem km_1389 : Cond.instanceMethod yy_RuleBook_linkAll ∈ zT := zm 1389 (by decide +kernel) (by decide +kernel)
set_option maxRecDepth 100000 in
theorem km_1390 : Cond.code yy_RuleBook_linkAll bb_RuleBook_linkAll 5 none ∈ zT := zm 1390 (by decide +kernel) (by decide +kernel)
set_option maxRecDepth 100000 in
theorem km_1391 : Cond.methodLink rr_RuleBook 128 yy_Graph_link ∈ zT := zm 1391 (by decide +kernel) (by decide +kernel)
set_option maxRecDepth 100000 in
theorem km_1452 : Cond.methodLink rr_Rows 49 yy_Rows_compare ∈ zT := zm 1452 (by decide +kernel) (by decide +kernel)
set_option maxRecDepth 100000 in
theorem km_1453 : Cond.instanceMethod yy_Rows_compare ∈ zT := zm 1453 (by decide +kernel) (by decide +kernel)
set_option maxRecDepth 100000 in
theorem km_1454 : Cond.selects rr_Rows yy_Rows_compare yy_Rows_compare ∈ zT := zm 1454 (by decide +kernel) (by decide +kernel)
set_option maxRecDepth 100000 in
theorem km_1455 : Cond.code yy_Rows_compare bb_Rows_compare 7 (some (.int)) ∈ zT := zm 1455 (by decide +kernel) (by decide +kernel)
set_option maxRecDepth 100000 in
theorem km_1465 : Cond.methodLink rr_Collector 76 yy_Rows_cell ∈ zT := zm 1465 (by decide +kernel) (by decide +kernel)
set_option maxRecDepth 100000 in
theorem km_1466 : Cond.instanceMethod yy_Rows_cell ∈ zT := zm 1466 (by decide +kernel) (by decide +kernel)
set_option maxRecDepth 100000 in
theorem km_1467 : Cond.selects rr_Rows yy_Rows_cell yy_Rows_cell ∈ zT := zm 1467 (by decide +kernel) (by decide +kernel)
set_option maxRecDepth 100000 in
theorem km_1468 : Cond.code yy_Rows_cell bb_Rows_cell 3 (some (.int)) ∈ zT := zm 1468 (by decide +kernel) (by decide +kernel)
set_option maxRecDepth 100000 in
theorem km_1473 : Cond.methodLink rr_Collector 116 yy_Math_min_1 ∈ zT := zm 1473 (by decide +kernel) (by decide +kernel)
set_option maxRecDepth 100000 in
theorem km_1474 : Cond.static yy_Math_min_1 ∈ zT := zm 1474 (by decide +kernel) (by decide +kernel)
set_option maxRecDepth 100000 in
theorem km_1475 : Cond.code yy_Math_min_1 bb_Math_min_1 4 (some (.long)) ∈ zT := zm 1475 (by decide +kernel) (by decide +kernel)
set_option maxRecDepth 100000 in
theorem km_1476 : Cond.methodLink rr_Collector 119 yy_Math_max_1 ∈ zT := zm 1476 (by decide +kernel) (by decide +kernel)
set_option maxRecDepth 100000 in
theorem km_1477 : Cond.static yy_Math_max_1 ∈ zT := zm 1477 (by decide +kernel) (by decide +kernel)
set_option maxRecDepth 100000 in
theorem km_1478 : Cond.code yy_Math_max_1 bb_Math_max_1 4 (some (.long)) ∈ zT := zm 1478 (by decide +kernel) (by decide +kernel)
set_option maxRecDepth 100000 in
theorem km_1486 : Cond.constant rr_PQ 178 2000000000 ∈ zT := zm 1486 (by decide +kernel) (by decide +kernel)
set_option maxRecDepth 100000 in
theorem km_1487 : Cond.methodLink rr_PQ 182 yy_Rows_cell ∈ zT := zm 1487 (by decide +kernel) (by decide +kernel)
set_option maxRecDepth 100000 in
theorem km_1492 : Cond.methodLink rr_PQ 185 yy_Graph_countArcs ∈ zT := zm 1492 (by decide +kernel) (by decide +kernel)
set_option maxRecDepth 100000 in
theorem km_1493 : Cond.instanceMethod yy_Graph_countArcs ∈ zT := zm 1493 (by decide +kernel) (by decide +kernel)
set_option maxRecDepth 100000 in
theorem km_1494 : Cond.selects rr_Graph yy_Graph_countArcs yy_Graph_countArcs ∈ zT := zm 1494 (by decide +kernel) (by decide +kernel)
set_option maxRecDepth 100000 in
theorem km_1495 : Cond.code yy_Graph_countArcs bb_Graph_countArcs 6 (some (.int)) ∈ zT := zm 1495 (by decide +kernel) (by decide +kernel)
set_option maxRecDepth 100000 in
theorem km_1496 : Cond.methodLink rr_PQ 188 yy_Graph_reached ∈ zT := zm 1496 (by decide +kernel) (by decide +kernel)
set_option maxRecDepth 100000 in
theorem km_1501 : Cond.methodLink rr_PQ 191 yy_Integer_bitCount ∈ zT := zm 1501 (by decide +kernel) (by decide +kernel)
set_option maxRecDepth 100000 in
theorem km_1502 : Cond.static yy_Integer_bitCount ∈ zT := zm 1502 (by decide +kernel) (by decide +kernel)
set_option maxRecDepth 100000 in
theorem km_1503 : Cond.code yy_Integer_bitCount bb_Integer_bitCount 1 (some (.int)) ∈ zT := zm 1503 (by decide +kernel) (by decide +kernel)
set_option maxRecDepth 100000 in
theorem km_1504 : Cond.constant rr_Integer 265 1431655765 ∈ zT := zm 1504 (by decide +kernel) (by decide +kernel)
set_option maxRecDepth 100000 in
theorem km_1505 : Cond.constant rr_Integer 266 858993459 ∈ zT := zm 1505 (by decide +kernel) (by decide +kernel)
set_option maxRecDepth 100000 in
theorem km_1506 : Cond.constant rr_Integer 267 252645135 ∈ zT := zm 1506 (by decide +kernel) (by decide +kernel)
set_option maxRecDepth 100000 in
theorem km_1511 : Cond.methodLink rr_PQ 203 yy_Finder_bringUpToDate ∈ zT := zm 1511 (by decide +kernel) (by decide +kernel)
set_option maxRecDepth 100000 in
theorem km_1512 : Cond.methodLink rr_PQ 212 yy_Way_arcsBetween ∈ zT := zm 1512 (by decide +kernel) (by decide +kernel)
