section ZzT
/-- an operation of conditions and items, with what it is of -/
def okCode (x : Int32) : Prop := 0 ≤ x.toInt ∧ x.toInt ≤ 400000 ∧ (x.toInt % 32 = 1 → x.toInt / 32 ≤ 7) ∧ (x.toInt % 32 = 2 → x.toInt / 32 ≤ 31) ∧ (x.toInt % 32 = 3 → x.toInt / 32 ≤ 9) ∧ (x.toInt % 32 = 4 → x.toInt / 32 ≤ 69)
def kn (x : Int32) : Prop := x.toInt = -1 ∨ (0 ≤ x.toInt ∧ x.toInt ≤ 7) ∨ (100 ≤ x.toInt ∧ x.toInt ≤ 107)
def okOp (x : Int32) : Prop := x.toInt = 0 ∨ (5 ≤ x.toInt ∧ x.toInt ≤ 31)

def zty (T : Nat) : Zt := match T with
  | 1 => kOb 0 [tR [15], tR [16], tR [17], tR [18], tR [19], tR [20], tR [21], tI (rg 0 16), tI an, tI an]
  | 2 => kOb 1 [tI (rg 0 7), tI (rg 0 7), tI an, tI (rg 0 1), tI (rg 0 1), tI (rg 0 16), tR [22], tR [23], tL, tI (rg 0 11), tL, tR [24], tR [25], tR [26], tR [27], tR [28], tI an, tI an]
  | 3 => kOb 2 [tI (rg 0 1), tI (rg 0 3), tI an, tI (rg 0 10), tR [29], tI (rg 0 70), tR [30], tR [31], tI (rg 0 70), tR [32], tR [33], tR [34], tI (rg 0 202), tR [35], tI (rg 0 202), tI (rg 0 8), tR [36], tR [37], tI (rg 0 20000), tI (rg 0 7), tI (rg 0 7)]
  | 4 => kOb 3 [tR [38], tR [39], tR [40], tI (rg 0 201), tR [41, 42], tI (rg 0 1500)]
  | 5 => kOb 4 [tI an, tI an, tI an, tR [3], tI (rg 0 80), tR [43], tR [44], tR [45]]
  | 6 => kOb 5 [tI an, tR [4], tR [5], tR [46], tR [3], tR [2], tI (rg 0 1), tI (rg 0 201), tI an, tI an, tI (rg 0 8), tI an, tI an, tI an, tI (rg 0 201), tI (rg (-1) 7), tI (rg (-1) 7), tI (rg 0 255), tI an, tI (rg 0 1)]
  | 7 => kOb 6 [tR [1], tR [47], tR [48], tR [49], tR [50], tR [3], tI (rg 0 10), tI (rg 0 10), tI (rg 0 70), tI (rg 0 70), tI (rg 0 8), tI (rg (-1) 7)]
  | 8 => kOb 7 [tR [47], tR [1], tR [7], tR [7], tR [51], tR [52], tR [53], tR [54], tR [3]]
  | 9 => kOb 8 [tR [55], tR [1], tR [8], tR [56], tI an, tI (rg 0 1)]
  | 10 => kOb 9 [tI (rg 0 20000), tI (rg 0 8), tR [57], tR [58], tR [58]]
  | 11 => kOb 9 [tI (rg 0 20000), tI (rg 0 8), tR [57], tR [58], tR [58]]
  | 12 => kOb 9 [tI (rg 0 20000), tI (rg 0 8), tR [57], tR [58], tR [58]]
  | 13 => kOb 10 [tR [8], tR [10], tR [11], tR [59]]
  | 14 => kOb 11 [tR [42], tR [1], tR [3], tR [6], tR [8], tR [9], tR [13], tR [60], tR [61], tR [62], tI (rg 0 1500)]
  | 15 => kAi 0 16 (rg 0 255)
  | 16 => kAi 0 64 (rg (-9999) 9999)
  | 17 => kAi 0 100 (rg 0 15)
  | 18 => kAi 0 100 (rg 0 15)
  | 19 => kAi 0 100 (rg (-1) 7)
  | 20 => kAi 0 100 (rg 0 99)
  | 21 => kAi 0 416 an
  | 22 => kAi 0 16 (rg 0 25)
  | 23 => kAi 0 16 an
  | 24 => kAl 2 12
  | 25 => kAl 2 12
  | 26 => kAi 0 256 an
  | 27 => kAi 0 16 an
  | 28 => kAi 0 16 an
  | 29 => kAr 3 10 [2]
  | 30 => kAi 0 70 (rg 0 2047)
  | 31 => kAi 0 70 an
  | 32 => kAi 0 70 an
  | 33 => kAi 0 70 (rg 0 10)
  | 34 => kAi 0 70 (rg 0 70)
  | 35 => kAi 0 202 okCode
  | 36 => kAi 0 8 an
  | 37 => kAi 0 8 (rg 0 202)
  | 38 => kAi 0 202 an
  | 39 => kAi 0 202 (rg (-1) 9999)
  | 40 => kAi 0 202 an
  | 41 => kAi 1 0 an
  | 42 => kAi 1 1500 an
  | 43 => kAi 0 80 an
  | 44 => kAi 0 80 okOp
  | 45 => kAi 0 80 an
  | 46 => kAi 0 66 (rg (-1) 7)
  | 47 => kAi 0 8 (rg 0 15)
  | 48 => kAi 0 8 (rg 0 7)
  | 49 => kAi 0 8 an
  | 50 => kAi 0 8 (rg 0 65535)
  | 51 => kAi 0 80 an
  | 52 => kAi 0 16 an
  | 53 => kAi 0 16 an
  | 54 => kAi 0 16 an
  | 55 => kAr 4 4 [3]
  | 56 => kAi 0 64 an
  | 57 => kAd 0 (fun n => 64 ≤ n ∧ n ≤ 320000) an
  | 58 => kAd 0 (fun n => n ≤ 40000) an
  | 59 => kAl 2 8
  | 60 => kAr 4 4 [3]
  | 61 => kAr 5 4 [12, 63]
  | 62 => kAi 0 4 an
  | 63 => kOb 9 [tI (rg 0 20000), tI (rg 0 8), tR [57], tR [58], tR [58]]
  | 64 => kOb 12 [tI (rg 0 16), tR [65], tR [66], tR [67], tR [68], tR [69], tR [70], tR [71], tI (rg 0 100), tR [72], tI (rg 0 1), tI (rg 0 1), tR [73], tI (rg 0 1500), tR [74], tR [75], tR [76], tI (rg 0 1501), tI (rg 0 200), tI (rg 0 6), tI an, tI an, tR [77], tR [78], tI (rg 0 8), tI (rg 0 8), tR [79], tR [80], tR [81], tR [82], tR [83], tR [84], tR [85], tR [86], tR [87], tR [88], tR [89], tR [90], tR [91], tR [92], tR [93], tR [94], tR [95], tR [96], tR [97], tR [98], tR [99], tR [100], tR [101], tR [102], tR [103], tR [104], tI (rg 0 400), tI (rg 0 11), tR [105], tR [106], tI (rg 0 79), tI (rg 0 9), tR [107], tR [108], tR [109], tR [110], tR [111], tR [112], tR [113], tI (rg 0 12), tR [114], tR [115], tR [116], tI (rg 0 1000), tR [117], tR [118], tR [119], tR [120], tR [121], tR [122], tR [123], tR [124], tR [125], tR [126], tR [127], tI (rg 0 20000), tR [128], tR [129], tR [130], tR [131], tR [132], tI (rg 0 8), tR [133], tR [134]]
  | 65 => kAi 0 16 (rg 0 255)
  | 66 => kAi 0 64 (rg (-9999) 9999)
  | 67 => kAi 6 100 (rg 0 1)
  | 68 => kAi 0 100 (rg 0 15)
  | 69 => kAi 0 100 (rg 0 15)
  | 70 => kAi 0 100 (rg 0 7)
  | 71 => kAi 0 100 (rg 0 99)
  | 72 => kAi 0 3328 an
  | 73 => kAi 1 1500 an
  | 74 => kAi 0 1502 an
  | 75 => kAi 0 1502 an
  | 76 => kAi 0 1502 an
  | 77 => kAi 0 8 (rg 0 8)
  | 78 => kAi 6 8 (rg 0 1)
  | 79 => kAi 0 9 (rg 0 8)
  | 80 => kAi 0 9 (rg 0 8)
  | 81 => kAi 0 9 (rg 0 79)
  | 82 => kAi 0 72 an
  | 83 => kAi 0 5760 an
  | 84 => kAi 0 9 (rg 0 10)
  | 85 => kAi 0 99 an
  | 86 => kAi 0 99 an
  | 87 => kAi 0 99 an
  | 88 => kAi 0 99 (rg (-1) 7)
  | 89 => kAi 6 99 (rg 0 1)
  | 90 => kAi 0 99 an
  | 91 => kAi 0 99 an
  | 92 => kAi 0 99 (rg 0 16)
  | 93 => kAi 0 1584 (rg 0 12)
  | 94 => kAi 6 1584 (rg 0 1)
  | 95 => kAi 0 1584 an
  | 96 => kAi 0 9 (rg 0 8)
  | 97 => kAi 0 72 an
  | 98 => kAi 0 72 (rg 0 511)
  | 99 => kAi 0 9 (rg (-1) 511)
  | 100 => kAi 0 9 (rg 0 9999)
  | 101 => kAi 0 9 an
  | 102 => kAi 0 9 an
  | 103 => kAi 0 4608 an
  | 104 => kAi 0 4608 an
  | 105 => kAi 0 66 kn
  | 106 => kAi 0 66 kn
  | 107 => kAi 6 64 (rg 0 1)
  | 108 => kAi 0 64 an
  | 109 => kAi 0 64 an
  | 110 => kAi 6 64 (rg 0 1)
  | 111 => kAi 0 64 an
  | 112 => kAi 0 64 an
  | 113 => kAi 6 64 (rg 0 1)
  | 114 => kAi 0 1024 an
  | 115 => kAi 0 1024 an
  | 116 => kAi 0 1024 an
  | 117 => kAi 0 2560 an
  | 118 => kAi 0 272 (rg 0 15)
  | 119 => kAi 0 272 (rg 0 16)
  | 120 => kAi 0 272 an
  | 121 => kAi 0 8 (rg 0 15)
  | 122 => kAi 0 8 an
  | 123 => kAi 0 256 an
  | 124 => kAi 0 1024 (rg 0 1)
  | 125 => kAi 0 160000 an
  | 126 => kAi 0 20000 (rg 0 19999)
  | 127 => kAi 0 20000 (rg 0 19999)
  | 128 => kAi 0 640000 an
  | 129 => kAi 0 4 (rg 0 20000)
  | 130 => kAi 0 4 (rg 0 8)
  | 131 => kAi 6 4 (rg 0 1)
  | 132 => kAi 0 8 (rg 0 7)
  | 133 => kAi 0 160000 an
  | 134 => kAi 6 99 (rg 0 1)
  | _ => kRaw
theorem go_1 {G : List Nat} {c : Zc} {k : Nat} (W : Zwt zty G c) (h : G[k]? = some 1) : ∃ vs, zob c k 0 = some vs := wt_ob W h rfl
theorem gf_1_0 {G : List Nat} {c : Zc} {k : Nat} (W : Zwt zty G c) (h : G[k]? = some 1) : ∃ x, zgr c k 0 0 = some x ∧ G[x]? = some 15 := wt_gr1 W h rfl rfl
theorem pf_1_0 {G : List Nat} {c : Zc} {k : Nat} (W : Zwt zty G c) (h : G[k]? = some 1) {x T' : Nat} (hx : G[x]? = some T') (hS : T' ∈ [15]) : ∃ c', zpv c k 0 0 (.ref x) = some c' ∧ Zwt zty G c' ∧ Zfr G [(1, 0)] c c' ∧ zgr c' k 0 0 = some x := wt_pr W h rfl rfl hx hS
theorem gf_1_1 {G : List Nat} {c : Zc} {k : Nat} (W : Zwt zty G c) (h : G[k]? = some 1) : ∃ x, zgr c k 0 1 = some x ∧ G[x]? = some 16 := wt_gr1 W h rfl rfl
theorem pf_1_1 {G : List Nat} {c : Zc} {k : Nat} (W : Zwt zty G c) (h : G[k]? = some 1) {x T' : Nat} (hx : G[x]? = some T') (hS : T' ∈ [16]) : ∃ c', zpv c k 0 1 (.ref x) = some c' ∧ Zwt zty G c' ∧ Zfr G [(1, 1)] c c' ∧ zgr c' k 0 1 = some x := wt_pr W h rfl rfl hx hS
theorem gf_1_2 {G : List Nat} {c : Zc} {k : Nat} (W : Zwt zty G c) (h : G[k]? = some 1) : ∃ x, zgr c k 0 2 = some x ∧ G[x]? = some 17 := wt_gr1 W h rfl rfl
theorem pf_1_2 {G : List Nat} {c : Zc} {k : Nat} (W : Zwt zty G c) (h : G[k]? = some 1) {x T' : Nat} (hx : G[x]? = some T') (hS : T' ∈ [17]) : ∃ c', zpv c k 0 2 (.ref x) = some c' ∧ Zwt zty G c' ∧ Zfr G [(1, 2)] c c' ∧ zgr c' k 0 2 = some x := wt_pr W h rfl rfl hx hS
theorem gf_1_3 {G : List Nat} {c : Zc} {k : Nat} (W : Zwt zty G c) (h : G[k]? = some 1) : ∃ x, zgr c k 0 3 = some x ∧ G[x]? = some 18 := wt_gr1 W h rfl rfl
theorem pf_1_3 {G : List Nat} {c : Zc} {k : Nat} (W : Zwt zty G c) (h : G[k]? = some 1) {x T' : Nat} (hx : G[x]? = some T') (hS : T' ∈ [18]) : ∃ c', zpv c k 0 3 (.ref x) = some c' ∧ Zwt zty G c' ∧ Zfr G [(1, 3)] c c' ∧ zgr c' k 0 3 = some x := wt_pr W h rfl rfl hx hS
theorem gf_1_4 {G : List Nat} {c : Zc} {k : Nat} (W : Zwt zty G c) (h : G[k]? = some 1) : ∃ x, zgr c k 0 4 = some x ∧ G[x]? = some 19 := wt_gr1 W h rfl rfl
theorem pf_1_4 {G : List Nat} {c : Zc} {k : Nat} (W : Zwt zty G c) (h : G[k]? = some 1) {x T' : Nat} (hx : G[x]? = some T') (hS : T' ∈ [19]) : ∃ c', zpv c k 0 4 (.ref x) = some c' ∧ Zwt zty G c' ∧ Zfr G [(1, 4)] c c' ∧ zgr c' k 0 4 = some x := wt_pr W h rfl rfl hx hS
theorem gf_1_5 {G : List Nat} {c : Zc} {k : Nat} (W : Zwt zty G c) (h : G[k]? = some 1) : ∃ x, zgr c k 0 5 = some x ∧ G[x]? = some 20 := wt_gr1 W h rfl rfl
theorem pf_1_5 {G : List Nat} {c : Zc} {k : Nat} (W : Zwt zty G c) (h : G[k]? = some 1) {x T' : Nat} (hx : G[x]? = some T') (hS : T' ∈ [20]) : ∃ c', zpv c k 0 5 (.ref x) = some c' ∧ Zwt zty G c' ∧ Zfr G [(1, 5)] c c' ∧ zgr c' k 0 5 = some x := wt_pr W h rfl rfl hx hS
theorem gf_1_6 {G : List Nat} {c : Zc} {k : Nat} (W : Zwt zty G c) (h : G[k]? = some 1) : ∃ x, zgr c k 0 6 = some x ∧ G[x]? = some 21 := wt_gr1 W h rfl rfl
theorem pf_1_6 {G : List Nat} {c : Zc} {k : Nat} (W : Zwt zty G c) (h : G[k]? = some 1) {x T' : Nat} (hx : G[x]? = some T') (hS : T' ∈ [21]) : ∃ c', zpv c k 0 6 (.ref x) = some c' ∧ Zwt zty G c' ∧ Zfr G [(1, 6)] c c' ∧ zgr c' k 0 6 = some x := wt_pr W h rfl rfl hx hS
theorem gf_1_7 {G : List Nat} {c : Zc} {k : Nat} (W : Zwt zty G c) (h : G[k]? = some 1) : ∃ x, zgi c k 0 7 = some x ∧ (rg 0 16) x := wt_gi W h rfl rfl
theorem pf_1_7 {G : List Nat} {c : Zc} {k : Nat} (W : Zwt zty G c) (h : G[k]? = some 1) {x : Int32} (hx : (rg 0 16) x) : ∃ c', zpv c k 0 7 (.int x) = some c' ∧ Zwt zty G c' ∧ Zfr G [(1, 7)] c c' ∧ zgi c' k 0 7 = some x := wt_pi W h rfl rfl hx
theorem gf_1_8 {G : List Nat} {c : Zc} {k : Nat} (W : Zwt zty G c) (h : G[k]? = some 1) : ∃ x, zgi c k 0 8 = some x ∧ an x := wt_gi W h rfl rfl
theorem pf_1_8 {G : List Nat} {c : Zc} {k : Nat} (W : Zwt zty G c) (h : G[k]? = some 1) {x : Int32} (hx : an x) : ∃ c', zpv c k 0 8 (.int x) = some c' ∧ Zwt zty G c' ∧ Zfr G [(1, 8)] c c' ∧ zgi c' k 0 8 = some x := wt_pi W h rfl rfl hx
theorem gf_1_9 {G : List Nat} {c : Zc} {k : Nat} (W : Zwt zty G c) (h : G[k]? = some 1) : ∃ x, zgi c k 0 9 = some x ∧ an x := wt_gi W h rfl rfl
theorem pf_1_9 {G : List Nat} {c : Zc} {k : Nat} (W : Zwt zty G c) (h : G[k]? = some 1) {x : Int32} (hx : an x) : ∃ c', zpv c k 0 9 (.int x) = some c' ∧ Zwt zty G c' ∧ Zfr G [(1, 9)] c c' ∧ zgi c' k 0 9 = some x := wt_pi W h rfl rfl hx
theorem go_2 {G : List Nat} {c : Zc} {k : Nat} (W : Zwt zty G c) (h : G[k]? = some 2) : ∃ vs, zob c k 1 = some vs := wt_ob W h rfl
theorem gf_2_0 {G : List Nat} {c : Zc} {k : Nat} (W : Zwt zty G c) (h : G[k]? = some 2) : ∃ x, zgi c k 1 0 = some x ∧ (rg 0 7) x := wt_gi W h rfl rfl
theorem pf_2_0 {G : List Nat} {c : Zc} {k : Nat} (W : Zwt zty G c) (h : G[k]? = some 2) {x : Int32} (hx : (rg 0 7) x) : ∃ c', zpv c k 1 0 (.int x) = some c' ∧ Zwt zty G c' ∧ Zfr G [(2, 0)] c c' ∧ zgi c' k 1 0 = some x := wt_pi W h rfl rfl hx
theorem gf_2_1 {G : List Nat} {c : Zc} {k : Nat} (W : Zwt zty G c) (h : G[k]? = some 2) : ∃ x, zgi c k 1 1 = some x ∧ (rg 0 7) x := wt_gi W h rfl rfl
theorem pf_2_1 {G : List Nat} {c : Zc} {k : Nat} (W : Zwt zty G c) (h : G[k]? = some 2) {x : Int32} (hx : (rg 0 7) x) : ∃ c', zpv c k 1 1 (.int x) = some c' ∧ Zwt zty G c' ∧ Zfr G [(2, 1)] c c' ∧ zgi c' k 1 1 = some x := wt_pi W h rfl rfl hx
theorem gf_2_2 {G : List Nat} {c : Zc} {k : Nat} (W : Zwt zty G c) (h : G[k]? = some 2) : ∃ x, zgi c k 1 2 = some x ∧ an x := wt_gi W h rfl rfl
theorem pf_2_2 {G : List Nat} {c : Zc} {k : Nat} (W : Zwt zty G c) (h : G[k]? = some 2) {x : Int32} (hx : an x) : ∃ c', zpv c k 1 2 (.int x) = some c' ∧ Zwt zty G c' ∧ Zfr G [(2, 2)] c c' ∧ zgi c' k 1 2 = some x := wt_pi W h rfl rfl hx
theorem gf_2_3 {G : List Nat} {c : Zc} {k : Nat} (W : Zwt zty G c) (h : G[k]? = some 2) : ∃ x, zgi c k 1 3 = some x ∧ (rg 0 1) x := wt_gi W h rfl rfl
theorem pf_2_3 {G : List Nat} {c : Zc} {k : Nat} (W : Zwt zty G c) (h : G[k]? = some 2) {x : Int32} (hx : (rg 0 1) x) : ∃ c', zpv c k 1 3 (.int x) = some c' ∧ Zwt zty G c' ∧ Zfr G [(2, 3)] c c' ∧ zgi c' k 1 3 = some x := wt_pi W h rfl rfl hx
theorem pz_2_3 {G : List Nat} {c : Zc} {k : Nat} (W : Zwt zty G c) (h : G[k]? = some 2) {x : Int32} (hx : rg 0 1 x) : ∃ c', zpz c k 1 3 x = some c' ∧ Zwt zty G c' ∧ Zfr G [(2, 3)] c c' ∧ zgi c' k 1 3 = some x := wt_pz W h rfl rfl hx
theorem gf_2_4 {G : List Nat} {c : Zc} {k : Nat} (W : Zwt zty G c) (h : G[k]? = some 2) : ∃ x, zgi c k 1 4 = some x ∧ (rg 0 1) x := wt_gi W h rfl rfl
theorem pf_2_4 {G : List Nat} {c : Zc} {k : Nat} (W : Zwt zty G c) (h : G[k]? = some 2) {x : Int32} (hx : (rg 0 1) x) : ∃ c', zpv c k 1 4 (.int x) = some c' ∧ Zwt zty G c' ∧ Zfr G [(2, 4)] c c' ∧ zgi c' k 1 4 = some x := wt_pi W h rfl rfl hx
theorem pz_2_4 {G : List Nat} {c : Zc} {k : Nat} (W : Zwt zty G c) (h : G[k]? = some 2) {x : Int32} (hx : rg 0 1 x) : ∃ c', zpz c k 1 4 x = some c' ∧ Zwt zty G c' ∧ Zfr G [(2, 4)] c c' ∧ zgi c' k 1 4 = some x := wt_pz W h rfl rfl hx
theorem gf_2_5 {G : List Nat} {c : Zc} {k : Nat} (W : Zwt zty G c) (h : G[k]? = some 2) : ∃ x, zgi c k 1 5 = some x ∧ (rg 0 16) x := wt_gi W h rfl rfl
theorem pf_2_5 {G : List Nat} {c : Zc} {k : Nat} (W : Zwt zty G c) (h : G[k]? = some 2) {x : Int32} (hx : (rg 0 16) x) : ∃ c', zpv c k 1 5 (.int x) = some c' ∧ Zwt zty G c' ∧ Zfr G [(2, 5)] c c' ∧ zgi c' k 1 5 = some x := wt_pi W h rfl rfl hx
theorem gf_2_6 {G : List Nat} {c : Zc} {k : Nat} (W : Zwt zty G c) (h : G[k]? = some 2) : ∃ x, zgr c k 1 6 = some x ∧ G[x]? = some 22 := wt_gr1 W h rfl rfl
theorem pf_2_6 {G : List Nat} {c : Zc} {k : Nat} (W : Zwt zty G c) (h : G[k]? = some 2) {x T' : Nat} (hx : G[x]? = some T') (hS : T' ∈ [22]) : ∃ c', zpv c k 1 6 (.ref x) = some c' ∧ Zwt zty G c' ∧ Zfr G [(2, 6)] c c' ∧ zgr c' k 1 6 = some x := wt_pr W h rfl rfl hx hS
theorem gf_2_7 {G : List Nat} {c : Zc} {k : Nat} (W : Zwt zty G c) (h : G[k]? = some 2) : ∃ x, zgr c k 1 7 = some x ∧ G[x]? = some 23 := wt_gr1 W h rfl rfl
theorem pf_2_7 {G : List Nat} {c : Zc} {k : Nat} (W : Zwt zty G c) (h : G[k]? = some 2) {x T' : Nat} (hx : G[x]? = some T') (hS : T' ∈ [23]) : ∃ c', zpv c k 1 7 (.ref x) = some c' ∧ Zwt zty G c' ∧ Zfr G [(2, 7)] c c' ∧ zgr c' k 1 7 = some x := wt_pr W h rfl rfl hx hS
theorem gf_2_8 {G : List Nat} {c : Zc} {k : Nat} (W : Zwt zty G c) (h : G[k]? = some 2) : ∃ x, zgl c k 1 8 = some x := wt_gl W h rfl rfl
theorem pf_2_8 {G : List Nat} {c : Zc} {k : Nat} (W : Zwt zty G c) (h : G[k]? = some 2) (x : Int64) : ∃ c', zpv c k 1 8 (.long x) = some c' ∧ Zwt zty G c' ∧ Zfr G [(2, 8)] c c' ∧ zgl c' k 1 8 = some x := wt_pl W h rfl rfl
theorem gf_2_9 {G : List Nat} {c : Zc} {k : Nat} (W : Zwt zty G c) (h : G[k]? = some 2) : ∃ x, zgi c k 1 9 = some x ∧ (rg 0 11) x := wt_gi W h rfl rfl
theorem pf_2_9 {G : List Nat} {c : Zc} {k : Nat} (W : Zwt zty G c) (h : G[k]? = some 2) {x : Int32} (hx : (rg 0 11) x) : ∃ c', zpv c k 1 9 (.int x) = some c' ∧ Zwt zty G c' ∧ Zfr G [(2, 9)] c c' ∧ zgi c' k 1 9 = some x := wt_pi W h rfl rfl hx
theorem gf_2_10 {G : List Nat} {c : Zc} {k : Nat} (W : Zwt zty G c) (h : G[k]? = some 2) : ∃ x, zgl c k 1 10 = some x := wt_gl W h rfl rfl
theorem pf_2_10 {G : List Nat} {c : Zc} {k : Nat} (W : Zwt zty G c) (h : G[k]? = some 2) (x : Int64) : ∃ c', zpv c k 1 10 (.long x) = some c' ∧ Zwt zty G c' ∧ Zfr G [(2, 10)] c c' ∧ zgl c' k 1 10 = some x := wt_pl W h rfl rfl
theorem gf_2_11 {G : List Nat} {c : Zc} {k : Nat} (W : Zwt zty G c) (h : G[k]? = some 2) : ∃ x, zgr c k 1 11 = some x ∧ G[x]? = some 24 := wt_gr1 W h rfl rfl
theorem pf_2_11 {G : List Nat} {c : Zc} {k : Nat} (W : Zwt zty G c) (h : G[k]? = some 2) {x T' : Nat} (hx : G[x]? = some T') (hS : T' ∈ [24]) : ∃ c', zpv c k 1 11 (.ref x) = some c' ∧ Zwt zty G c' ∧ Zfr G [(2, 11)] c c' ∧ zgr c' k 1 11 = some x := wt_pr W h rfl rfl hx hS
theorem gf_2_12 {G : List Nat} {c : Zc} {k : Nat} (W : Zwt zty G c) (h : G[k]? = some 2) : ∃ x, zgr c k 1 12 = some x ∧ G[x]? = some 25 := wt_gr1 W h rfl rfl
theorem pf_2_12 {G : List Nat} {c : Zc} {k : Nat} (W : Zwt zty G c) (h : G[k]? = some 2) {x T' : Nat} (hx : G[x]? = some T') (hS : T' ∈ [25]) : ∃ c', zpv c k 1 12 (.ref x) = some c' ∧ Zwt zty G c' ∧ Zfr G [(2, 12)] c c' ∧ zgr c' k 1 12 = some x := wt_pr W h rfl rfl hx hS
theorem gf_2_13 {G : List Nat} {c : Zc} {k : Nat} (W : Zwt zty G c) (h : G[k]? = some 2) : ∃ x, zgr c k 1 13 = some x ∧ G[x]? = some 26 := wt_gr1 W h rfl rfl
theorem pf_2_13 {G : List Nat} {c : Zc} {k : Nat} (W : Zwt zty G c) (h : G[k]? = some 2) {x T' : Nat} (hx : G[x]? = some T') (hS : T' ∈ [26]) : ∃ c', zpv c k 1 13 (.ref x) = some c' ∧ Zwt zty G c' ∧ Zfr G [(2, 13)] c c' ∧ zgr c' k 1 13 = some x := wt_pr W h rfl rfl hx hS
theorem gf_2_14 {G : List Nat} {c : Zc} {k : Nat} (W : Zwt zty G c) (h : G[k]? = some 2) : ∃ x, zgr c k 1 14 = some x ∧ G[x]? = some 27 := wt_gr1 W h rfl rfl
theorem pf_2_14 {G : List Nat} {c : Zc} {k : Nat} (W : Zwt zty G c) (h : G[k]? = some 2) {x T' : Nat} (hx : G[x]? = some T') (hS : T' ∈ [27]) : ∃ c', zpv c k 1 14 (.ref x) = some c' ∧ Zwt zty G c' ∧ Zfr G [(2, 14)] c c' ∧ zgr c' k 1 14 = some x := wt_pr W h rfl rfl hx hS
theorem gf_2_15 {G : List Nat} {c : Zc} {k : Nat} (W : Zwt zty G c) (h : G[k]? = some 2) : ∃ x, zgr c k 1 15 = some x ∧ G[x]? = some 28 := wt_gr1 W h rfl rfl
theorem pf_2_15 {G : List Nat} {c : Zc} {k : Nat} (W : Zwt zty G c) (h : G[k]? = some 2) {x T' : Nat} (hx : G[x]? = some T') (hS : T' ∈ [28]) : ∃ c', zpv c k 1 15 (.ref x) = some c' ∧ Zwt zty G c' ∧ Zfr G [(2, 15)] c c' ∧ zgr c' k 1 15 = some x := wt_pr W h rfl rfl hx hS
theorem gf_2_16 {G : List Nat} {c : Zc} {k : Nat} (W : Zwt zty G c) (h : G[k]? = some 2) : ∃ x, zgi c k 1 16 = some x ∧ an x := wt_gi W h rfl rfl
theorem pf_2_16 {G : List Nat} {c : Zc} {k : Nat} (W : Zwt zty G c) (h : G[k]? = some 2) {x : Int32} (hx : an x) : ∃ c', zpv c k 1 16 (.int x) = some c' ∧ Zwt zty G c' ∧ Zfr G [(2, 16)] c c' ∧ zgi c' k 1 16 = some x := wt_pi W h rfl rfl hx
theorem gf_2_17 {G : List Nat} {c : Zc} {k : Nat} (W : Zwt zty G c) (h : G[k]? = some 2) : ∃ x, zgi c k 1 17 = some x ∧ an x := wt_gi W h rfl rfl
theorem pf_2_17 {G : List Nat} {c : Zc} {k : Nat} (W : Zwt zty G c) (h : G[k]? = some 2) {x : Int32} (hx : an x) : ∃ c', zpv c k 1 17 (.int x) = some c' ∧ Zwt zty G c' ∧ Zfr G [(2, 17)] c c' ∧ zgi c' k 1 17 = some x := wt_pi W h rfl rfl hx
theorem go_3 {G : List Nat} {c : Zc} {k : Nat} (W : Zwt zty G c) (h : G[k]? = some 3) : ∃ vs, zob c k 2 = some vs := wt_ob W h rfl
theorem gf_3_0 {G : List Nat} {c : Zc} {k : Nat} (W : Zwt zty G c) (h : G[k]? = some 3) : ∃ x, zgi c k 2 0 = some x ∧ (rg 0 1) x := wt_gi W h rfl rfl
theorem pf_3_0 {G : List Nat} {c : Zc} {k : Nat} (W : Zwt zty G c) (h : G[k]? = some 3) {x : Int32} (hx : (rg 0 1) x) : ∃ c', zpv c k 2 0 (.int x) = some c' ∧ Zwt zty G c' ∧ Zfr G [(3, 0)] c c' ∧ zgi c' k 2 0 = some x := wt_pi W h rfl rfl hx
theorem pz_3_0 {G : List Nat} {c : Zc} {k : Nat} (W : Zwt zty G c) (h : G[k]? = some 3) {x : Int32} (hx : rg 0 1 x) : ∃ c', zpz c k 2 0 x = some c' ∧ Zwt zty G c' ∧ Zfr G [(3, 0)] c c' ∧ zgi c' k 2 0 = some x := wt_pz W h rfl rfl hx
theorem gf_3_1 {G : List Nat} {c : Zc} {k : Nat} (W : Zwt zty G c) (h : G[k]? = some 3) : ∃ x, zgi c k 2 1 = some x ∧ (rg 0 3) x := wt_gi W h rfl rfl
theorem pf_3_1 {G : List Nat} {c : Zc} {k : Nat} (W : Zwt zty G c) (h : G[k]? = some 3) {x : Int32} (hx : (rg 0 3) x) : ∃ c', zpv c k 2 1 (.int x) = some c' ∧ Zwt zty G c' ∧ Zfr G [(3, 1)] c c' ∧ zgi c' k 2 1 = some x := wt_pi W h rfl rfl hx
theorem gf_3_2 {G : List Nat} {c : Zc} {k : Nat} (W : Zwt zty G c) (h : G[k]? = some 3) : ∃ x, zgi c k 2 2 = some x ∧ an x := wt_gi W h rfl rfl
theorem pf_3_2 {G : List Nat} {c : Zc} {k : Nat} (W : Zwt zty G c) (h : G[k]? = some 3) {x : Int32} (hx : an x) : ∃ c', zpv c k 2 2 (.int x) = some c' ∧ Zwt zty G c' ∧ Zfr G [(3, 2)] c c' ∧ zgi c' k 2 2 = some x := wt_pi W h rfl rfl hx
theorem gf_3_3 {G : List Nat} {c : Zc} {k : Nat} (W : Zwt zty G c) (h : G[k]? = some 3) : ∃ x, zgi c k 2 3 = some x ∧ (rg 0 10) x := wt_gi W h rfl rfl
theorem pf_3_3 {G : List Nat} {c : Zc} {k : Nat} (W : Zwt zty G c) (h : G[k]? = some 3) {x : Int32} (hx : (rg 0 10) x) : ∃ c', zpv c k 2 3 (.int x) = some c' ∧ Zwt zty G c' ∧ Zfr G [(3, 3)] c c' ∧ zgi c' k 2 3 = some x := wt_pi W h rfl rfl hx
theorem gf_3_4 {G : List Nat} {c : Zc} {k : Nat} (W : Zwt zty G c) (h : G[k]? = some 3) : ∃ x, zgr c k 2 4 = some x ∧ G[x]? = some 29 := wt_gr1 W h rfl rfl
theorem pf_3_4 {G : List Nat} {c : Zc} {k : Nat} (W : Zwt zty G c) (h : G[k]? = some 3) {x T' : Nat} (hx : G[x]? = some T') (hS : T' ∈ [29]) : ∃ c', zpv c k 2 4 (.ref x) = some c' ∧ Zwt zty G c' ∧ Zfr G [(3, 4)] c c' ∧ zgr c' k 2 4 = some x := wt_pr W h rfl rfl hx hS
theorem gf_3_5 {G : List Nat} {c : Zc} {k : Nat} (W : Zwt zty G c) (h : G[k]? = some 3) : ∃ x, zgi c k 2 5 = some x ∧ (rg 0 70) x := wt_gi W h rfl rfl
theorem pf_3_5 {G : List Nat} {c : Zc} {k : Nat} (W : Zwt zty G c) (h : G[k]? = some 3) {x : Int32} (hx : (rg 0 70) x) : ∃ c', zpv c k 2 5 (.int x) = some c' ∧ Zwt zty G c' ∧ Zfr G [(3, 5)] c c' ∧ zgi c' k 2 5 = some x := wt_pi W h rfl rfl hx
theorem gf_3_6 {G : List Nat} {c : Zc} {k : Nat} (W : Zwt zty G c) (h : G[k]? = some 3) : ∃ x, zgr c k 2 6 = some x ∧ G[x]? = some 30 := wt_gr1 W h rfl rfl
theorem pf_3_6 {G : List Nat} {c : Zc} {k : Nat} (W : Zwt zty G c) (h : G[k]? = some 3) {x T' : Nat} (hx : G[x]? = some T') (hS : T' ∈ [30]) : ∃ c', zpv c k 2 6 (.ref x) = some c' ∧ Zwt zty G c' ∧ Zfr G [(3, 6)] c c' ∧ zgr c' k 2 6 = some x := wt_pr W h rfl rfl hx hS
theorem gf_3_7 {G : List Nat} {c : Zc} {k : Nat} (W : Zwt zty G c) (h : G[k]? = some 3) : ∃ x, zgr c k 2 7 = some x ∧ G[x]? = some 31 := wt_gr1 W h rfl rfl
theorem pf_3_7 {G : List Nat} {c : Zc} {k : Nat} (W : Zwt zty G c) (h : G[k]? = some 3) {x T' : Nat} (hx : G[x]? = some T') (hS : T' ∈ [31]) : ∃ c', zpv c k 2 7 (.ref x) = some c' ∧ Zwt zty G c' ∧ Zfr G [(3, 7)] c c' ∧ zgr c' k 2 7 = some x := wt_pr W h rfl rfl hx hS
theorem gf_3_8 {G : List Nat} {c : Zc} {k : Nat} (W : Zwt zty G c) (h : G[k]? = some 3) : ∃ x, zgi c k 2 8 = some x ∧ (rg 0 70) x := wt_gi W h rfl rfl
theorem pf_3_8 {G : List Nat} {c : Zc} {k : Nat} (W : Zwt zty G c) (h : G[k]? = some 3) {x : Int32} (hx : (rg 0 70) x) : ∃ c', zpv c k 2 8 (.int x) = some c' ∧ Zwt zty G c' ∧ Zfr G [(3, 8)] c c' ∧ zgi c' k 2 8 = some x := wt_pi W h rfl rfl hx
theorem gf_3_9 {G : List Nat} {c : Zc} {k : Nat} (W : Zwt zty G c) (h : G[k]? = some 3) : ∃ x, zgr c k 2 9 = some x ∧ G[x]? = some 32 := wt_gr1 W h rfl rfl
theorem pf_3_9 {G : List Nat} {c : Zc} {k : Nat} (W : Zwt zty G c) (h : G[k]? = some 3) {x T' : Nat} (hx : G[x]? = some T') (hS : T' ∈ [32]) : ∃ c', zpv c k 2 9 (.ref x) = some c' ∧ Zwt zty G c' ∧ Zfr G [(3, 9)] c c' ∧ zgr c' k 2 9 = some x := wt_pr W h rfl rfl hx hS
theorem gf_3_10 {G : List Nat} {c : Zc} {k : Nat} (W : Zwt zty G c) (h : G[k]? = some 3) : ∃ x, zgr c k 2 10 = some x ∧ G[x]? = some 33 := wt_gr1 W h rfl rfl
theorem pf_3_10 {G : List Nat} {c : Zc} {k : Nat} (W : Zwt zty G c) (h : G[k]? = some 3) {x T' : Nat} (hx : G[x]? = some T') (hS : T' ∈ [33]) : ∃ c', zpv c k 2 10 (.ref x) = some c' ∧ Zwt zty G c' ∧ Zfr G [(3, 10)] c c' ∧ zgr c' k 2 10 = some x := wt_pr W h rfl rfl hx hS
theorem gf_3_11 {G : List Nat} {c : Zc} {k : Nat} (W : Zwt zty G c) (h : G[k]? = some 3) : ∃ x, zgr c k 2 11 = some x ∧ G[x]? = some 34 := wt_gr1 W h rfl rfl
theorem pf_3_11 {G : List Nat} {c : Zc} {k : Nat} (W : Zwt zty G c) (h : G[k]? = some 3) {x T' : Nat} (hx : G[x]? = some T') (hS : T' ∈ [34]) : ∃ c', zpv c k 2 11 (.ref x) = some c' ∧ Zwt zty G c' ∧ Zfr G [(3, 11)] c c' ∧ zgr c' k 2 11 = some x := wt_pr W h rfl rfl hx hS
theorem gf_3_12 {G : List Nat} {c : Zc} {k : Nat} (W : Zwt zty G c) (h : G[k]? = some 3) : ∃ x, zgi c k 2 12 = some x ∧ (rg 0 202) x := wt_gi W h rfl rfl
theorem pf_3_12 {G : List Nat} {c : Zc} {k : Nat} (W : Zwt zty G c) (h : G[k]? = some 3) {x : Int32} (hx : (rg 0 202) x) : ∃ c', zpv c k 2 12 (.int x) = some c' ∧ Zwt zty G c' ∧ Zfr G [(3, 12)] c c' ∧ zgi c' k 2 12 = some x := wt_pi W h rfl rfl hx
theorem gf_3_13 {G : List Nat} {c : Zc} {k : Nat} (W : Zwt zty G c) (h : G[k]? = some 3) : ∃ x, zgr c k 2 13 = some x ∧ G[x]? = some 35 := wt_gr1 W h rfl rfl
theorem pf_3_13 {G : List Nat} {c : Zc} {k : Nat} (W : Zwt zty G c) (h : G[k]? = some 3) {x T' : Nat} (hx : G[x]? = some T') (hS : T' ∈ [35]) : ∃ c', zpv c k 2 13 (.ref x) = some c' ∧ Zwt zty G c' ∧ Zfr G [(3, 13)] c c' ∧ zgr c' k 2 13 = some x := wt_pr W h rfl rfl hx hS
theorem gf_3_14 {G : List Nat} {c : Zc} {k : Nat} (W : Zwt zty G c) (h : G[k]? = some 3) : ∃ x, zgi c k 2 14 = some x ∧ (rg 0 202) x := wt_gi W h rfl rfl
theorem pf_3_14 {G : List Nat} {c : Zc} {k : Nat} (W : Zwt zty G c) (h : G[k]? = some 3) {x : Int32} (hx : (rg 0 202) x) : ∃ c', zpv c k 2 14 (.int x) = some c' ∧ Zwt zty G c' ∧ Zfr G [(3, 14)] c c' ∧ zgi c' k 2 14 = some x := wt_pi W h rfl rfl hx
theorem gf_3_15 {G : List Nat} {c : Zc} {k : Nat} (W : Zwt zty G c) (h : G[k]? = some 3) : ∃ x, zgi c k 2 15 = some x ∧ (rg 0 8) x := wt_gi W h rfl rfl
theorem pf_3_15 {G : List Nat} {c : Zc} {k : Nat} (W : Zwt zty G c) (h : G[k]? = some 3) {x : Int32} (hx : (rg 0 8) x) : ∃ c', zpv c k 2 15 (.int x) = some c' ∧ Zwt zty G c' ∧ Zfr G [(3, 15)] c c' ∧ zgi c' k 2 15 = some x := wt_pi W h rfl rfl hx
theorem gf_3_16 {G : List Nat} {c : Zc} {k : Nat} (W : Zwt zty G c) (h : G[k]? = some 3) : ∃ x, zgr c k 2 16 = some x ∧ G[x]? = some 36 := wt_gr1 W h rfl rfl
theorem pf_3_16 {G : List Nat} {c : Zc} {k : Nat} (W : Zwt zty G c) (h : G[k]? = some 3) {x T' : Nat} (hx : G[x]? = some T') (hS : T' ∈ [36]) : ∃ c', zpv c k 2 16 (.ref x) = some c' ∧ Zwt zty G c' ∧ Zfr G [(3, 16)] c c' ∧ zgr c' k 2 16 = some x := wt_pr W h rfl rfl hx hS
theorem gf_3_17 {G : List Nat} {c : Zc} {k : Nat} (W : Zwt zty G c) (h : G[k]? = some 3) : ∃ x, zgr c k 2 17 = some x ∧ G[x]? = some 37 := wt_gr1 W h rfl rfl
theorem pf_3_17 {G : List Nat} {c : Zc} {k : Nat} (W : Zwt zty G c) (h : G[k]? = some 3) {x T' : Nat} (hx : G[x]? = some T') (hS : T' ∈ [37]) : ∃ c', zpv c k 2 17 (.ref x) = some c' ∧ Zwt zty G c' ∧ Zfr G [(3, 17)] c c' ∧ zgr c' k 2 17 = some x := wt_pr W h rfl rfl hx hS
theorem gf_3_18 {G : List Nat} {c : Zc} {k : Nat} (W : Zwt zty G c) (h : G[k]? = some 3) : ∃ x, zgi c k 2 18 = some x ∧ (rg 0 20000) x := wt_gi W h rfl rfl
theorem pf_3_18 {G : List Nat} {c : Zc} {k : Nat} (W : Zwt zty G c) (h : G[k]? = some 3) {x : Int32} (hx : (rg 0 20000) x) : ∃ c', zpv c k 2 18 (.int x) = some c' ∧ Zwt zty G c' ∧ Zfr G [(3, 18)] c c' ∧ zgi c' k 2 18 = some x := wt_pi W h rfl rfl hx
theorem gf_3_19 {G : List Nat} {c : Zc} {k : Nat} (W : Zwt zty G c) (h : G[k]? = some 3) : ∃ x, zgi c k 2 19 = some x ∧ (rg 0 7) x := wt_gi W h rfl rfl
theorem pf_3_19 {G : List Nat} {c : Zc} {k : Nat} (W : Zwt zty G c) (h : G[k]? = some 3) {x : Int32} (hx : (rg 0 7) x) : ∃ c', zpv c k 2 19 (.int x) = some c' ∧ Zwt zty G c' ∧ Zfr G [(3, 19)] c c' ∧ zgi c' k 2 19 = some x := wt_pi W h rfl rfl hx
theorem gf_3_20 {G : List Nat} {c : Zc} {k : Nat} (W : Zwt zty G c) (h : G[k]? = some 3) : ∃ x, zgi c k 2 20 = some x ∧ (rg 0 7) x := wt_gi W h rfl rfl
theorem pf_3_20 {G : List Nat} {c : Zc} {k : Nat} (W : Zwt zty G c) (h : G[k]? = some 3) {x : Int32} (hx : (rg 0 7) x) : ∃ c', zpv c k 2 20 (.int x) = some c' ∧ Zwt zty G c' ∧ Zfr G [(3, 20)] c c' ∧ zgi c' k 2 20 = some x := wt_pi W h rfl rfl hx
theorem go_4 {G : List Nat} {c : Zc} {k : Nat} (W : Zwt zty G c) (h : G[k]? = some 4) : ∃ vs, zob c k 3 = some vs := wt_ob W h rfl
theorem gf_4_0 {G : List Nat} {c : Zc} {k : Nat} (W : Zwt zty G c) (h : G[k]? = some 4) : ∃ x, zgr c k 3 0 = some x ∧ G[x]? = some 38 := wt_gr1 W h rfl rfl
theorem pf_4_0 {G : List Nat} {c : Zc} {k : Nat} (W : Zwt zty G c) (h : G[k]? = some 4) {x T' : Nat} (hx : G[x]? = some T') (hS : T' ∈ [38]) : ∃ c', zpv c k 3 0 (.ref x) = some c' ∧ Zwt zty G c' ∧ Zfr G [(4, 0)] c c' ∧ zgr c' k 3 0 = some x := wt_pr W h rfl rfl hx hS
theorem gf_4_1 {G : List Nat} {c : Zc} {k : Nat} (W : Zwt zty G c) (h : G[k]? = some 4) : ∃ x, zgr c k 3 1 = some x ∧ G[x]? = some 39 := wt_gr1 W h rfl rfl
theorem pf_4_1 {G : List Nat} {c : Zc} {k : Nat} (W : Zwt zty G c) (h : G[k]? = some 4) {x T' : Nat} (hx : G[x]? = some T') (hS : T' ∈ [39]) : ∃ c', zpv c k 3 1 (.ref x) = some c' ∧ Zwt zty G c' ∧ Zfr G [(4, 1)] c c' ∧ zgr c' k 3 1 = some x := wt_pr W h rfl rfl hx hS
theorem gf_4_2 {G : List Nat} {c : Zc} {k : Nat} (W : Zwt zty G c) (h : G[k]? = some 4) : ∃ x, zgr c k 3 2 = some x ∧ G[x]? = some 40 := wt_gr1 W h rfl rfl
theorem pf_4_2 {G : List Nat} {c : Zc} {k : Nat} (W : Zwt zty G c) (h : G[k]? = some 4) {x T' : Nat} (hx : G[x]? = some T') (hS : T' ∈ [40]) : ∃ c', zpv c k 3 2 (.ref x) = some c' ∧ Zwt zty G c' ∧ Zfr G [(4, 2)] c c' ∧ zgr c' k 3 2 = some x := wt_pr W h rfl rfl hx hS
theorem gf_4_3 {G : List Nat} {c : Zc} {k : Nat} (W : Zwt zty G c) (h : G[k]? = some 4) : ∃ x, zgi c k 3 3 = some x ∧ (rg 0 201) x := wt_gi W h rfl rfl
theorem pf_4_3 {G : List Nat} {c : Zc} {k : Nat} (W : Zwt zty G c) (h : G[k]? = some 4) {x : Int32} (hx : (rg 0 201) x) : ∃ c', zpv c k 3 3 (.int x) = some c' ∧ Zwt zty G c' ∧ Zfr G [(4, 3)] c c' ∧ zgi c' k 3 3 = some x := wt_pi W h rfl rfl hx
theorem pf_4_4 {G : List Nat} {c : Zc} {k : Nat} (W : Zwt zty G c) (h : G[k]? = some 4) {x T' : Nat} (hx : G[x]? = some T') (hS : T' ∈ [41, 42]) : ∃ c', zpv c k 3 4 (.ref x) = some c' ∧ Zwt zty G c' ∧ Zfr G [(4, 4)] c c' ∧ zgr c' k 3 4 = some x := wt_pr W h rfl rfl hx hS
theorem gf_4_5 {G : List Nat} {c : Zc} {k : Nat} (W : Zwt zty G c) (h : G[k]? = some 4) : ∃ x, zgi c k 3 5 = some x ∧ (rg 0 1500) x := wt_gi W h rfl rfl
theorem pf_4_5 {G : List Nat} {c : Zc} {k : Nat} (W : Zwt zty G c) (h : G[k]? = some 4) {x : Int32} (hx : (rg 0 1500) x) : ∃ c', zpv c k 3 5 (.int x) = some c' ∧ Zwt zty G c' ∧ Zfr G [(4, 5)] c c' ∧ zgi c' k 3 5 = some x := wt_pi W h rfl rfl hx
theorem go_5 {G : List Nat} {c : Zc} {k : Nat} (W : Zwt zty G c) (h : G[k]? = some 5) : ∃ vs, zob c k 4 = some vs := wt_ob W h rfl
theorem gf_5_0 {G : List Nat} {c : Zc} {k : Nat} (W : Zwt zty G c) (h : G[k]? = some 5) : ∃ x, zgi c k 4 0 = some x ∧ an x := wt_gi W h rfl rfl
theorem pf_5_0 {G : List Nat} {c : Zc} {k : Nat} (W : Zwt zty G c) (h : G[k]? = some 5) {x : Int32} (hx : an x) : ∃ c', zpv c k 4 0 (.int x) = some c' ∧ Zwt zty G c' ∧ Zfr G [(5, 0)] c c' ∧ zgi c' k 4 0 = some x := wt_pi W h rfl rfl hx
theorem gf_5_1 {G : List Nat} {c : Zc} {k : Nat} (W : Zwt zty G c) (h : G[k]? = some 5) : ∃ x, zgi c k 4 1 = some x ∧ an x := wt_gi W h rfl rfl
theorem pf_5_1 {G : List Nat} {c : Zc} {k : Nat} (W : Zwt zty G c) (h : G[k]? = some 5) {x : Int32} (hx : an x) : ∃ c', zpv c k 4 1 (.int x) = some c' ∧ Zwt zty G c' ∧ Zfr G [(5, 1)] c c' ∧ zgi c' k 4 1 = some x := wt_pi W h rfl rfl hx
theorem gf_5_2 {G : List Nat} {c : Zc} {k : Nat} (W : Zwt zty G c) (h : G[k]? = some 5) : ∃ x, zgi c k 4 2 = some x ∧ an x := wt_gi W h rfl rfl
theorem pf_5_2 {G : List Nat} {c : Zc} {k : Nat} (W : Zwt zty G c) (h : G[k]? = some 5) {x : Int32} (hx : an x) : ∃ c', zpv c k 4 2 (.int x) = some c' ∧ Zwt zty G c' ∧ Zfr G [(5, 2)] c c' ∧ zgi c' k 4 2 = some x := wt_pi W h rfl rfl hx
theorem gf_5_3 {G : List Nat} {c : Zc} {k : Nat} (W : Zwt zty G c) (h : G[k]? = some 5) : ∃ x, zgr c k 4 3 = some x ∧ G[x]? = some 3 := wt_gr1 W h rfl rfl
theorem pf_5_3 {G : List Nat} {c : Zc} {k : Nat} (W : Zwt zty G c) (h : G[k]? = some 5) {x T' : Nat} (hx : G[x]? = some T') (hS : T' ∈ [3]) : ∃ c', zpv c k 4 3 (.ref x) = some c' ∧ Zwt zty G c' ∧ Zfr G [(5, 3)] c c' ∧ zgr c' k 4 3 = some x := wt_pr W h rfl rfl hx hS
theorem gf_5_4 {G : List Nat} {c : Zc} {k : Nat} (W : Zwt zty G c) (h : G[k]? = some 5) : ∃ x, zgi c k 4 4 = some x ∧ (rg 0 80) x := wt_gi W h rfl rfl
theorem pf_5_4 {G : List Nat} {c : Zc} {k : Nat} (W : Zwt zty G c) (h : G[k]? = some 5) {x : Int32} (hx : (rg 0 80) x) : ∃ c', zpv c k 4 4 (.int x) = some c' ∧ Zwt zty G c' ∧ Zfr G [(5, 4)] c c' ∧ zgi c' k 4 4 = some x := wt_pi W h rfl rfl hx
theorem gf_5_5 {G : List Nat} {c : Zc} {k : Nat} (W : Zwt zty G c) (h : G[k]? = some 5) : ∃ x, zgr c k 4 5 = some x ∧ G[x]? = some 43 := wt_gr1 W h rfl rfl
theorem pf_5_5 {G : List Nat} {c : Zc} {k : Nat} (W : Zwt zty G c) (h : G[k]? = some 5) {x T' : Nat} (hx : G[x]? = some T') (hS : T' ∈ [43]) : ∃ c', zpv c k 4 5 (.ref x) = some c' ∧ Zwt zty G c' ∧ Zfr G [(5, 5)] c c' ∧ zgr c' k 4 5 = some x := wt_pr W h rfl rfl hx hS
theorem gf_5_6 {G : List Nat} {c : Zc} {k : Nat} (W : Zwt zty G c) (h : G[k]? = some 5) : ∃ x, zgr c k 4 6 = some x ∧ G[x]? = some 44 := wt_gr1 W h rfl rfl
theorem pf_5_6 {G : List Nat} {c : Zc} {k : Nat} (W : Zwt zty G c) (h : G[k]? = some 5) {x T' : Nat} (hx : G[x]? = some T') (hS : T' ∈ [44]) : ∃ c', zpv c k 4 6 (.ref x) = some c' ∧ Zwt zty G c' ∧ Zfr G [(5, 6)] c c' ∧ zgr c' k 4 6 = some x := wt_pr W h rfl rfl hx hS
theorem gf_5_7 {G : List Nat} {c : Zc} {k : Nat} (W : Zwt zty G c) (h : G[k]? = some 5) : ∃ x, zgr c k 4 7 = some x ∧ G[x]? = some 45 := wt_gr1 W h rfl rfl
theorem pf_5_7 {G : List Nat} {c : Zc} {k : Nat} (W : Zwt zty G c) (h : G[k]? = some 5) {x T' : Nat} (hx : G[x]? = some T') (hS : T' ∈ [45]) : ∃ c', zpv c k 4 7 (.ref x) = some c' ∧ Zwt zty G c' ∧ Zfr G [(5, 7)] c c' ∧ zgr c' k 4 7 = some x := wt_pr W h rfl rfl hx hS
theorem go_6 {G : List Nat} {c : Zc} {k : Nat} (W : Zwt zty G c) (h : G[k]? = some 6) : ∃ vs, zob c k 5 = some vs := wt_ob W h rfl
theorem gf_6_0 {G : List Nat} {c : Zc} {k : Nat} (W : Zwt zty G c) (h : G[k]? = some 6) : ∃ x, zgi c k 5 0 = some x ∧ an x := wt_gi W h rfl rfl
theorem pf_6_0 {G : List Nat} {c : Zc} {k : Nat} (W : Zwt zty G c) (h : G[k]? = some 6) {x : Int32} (hx : an x) : ∃ c', zpv c k 5 0 (.int x) = some c' ∧ Zwt zty G c' ∧ Zfr G [(6, 0)] c c' ∧ zgi c' k 5 0 = some x := wt_pi W h rfl rfl hx
theorem gf_6_1 {G : List Nat} {c : Zc} {k : Nat} (W : Zwt zty G c) (h : G[k]? = some 6) : ∃ x, zgr c k 5 1 = some x ∧ G[x]? = some 4 := wt_gr1 W h rfl rfl
theorem pf_6_1 {G : List Nat} {c : Zc} {k : Nat} (W : Zwt zty G c) (h : G[k]? = some 6) {x T' : Nat} (hx : G[x]? = some T') (hS : T' ∈ [4]) : ∃ c', zpv c k 5 1 (.ref x) = some c' ∧ Zwt zty G c' ∧ Zfr G [(6, 1)] c c' ∧ zgr c' k 5 1 = some x := wt_pr W h rfl rfl hx hS
theorem gf_6_2 {G : List Nat} {c : Zc} {k : Nat} (W : Zwt zty G c) (h : G[k]? = some 6) : ∃ x, zgr c k 5 2 = some x ∧ G[x]? = some 5 := wt_gr1 W h rfl rfl
theorem pf_6_2 {G : List Nat} {c : Zc} {k : Nat} (W : Zwt zty G c) (h : G[k]? = some 6) {x T' : Nat} (hx : G[x]? = some T') (hS : T' ∈ [5]) : ∃ c', zpv c k 5 2 (.ref x) = some c' ∧ Zwt zty G c' ∧ Zfr G [(6, 2)] c c' ∧ zgr c' k 5 2 = some x := wt_pr W h rfl rfl hx hS
theorem gf_6_3 {G : List Nat} {c : Zc} {k : Nat} (W : Zwt zty G c) (h : G[k]? = some 6) : ∃ x, zgr c k 5 3 = some x ∧ G[x]? = some 46 := wt_gr1 W h rfl rfl
theorem pf_6_3 {G : List Nat} {c : Zc} {k : Nat} (W : Zwt zty G c) (h : G[k]? = some 6) {x T' : Nat} (hx : G[x]? = some T') (hS : T' ∈ [46]) : ∃ c', zpv c k 5 3 (.ref x) = some c' ∧ Zwt zty G c' ∧ Zfr G [(6, 3)] c c' ∧ zgr c' k 5 3 = some x := wt_pr W h rfl rfl hx hS
theorem gf_6_4 {G : List Nat} {c : Zc} {k : Nat} (W : Zwt zty G c) (h : G[k]? = some 6) : ∃ x, zgr c k 5 4 = some x ∧ G[x]? = some 3 := wt_gr1 W h rfl rfl
theorem pf_6_4 {G : List Nat} {c : Zc} {k : Nat} (W : Zwt zty G c) (h : G[k]? = some 6) {x T' : Nat} (hx : G[x]? = some T') (hS : T' ∈ [3]) : ∃ c', zpv c k 5 4 (.ref x) = some c' ∧ Zwt zty G c' ∧ Zfr G [(6, 4)] c c' ∧ zgr c' k 5 4 = some x := wt_pr W h rfl rfl hx hS
theorem gf_6_5 {G : List Nat} {c : Zc} {k : Nat} (W : Zwt zty G c) (h : G[k]? = some 6) : ∃ x, zgr c k 5 5 = some x ∧ G[x]? = some 2 := wt_gr1 W h rfl rfl
theorem pf_6_5 {G : List Nat} {c : Zc} {k : Nat} (W : Zwt zty G c) (h : G[k]? = some 6) {x T' : Nat} (hx : G[x]? = some T') (hS : T' ∈ [2]) : ∃ c', zpv c k 5 5 (.ref x) = some c' ∧ Zwt zty G c' ∧ Zfr G [(6, 5)] c c' ∧ zgr c' k 5 5 = some x := wt_pr W h rfl rfl hx hS
theorem gf_6_6 {G : List Nat} {c : Zc} {k : Nat} (W : Zwt zty G c) (h : G[k]? = some 6) : ∃ x, zgi c k 5 6 = some x ∧ (rg 0 1) x := wt_gi W h rfl rfl
theorem pf_6_6 {G : List Nat} {c : Zc} {k : Nat} (W : Zwt zty G c) (h : G[k]? = some 6) {x : Int32} (hx : (rg 0 1) x) : ∃ c', zpv c k 5 6 (.int x) = some c' ∧ Zwt zty G c' ∧ Zfr G [(6, 6)] c c' ∧ zgi c' k 5 6 = some x := wt_pi W h rfl rfl hx
theorem pz_6_6 {G : List Nat} {c : Zc} {k : Nat} (W : Zwt zty G c) (h : G[k]? = some 6) {x : Int32} (hx : rg 0 1 x) : ∃ c', zpz c k 5 6 x = some c' ∧ Zwt zty G c' ∧ Zfr G [(6, 6)] c c' ∧ zgi c' k 5 6 = some x := wt_pz W h rfl rfl hx
theorem gf_6_7 {G : List Nat} {c : Zc} {k : Nat} (W : Zwt zty G c) (h : G[k]? = some 6) : ∃ x, zgi c k 5 7 = some x ∧ (rg 0 201) x := wt_gi W h rfl rfl
theorem pf_6_7 {G : List Nat} {c : Zc} {k : Nat} (W : Zwt zty G c) (h : G[k]? = some 6) {x : Int32} (hx : (rg 0 201) x) : ∃ c', zpv c k 5 7 (.int x) = some c' ∧ Zwt zty G c' ∧ Zfr G [(6, 7)] c c' ∧ zgi c' k 5 7 = some x := wt_pi W h rfl rfl hx
theorem gf_6_8 {G : List Nat} {c : Zc} {k : Nat} (W : Zwt zty G c) (h : G[k]? = some 6) : ∃ x, zgi c k 5 8 = some x ∧ an x := wt_gi W h rfl rfl
theorem pf_6_8 {G : List Nat} {c : Zc} {k : Nat} (W : Zwt zty G c) (h : G[k]? = some 6) {x : Int32} (hx : an x) : ∃ c', zpv c k 5 8 (.int x) = some c' ∧ Zwt zty G c' ∧ Zfr G [(6, 8)] c c' ∧ zgi c' k 5 8 = some x := wt_pi W h rfl rfl hx
theorem gf_6_9 {G : List Nat} {c : Zc} {k : Nat} (W : Zwt zty G c) (h : G[k]? = some 6) : ∃ x, zgi c k 5 9 = some x ∧ an x := wt_gi W h rfl rfl
theorem pf_6_9 {G : List Nat} {c : Zc} {k : Nat} (W : Zwt zty G c) (h : G[k]? = some 6) {x : Int32} (hx : an x) : ∃ c', zpv c k 5 9 (.int x) = some c' ∧ Zwt zty G c' ∧ Zfr G [(6, 9)] c c' ∧ zgi c' k 5 9 = some x := wt_pi W h rfl rfl hx
theorem gf_6_10 {G : List Nat} {c : Zc} {k : Nat} (W : Zwt zty G c) (h : G[k]? = some 6) : ∃ x, zgi c k 5 10 = some x ∧ (rg 0 8) x := wt_gi W h rfl rfl
theorem pf_6_10 {G : List Nat} {c : Zc} {k : Nat} (W : Zwt zty G c) (h : G[k]? = some 6) {x : Int32} (hx : (rg 0 8) x) : ∃ c', zpv c k 5 10 (.int x) = some c' ∧ Zwt zty G c' ∧ Zfr G [(6, 10)] c c' ∧ zgi c' k 5 10 = some x := wt_pi W h rfl rfl hx
theorem gf_6_11 {G : List Nat} {c : Zc} {k : Nat} (W : Zwt zty G c) (h : G[k]? = some 6) : ∃ x, zgi c k 5 11 = some x ∧ an x := wt_gi W h rfl rfl
theorem pf_6_11 {G : List Nat} {c : Zc} {k : Nat} (W : Zwt zty G c) (h : G[k]? = some 6) {x : Int32} (hx : an x) : ∃ c', zpv c k 5 11 (.int x) = some c' ∧ Zwt zty G c' ∧ Zfr G [(6, 11)] c c' ∧ zgi c' k 5 11 = some x := wt_pi W h rfl rfl hx
theorem gf_6_12 {G : List Nat} {c : Zc} {k : Nat} (W : Zwt zty G c) (h : G[k]? = some 6) : ∃ x, zgi c k 5 12 = some x ∧ an x := wt_gi W h rfl rfl
theorem pf_6_12 {G : List Nat} {c : Zc} {k : Nat} (W : Zwt zty G c) (h : G[k]? = some 6) {x : Int32} (hx : an x) : ∃ c', zpv c k 5 12 (.int x) = some c' ∧ Zwt zty G c' ∧ Zfr G [(6, 12)] c c' ∧ zgi c' k 5 12 = some x := wt_pi W h rfl rfl hx
theorem gf_6_13 {G : List Nat} {c : Zc} {k : Nat} (W : Zwt zty G c) (h : G[k]? = some 6) : ∃ x, zgi c k 5 13 = some x ∧ an x := wt_gi W h rfl rfl
theorem pf_6_13 {G : List Nat} {c : Zc} {k : Nat} (W : Zwt zty G c) (h : G[k]? = some 6) {x : Int32} (hx : an x) : ∃ c', zpv c k 5 13 (.int x) = some c' ∧ Zwt zty G c' ∧ Zfr G [(6, 13)] c c' ∧ zgi c' k 5 13 = some x := wt_pi W h rfl rfl hx
theorem gf_6_14 {G : List Nat} {c : Zc} {k : Nat} (W : Zwt zty G c) (h : G[k]? = some 6) : ∃ x, zgi c k 5 14 = some x ∧ (rg 0 201) x := wt_gi W h rfl rfl
theorem pf_6_14 {G : List Nat} {c : Zc} {k : Nat} (W : Zwt zty G c) (h : G[k]? = some 6) {x : Int32} (hx : (rg 0 201) x) : ∃ c', zpv c k 5 14 (.int x) = some c' ∧ Zwt zty G c' ∧ Zfr G [(6, 14)] c c' ∧ zgi c' k 5 14 = some x := wt_pi W h rfl rfl hx
theorem gf_6_15 {G : List Nat} {c : Zc} {k : Nat} (W : Zwt zty G c) (h : G[k]? = some 6) : ∃ x, zgi c k 5 15 = some x ∧ (rg (-1) 7) x := wt_gi W h rfl rfl
theorem pf_6_15 {G : List Nat} {c : Zc} {k : Nat} (W : Zwt zty G c) (h : G[k]? = some 6) {x : Int32} (hx : (rg (-1) 7) x) : ∃ c', zpv c k 5 15 (.int x) = some c' ∧ Zwt zty G c' ∧ Zfr G [(6, 15)] c c' ∧ zgi c' k 5 15 = some x := wt_pi W h rfl rfl hx
theorem gf_6_16 {G : List Nat} {c : Zc} {k : Nat} (W : Zwt zty G c) (h : G[k]? = some 6) : ∃ x, zgi c k 5 16 = some x ∧ (rg (-1) 7) x := wt_gi W h rfl rfl
theorem pf_6_16 {G : List Nat} {c : Zc} {k : Nat} (W : Zwt zty G c) (h : G[k]? = some 6) {x : Int32} (hx : (rg (-1) 7) x) : ∃ c', zpv c k 5 16 (.int x) = some c' ∧ Zwt zty G c' ∧ Zfr G [(6, 16)] c c' ∧ zgi c' k 5 16 = some x := wt_pi W h rfl rfl hx
theorem gf_6_17 {G : List Nat} {c : Zc} {k : Nat} (W : Zwt zty G c) (h : G[k]? = some 6) : ∃ x, zgi c k 5 17 = some x ∧ (rg 0 255) x := wt_gi W h rfl rfl
theorem pf_6_17 {G : List Nat} {c : Zc} {k : Nat} (W : Zwt zty G c) (h : G[k]? = some 6) {x : Int32} (hx : (rg 0 255) x) : ∃ c', zpv c k 5 17 (.int x) = some c' ∧ Zwt zty G c' ∧ Zfr G [(6, 17)] c c' ∧ zgi c' k 5 17 = some x := wt_pi W h rfl rfl hx
theorem gf_6_18 {G : List Nat} {c : Zc} {k : Nat} (W : Zwt zty G c) (h : G[k]? = some 6) : ∃ x, zgi c k 5 18 = some x ∧ an x := wt_gi W h rfl rfl
theorem pf_6_18 {G : List Nat} {c : Zc} {k : Nat} (W : Zwt zty G c) (h : G[k]? = some 6) {x : Int32} (hx : an x) : ∃ c', zpv c k 5 18 (.int x) = some c' ∧ Zwt zty G c' ∧ Zfr G [(6, 18)] c c' ∧ zgi c' k 5 18 = some x := wt_pi W h rfl rfl hx
theorem gf_6_19 {G : List Nat} {c : Zc} {k : Nat} (W : Zwt zty G c) (h : G[k]? = some 6) : ∃ x, zgi c k 5 19 = some x ∧ (rg 0 1) x := wt_gi W h rfl rfl
theorem pf_6_19 {G : List Nat} {c : Zc} {k : Nat} (W : Zwt zty G c) (h : G[k]? = some 6) {x : Int32} (hx : (rg 0 1) x) : ∃ c', zpv c k 5 19 (.int x) = some c' ∧ Zwt zty G c' ∧ Zfr G [(6, 19)] c c' ∧ zgi c' k 5 19 = some x := wt_pi W h rfl rfl hx
theorem pz_6_19 {G : List Nat} {c : Zc} {k : Nat} (W : Zwt zty G c) (h : G[k]? = some 6) {x : Int32} (hx : rg 0 1 x) : ∃ c', zpz c k 5 19 x = some c' ∧ Zwt zty G c' ∧ Zfr G [(6, 19)] c c' ∧ zgi c' k 5 19 = some x := wt_pz W h rfl rfl hx
theorem go_7 {G : List Nat} {c : Zc} {k : Nat} (W : Zwt zty G c) (h : G[k]? = some 7) : ∃ vs, zob c k 6 = some vs := wt_ob W h rfl
theorem gf_7_0 {G : List Nat} {c : Zc} {k : Nat} (W : Zwt zty G c) (h : G[k]? = some 7) : ∃ x, zgr c k 6 0 = some x ∧ G[x]? = some 1 := wt_gr1 W h rfl rfl
theorem pf_7_0 {G : List Nat} {c : Zc} {k : Nat} (W : Zwt zty G c) (h : G[k]? = some 7) {x T' : Nat} (hx : G[x]? = some T') (hS : T' ∈ [1]) : ∃ c', zpv c k 6 0 (.ref x) = some c' ∧ Zwt zty G c' ∧ Zfr G [(7, 0)] c c' ∧ zgr c' k 6 0 = some x := wt_pr W h rfl rfl hx hS
theorem gf_7_1 {G : List Nat} {c : Zc} {k : Nat} (W : Zwt zty G c) (h : G[k]? = some 7) : ∃ x, zgr c k 6 1 = some x ∧ G[x]? = some 47 := wt_gr1 W h rfl rfl
theorem pf_7_1 {G : List Nat} {c : Zc} {k : Nat} (W : Zwt zty G c) (h : G[k]? = some 7) {x T' : Nat} (hx : G[x]? = some T') (hS : T' ∈ [47]) : ∃ c', zpv c k 6 1 (.ref x) = some c' ∧ Zwt zty G c' ∧ Zfr G [(7, 1)] c c' ∧ zgr c' k 6 1 = some x := wt_pr W h rfl rfl hx hS
theorem gf_7_2 {G : List Nat} {c : Zc} {k : Nat} (W : Zwt zty G c) (h : G[k]? = some 7) : ∃ x, zgr c k 6 2 = some x ∧ G[x]? = some 48 := wt_gr1 W h rfl rfl
theorem pf_7_2 {G : List Nat} {c : Zc} {k : Nat} (W : Zwt zty G c) (h : G[k]? = some 7) {x T' : Nat} (hx : G[x]? = some T') (hS : T' ∈ [48]) : ∃ c', zpv c k 6 2 (.ref x) = some c' ∧ Zwt zty G c' ∧ Zfr G [(7, 2)] c c' ∧ zgr c' k 6 2 = some x := wt_pr W h rfl rfl hx hS
theorem gf_7_3 {G : List Nat} {c : Zc} {k : Nat} (W : Zwt zty G c) (h : G[k]? = some 7) : ∃ x, zgr c k 6 3 = some x ∧ G[x]? = some 49 := wt_gr1 W h rfl rfl
theorem pf_7_3 {G : List Nat} {c : Zc} {k : Nat} (W : Zwt zty G c) (h : G[k]? = some 7) {x T' : Nat} (hx : G[x]? = some T') (hS : T' ∈ [49]) : ∃ c', zpv c k 6 3 (.ref x) = some c' ∧ Zwt zty G c' ∧ Zfr G [(7, 3)] c c' ∧ zgr c' k 6 3 = some x := wt_pr W h rfl rfl hx hS
theorem gf_7_4 {G : List Nat} {c : Zc} {k : Nat} (W : Zwt zty G c) (h : G[k]? = some 7) : ∃ x, zgr c k 6 4 = some x ∧ G[x]? = some 50 := wt_gr1 W h rfl rfl
theorem pf_7_4 {G : List Nat} {c : Zc} {k : Nat} (W : Zwt zty G c) (h : G[k]? = some 7) {x T' : Nat} (hx : G[x]? = some T') (hS : T' ∈ [50]) : ∃ c', zpv c k 6 4 (.ref x) = some c' ∧ Zwt zty G c' ∧ Zfr G [(7, 4)] c c' ∧ zgr c' k 6 4 = some x := wt_pr W h rfl rfl hx hS
theorem gf_7_5 {G : List Nat} {c : Zc} {k : Nat} (W : Zwt zty G c) (h : G[k]? = some 7) : ∃ x, zgr c k 6 5 = some x ∧ G[x]? = some 3 := wt_gr1 W h rfl rfl
theorem pf_7_5 {G : List Nat} {c : Zc} {k : Nat} (W : Zwt zty G c) (h : G[k]? = some 7) {x T' : Nat} (hx : G[x]? = some T') (hS : T' ∈ [3]) : ∃ c', zpv c k 6 5 (.ref x) = some c' ∧ Zwt zty G c' ∧ Zfr G [(7, 5)] c c' ∧ zgr c' k 6 5 = some x := wt_pr W h rfl rfl hx hS
theorem gf_7_6 {G : List Nat} {c : Zc} {k : Nat} (W : Zwt zty G c) (h : G[k]? = some 7) : ∃ x, zgi c k 6 6 = some x ∧ (rg 0 10) x := wt_gi W h rfl rfl
theorem pf_7_6 {G : List Nat} {c : Zc} {k : Nat} (W : Zwt zty G c) (h : G[k]? = some 7) {x : Int32} (hx : (rg 0 10) x) : ∃ c', zpv c k 6 6 (.int x) = some c' ∧ Zwt zty G c' ∧ Zfr G [(7, 6)] c c' ∧ zgi c' k 6 6 = some x := wt_pi W h rfl rfl hx
theorem gf_7_7 {G : List Nat} {c : Zc} {k : Nat} (W : Zwt zty G c) (h : G[k]? = some 7) : ∃ x, zgi c k 6 7 = some x ∧ (rg 0 10) x := wt_gi W h rfl rfl
theorem pf_7_7 {G : List Nat} {c : Zc} {k : Nat} (W : Zwt zty G c) (h : G[k]? = some 7) {x : Int32} (hx : (rg 0 10) x) : ∃ c', zpv c k 6 7 (.int x) = some c' ∧ Zwt zty G c' ∧ Zfr G [(7, 7)] c c' ∧ zgi c' k 6 7 = some x := wt_pi W h rfl rfl hx
theorem gf_7_8 {G : List Nat} {c : Zc} {k : Nat} (W : Zwt zty G c) (h : G[k]? = some 7) : ∃ x, zgi c k 6 8 = some x ∧ (rg 0 70) x := wt_gi W h rfl rfl
theorem pf_7_8 {G : List Nat} {c : Zc} {k : Nat} (W : Zwt zty G c) (h : G[k]? = some 7) {x : Int32} (hx : (rg 0 70) x) : ∃ c', zpv c k 6 8 (.int x) = some c' ∧ Zwt zty G c' ∧ Zfr G [(7, 8)] c c' ∧ zgi c' k 6 8 = some x := wt_pi W h rfl rfl hx
theorem gf_7_9 {G : List Nat} {c : Zc} {k : Nat} (W : Zwt zty G c) (h : G[k]? = some 7) : ∃ x, zgi c k 6 9 = some x ∧ (rg 0 70) x := wt_gi W h rfl rfl
theorem pf_7_9 {G : List Nat} {c : Zc} {k : Nat} (W : Zwt zty G c) (h : G[k]? = some 7) {x : Int32} (hx : (rg 0 70) x) : ∃ c', zpv c k 6 9 (.int x) = some c' ∧ Zwt zty G c' ∧ Zfr G [(7, 9)] c c' ∧ zgi c' k 6 9 = some x := wt_pi W h rfl rfl hx
theorem gf_7_10 {G : List Nat} {c : Zc} {k : Nat} (W : Zwt zty G c) (h : G[k]? = some 7) : ∃ x, zgi c k 6 10 = some x ∧ (rg 0 8) x := wt_gi W h rfl rfl
theorem pf_7_10 {G : List Nat} {c : Zc} {k : Nat} (W : Zwt zty G c) (h : G[k]? = some 7) {x : Int32} (hx : (rg 0 8) x) : ∃ c', zpv c k 6 10 (.int x) = some c' ∧ Zwt zty G c' ∧ Zfr G [(7, 10)] c c' ∧ zgi c' k 6 10 = some x := wt_pi W h rfl rfl hx
theorem gf_7_11 {G : List Nat} {c : Zc} {k : Nat} (W : Zwt zty G c) (h : G[k]? = some 7) : ∃ x, zgi c k 6 11 = some x ∧ (rg (-1) 7) x := wt_gi W h rfl rfl
theorem pf_7_11 {G : List Nat} {c : Zc} {k : Nat} (W : Zwt zty G c) (h : G[k]? = some 7) {x : Int32} (hx : (rg (-1) 7) x) : ∃ c', zpv c k 6 11 (.int x) = some c' ∧ Zwt zty G c' ∧ Zfr G [(7, 11)] c c' ∧ zgi c' k 6 11 = some x := wt_pi W h rfl rfl hx
theorem go_8 {G : List Nat} {c : Zc} {k : Nat} (W : Zwt zty G c) (h : G[k]? = some 8) : ∃ vs, zob c k 7 = some vs := wt_ob W h rfl
theorem gf_8_0 {G : List Nat} {c : Zc} {k : Nat} (W : Zwt zty G c) (h : G[k]? = some 8) : ∃ x, zgr c k 7 0 = some x ∧ G[x]? = some 47 := wt_gr1 W h rfl rfl
theorem pf_8_0 {G : List Nat} {c : Zc} {k : Nat} (W : Zwt zty G c) (h : G[k]? = some 8) {x T' : Nat} (hx : G[x]? = some T') (hS : T' ∈ [47]) : ∃ c', zpv c k 7 0 (.ref x) = some c' ∧ Zwt zty G c' ∧ Zfr G [(8, 0)] c c' ∧ zgr c' k 7 0 = some x := wt_pr W h rfl rfl hx hS
theorem gf_8_1 {G : List Nat} {c : Zc} {k : Nat} (W : Zwt zty G c) (h : G[k]? = some 8) : ∃ x, zgr c k 7 1 = some x ∧ G[x]? = some 1 := wt_gr1 W h rfl rfl
theorem pf_8_1 {G : List Nat} {c : Zc} {k : Nat} (W : Zwt zty G c) (h : G[k]? = some 8) {x T' : Nat} (hx : G[x]? = some T') (hS : T' ∈ [1]) : ∃ c', zpv c k 7 1 (.ref x) = some c' ∧ Zwt zty G c' ∧ Zfr G [(8, 1)] c c' ∧ zgr c' k 7 1 = some x := wt_pr W h rfl rfl hx hS
theorem gf_8_2 {G : List Nat} {c : Zc} {k : Nat} (W : Zwt zty G c) (h : G[k]? = some 8) : ∃ x, zgr c k 7 2 = some x ∧ G[x]? = some 7 := wt_gr1 W h rfl rfl
theorem pf_8_2 {G : List Nat} {c : Zc} {k : Nat} (W : Zwt zty G c) (h : G[k]? = some 8) {x T' : Nat} (hx : G[x]? = some T') (hS : T' ∈ [7]) : ∃ c', zpv c k 7 2 (.ref x) = some c' ∧ Zwt zty G c' ∧ Zfr G [(8, 2)] c c' ∧ zgr c' k 7 2 = some x := wt_pr W h rfl rfl hx hS
theorem gf_8_3 {G : List Nat} {c : Zc} {k : Nat} (W : Zwt zty G c) (h : G[k]? = some 8) : ∃ x, zgr c k 7 3 = some x ∧ G[x]? = some 7 := wt_gr1 W h rfl rfl
theorem pf_8_3 {G : List Nat} {c : Zc} {k : Nat} (W : Zwt zty G c) (h : G[k]? = some 8) {x T' : Nat} (hx : G[x]? = some T') (hS : T' ∈ [7]) : ∃ c', zpv c k 7 3 (.ref x) = some c' ∧ Zwt zty G c' ∧ Zfr G [(8, 3)] c c' ∧ zgr c' k 7 3 = some x := wt_pr W h rfl rfl hx hS
theorem gf_8_4 {G : List Nat} {c : Zc} {k : Nat} (W : Zwt zty G c) (h : G[k]? = some 8) : ∃ x, zgr c k 7 4 = some x ∧ G[x]? = some 51 := wt_gr1 W h rfl rfl
theorem pf_8_4 {G : List Nat} {c : Zc} {k : Nat} (W : Zwt zty G c) (h : G[k]? = some 8) {x T' : Nat} (hx : G[x]? = some T') (hS : T' ∈ [51]) : ∃ c', zpv c k 7 4 (.ref x) = some c' ∧ Zwt zty G c' ∧ Zfr G [(8, 4)] c c' ∧ zgr c' k 7 4 = some x := wt_pr W h rfl rfl hx hS
theorem gf_8_5 {G : List Nat} {c : Zc} {k : Nat} (W : Zwt zty G c) (h : G[k]? = some 8) : ∃ x, zgr c k 7 5 = some x ∧ G[x]? = some 52 := wt_gr1 W h rfl rfl
theorem pf_8_5 {G : List Nat} {c : Zc} {k : Nat} (W : Zwt zty G c) (h : G[k]? = some 8) {x T' : Nat} (hx : G[x]? = some T') (hS : T' ∈ [52]) : ∃ c', zpv c k 7 5 (.ref x) = some c' ∧ Zwt zty G c' ∧ Zfr G [(8, 5)] c c' ∧ zgr c' k 7 5 = some x := wt_pr W h rfl rfl hx hS
theorem gf_8_6 {G : List Nat} {c : Zc} {k : Nat} (W : Zwt zty G c) (h : G[k]? = some 8) : ∃ x, zgr c k 7 6 = some x ∧ G[x]? = some 53 := wt_gr1 W h rfl rfl
theorem pf_8_6 {G : List Nat} {c : Zc} {k : Nat} (W : Zwt zty G c) (h : G[k]? = some 8) {x T' : Nat} (hx : G[x]? = some T') (hS : T' ∈ [53]) : ∃ c', zpv c k 7 6 (.ref x) = some c' ∧ Zwt zty G c' ∧ Zfr G [(8, 6)] c c' ∧ zgr c' k 7 6 = some x := wt_pr W h rfl rfl hx hS
theorem gf_8_7 {G : List Nat} {c : Zc} {k : Nat} (W : Zwt zty G c) (h : G[k]? = some 8) : ∃ x, zgr c k 7 7 = some x ∧ G[x]? = some 54 := wt_gr1 W h rfl rfl
theorem pf_8_7 {G : List Nat} {c : Zc} {k : Nat} (W : Zwt zty G c) (h : G[k]? = some 8) {x T' : Nat} (hx : G[x]? = some T') (hS : T' ∈ [54]) : ∃ c', zpv c k 7 7 (.ref x) = some c' ∧ Zwt zty G c' ∧ Zfr G [(8, 7)] c c' ∧ zgr c' k 7 7 = some x := wt_pr W h rfl rfl hx hS
theorem gf_8_8 {G : List Nat} {c : Zc} {k : Nat} (W : Zwt zty G c) (h : G[k]? = some 8) : ∃ x, zgr c k 7 8 = some x ∧ G[x]? = some 3 := wt_gr1 W h rfl rfl
theorem pf_8_8 {G : List Nat} {c : Zc} {k : Nat} (W : Zwt zty G c) (h : G[k]? = some 8) {x T' : Nat} (hx : G[x]? = some T') (hS : T' ∈ [3]) : ∃ c', zpv c k 7 8 (.ref x) = some c' ∧ Zwt zty G c' ∧ Zfr G [(8, 8)] c c' ∧ zgr c' k 7 8 = some x := wt_pr W h rfl rfl hx hS
theorem go_9 {G : List Nat} {c : Zc} {k : Nat} (W : Zwt zty G c) (h : G[k]? = some 9) : ∃ vs, zob c k 8 = some vs := wt_ob W h rfl
theorem gf_9_0 {G : List Nat} {c : Zc} {k : Nat} (W : Zwt zty G c) (h : G[k]? = some 9) : ∃ x, zgr c k 8 0 = some x ∧ G[x]? = some 55 := wt_gr1 W h rfl rfl
theorem pf_9_0 {G : List Nat} {c : Zc} {k : Nat} (W : Zwt zty G c) (h : G[k]? = some 9) {x T' : Nat} (hx : G[x]? = some T') (hS : T' ∈ [55]) : ∃ c', zpv c k 8 0 (.ref x) = some c' ∧ Zwt zty G c' ∧ Zfr G [(9, 0)] c c' ∧ zgr c' k 8 0 = some x := wt_pr W h rfl rfl hx hS
theorem gf_9_1 {G : List Nat} {c : Zc} {k : Nat} (W : Zwt zty G c) (h : G[k]? = some 9) : ∃ x, zgr c k 8 1 = some x ∧ G[x]? = some 1 := wt_gr1 W h rfl rfl
theorem pf_9_1 {G : List Nat} {c : Zc} {k : Nat} (W : Zwt zty G c) (h : G[k]? = some 9) {x T' : Nat} (hx : G[x]? = some T') (hS : T' ∈ [1]) : ∃ c', zpv c k 8 1 (.ref x) = some c' ∧ Zwt zty G c' ∧ Zfr G [(9, 1)] c c' ∧ zgr c' k 8 1 = some x := wt_pr W h rfl rfl hx hS
theorem gf_9_2 {G : List Nat} {c : Zc} {k : Nat} (W : Zwt zty G c) (h : G[k]? = some 9) : ∃ x, zgr c k 8 2 = some x ∧ G[x]? = some 8 := wt_gr1 W h rfl rfl
theorem pf_9_2 {G : List Nat} {c : Zc} {k : Nat} (W : Zwt zty G c) (h : G[k]? = some 9) {x T' : Nat} (hx : G[x]? = some T') (hS : T' ∈ [8]) : ∃ c', zpv c k 8 2 (.ref x) = some c' ∧ Zwt zty G c' ∧ Zfr G [(9, 2)] c c' ∧ zgr c' k 8 2 = some x := wt_pr W h rfl rfl hx hS
theorem gf_9_3 {G : List Nat} {c : Zc} {k : Nat} (W : Zwt zty G c) (h : G[k]? = some 9) : ∃ x, zgr c k 8 3 = some x ∧ G[x]? = some 56 := wt_gr1 W h rfl rfl
theorem pf_9_3 {G : List Nat} {c : Zc} {k : Nat} (W : Zwt zty G c) (h : G[k]? = some 9) {x T' : Nat} (hx : G[x]? = some T') (hS : T' ∈ [56]) : ∃ c', zpv c k 8 3 (.ref x) = some c' ∧ Zwt zty G c' ∧ Zfr G [(9, 3)] c c' ∧ zgr c' k 8 3 = some x := wt_pr W h rfl rfl hx hS
theorem gf_9_4 {G : List Nat} {c : Zc} {k : Nat} (W : Zwt zty G c) (h : G[k]? = some 9) : ∃ x, zgi c k 8 4 = some x ∧ an x := wt_gi W h rfl rfl
theorem pf_9_4 {G : List Nat} {c : Zc} {k : Nat} (W : Zwt zty G c) (h : G[k]? = some 9) {x : Int32} (hx : an x) : ∃ c', zpv c k 8 4 (.int x) = some c' ∧ Zwt zty G c' ∧ Zfr G [(9, 4)] c c' ∧ zgi c' k 8 4 = some x := wt_pi W h rfl rfl hx
theorem gf_9_5 {G : List Nat} {c : Zc} {k : Nat} (W : Zwt zty G c) (h : G[k]? = some 9) : ∃ x, zgi c k 8 5 = some x ∧ (rg 0 1) x := wt_gi W h rfl rfl
theorem pf_9_5 {G : List Nat} {c : Zc} {k : Nat} (W : Zwt zty G c) (h : G[k]? = some 9) {x : Int32} (hx : (rg 0 1) x) : ∃ c', zpv c k 8 5 (.int x) = some c' ∧ Zwt zty G c' ∧ Zfr G [(9, 5)] c c' ∧ zgi c' k 8 5 = some x := wt_pi W h rfl rfl hx
theorem pz_9_5 {G : List Nat} {c : Zc} {k : Nat} (W : Zwt zty G c) (h : G[k]? = some 9) {x : Int32} (hx : rg 0 1 x) : ∃ c', zpz c k 8 5 x = some c' ∧ Zwt zty G c' ∧ Zfr G [(9, 5)] c c' ∧ zgi c' k 8 5 = some x := wt_pz W h rfl rfl hx
theorem go_10 {G : List Nat} {c : Zc} {k : Nat} (W : Zwt zty G c) (h : G[k]? = some 10) : ∃ vs, zob c k 9 = some vs := wt_ob W h rfl
theorem gf_10_0 {G : List Nat} {c : Zc} {k : Nat} (W : Zwt zty G c) (h : G[k]? = some 10) : ∃ x, zgi c k 9 0 = some x ∧ (rg 0 20000) x := wt_gi W h rfl rfl
theorem pf_10_0 {G : List Nat} {c : Zc} {k : Nat} (W : Zwt zty G c) (h : G[k]? = some 10) {x : Int32} (hx : (rg 0 20000) x) : ∃ c', zpv c k 9 0 (.int x) = some c' ∧ Zwt zty G c' ∧ Zfr G [(10, 0)] c c' ∧ zgi c' k 9 0 = some x := wt_pi W h rfl rfl hx
theorem gf_10_1 {G : List Nat} {c : Zc} {k : Nat} (W : Zwt zty G c) (h : G[k]? = some 10) : ∃ x, zgi c k 9 1 = some x ∧ (rg 0 8) x := wt_gi W h rfl rfl
theorem pf_10_1 {G : List Nat} {c : Zc} {k : Nat} (W : Zwt zty G c) (h : G[k]? = some 10) {x : Int32} (hx : (rg 0 8) x) : ∃ c', zpv c k 9 1 (.int x) = some c' ∧ Zwt zty G c' ∧ Zfr G [(10, 1)] c c' ∧ zgi c' k 9 1 = some x := wt_pi W h rfl rfl hx
theorem gf_10_2 {G : List Nat} {c : Zc} {k : Nat} (W : Zwt zty G c) (h : G[k]? = some 10) : ∃ x, zgr c k 9 2 = some x ∧ G[x]? = some 57 := wt_gr1 W h rfl rfl
theorem pf_10_2 {G : List Nat} {c : Zc} {k : Nat} (W : Zwt zty G c) (h : G[k]? = some 10) {x T' : Nat} (hx : G[x]? = some T') (hS : T' ∈ [57]) : ∃ c', zpv c k 9 2 (.ref x) = some c' ∧ Zwt zty G c' ∧ Zfr G [(10, 2)] c c' ∧ zgr c' k 9 2 = some x := wt_pr W h rfl rfl hx hS
theorem gf_10_3 {G : List Nat} {c : Zc} {k : Nat} (W : Zwt zty G c) (h : G[k]? = some 10) : ∃ x, zgr c k 9 3 = some x ∧ G[x]? = some 58 := wt_gr1 W h rfl rfl
theorem pf_10_3 {G : List Nat} {c : Zc} {k : Nat} (W : Zwt zty G c) (h : G[k]? = some 10) {x T' : Nat} (hx : G[x]? = some T') (hS : T' ∈ [58]) : ∃ c', zpv c k 9 3 (.ref x) = some c' ∧ Zwt zty G c' ∧ Zfr G [(10, 3)] c c' ∧ zgr c' k 9 3 = some x := wt_pr W h rfl rfl hx hS
theorem gf_10_4 {G : List Nat} {c : Zc} {k : Nat} (W : Zwt zty G c) (h : G[k]? = some 10) : ∃ x, zgr c k 9 4 = some x ∧ G[x]? = some 58 := wt_gr1 W h rfl rfl
theorem pf_10_4 {G : List Nat} {c : Zc} {k : Nat} (W : Zwt zty G c) (h : G[k]? = some 10) {x T' : Nat} (hx : G[x]? = some T') (hS : T' ∈ [58]) : ∃ c', zpv c k 9 4 (.ref x) = some c' ∧ Zwt zty G c' ∧ Zfr G [(10, 4)] c c' ∧ zgr c' k 9 4 = some x := wt_pr W h rfl rfl hx hS
theorem go_11 {G : List Nat} {c : Zc} {k : Nat} (W : Zwt zty G c) (h : G[k]? = some 11) : ∃ vs, zob c k 9 = some vs := wt_ob W h rfl
theorem gf_11_0 {G : List Nat} {c : Zc} {k : Nat} (W : Zwt zty G c) (h : G[k]? = some 11) : ∃ x, zgi c k 9 0 = some x ∧ (rg 0 20000) x := wt_gi W h rfl rfl
theorem pf_11_0 {G : List Nat} {c : Zc} {k : Nat} (W : Zwt zty G c) (h : G[k]? = some 11) {x : Int32} (hx : (rg 0 20000) x) : ∃ c', zpv c k 9 0 (.int x) = some c' ∧ Zwt zty G c' ∧ Zfr G [(11, 0)] c c' ∧ zgi c' k 9 0 = some x := wt_pi W h rfl rfl hx
theorem gf_11_1 {G : List Nat} {c : Zc} {k : Nat} (W : Zwt zty G c) (h : G[k]? = some 11) : ∃ x, zgi c k 9 1 = some x ∧ (rg 0 8) x := wt_gi W h rfl rfl
theorem pf_11_1 {G : List Nat} {c : Zc} {k : Nat} (W : Zwt zty G c) (h : G[k]? = some 11) {x : Int32} (hx : (rg 0 8) x) : ∃ c', zpv c k 9 1 (.int x) = some c' ∧ Zwt zty G c' ∧ Zfr G [(11, 1)] c c' ∧ zgi c' k 9 1 = some x := wt_pi W h rfl rfl hx
theorem gf_11_2 {G : List Nat} {c : Zc} {k : Nat} (W : Zwt zty G c) (h : G[k]? = some 11) : ∃ x, zgr c k 9 2 = some x ∧ G[x]? = some 57 := wt_gr1 W h rfl rfl
theorem pf_11_2 {G : List Nat} {c : Zc} {k : Nat} (W : Zwt zty G c) (h : G[k]? = some 11) {x T' : Nat} (hx : G[x]? = some T') (hS : T' ∈ [57]) : ∃ c', zpv c k 9 2 (.ref x) = some c' ∧ Zwt zty G c' ∧ Zfr G [(11, 2)] c c' ∧ zgr c' k 9 2 = some x := wt_pr W h rfl rfl hx hS
theorem gf_11_3 {G : List Nat} {c : Zc} {k : Nat} (W : Zwt zty G c) (h : G[k]? = some 11) : ∃ x, zgr c k 9 3 = some x ∧ G[x]? = some 58 := wt_gr1 W h rfl rfl
theorem pf_11_3 {G : List Nat} {c : Zc} {k : Nat} (W : Zwt zty G c) (h : G[k]? = some 11) {x T' : Nat} (hx : G[x]? = some T') (hS : T' ∈ [58]) : ∃ c', zpv c k 9 3 (.ref x) = some c' ∧ Zwt zty G c' ∧ Zfr G [(11, 3)] c c' ∧ zgr c' k 9 3 = some x := wt_pr W h rfl rfl hx hS
theorem gf_11_4 {G : List Nat} {c : Zc} {k : Nat} (W : Zwt zty G c) (h : G[k]? = some 11) : ∃ x, zgr c k 9 4 = some x ∧ G[x]? = some 58 := wt_gr1 W h rfl rfl
theorem pf_11_4 {G : List Nat} {c : Zc} {k : Nat} (W : Zwt zty G c) (h : G[k]? = some 11) {x T' : Nat} (hx : G[x]? = some T') (hS : T' ∈ [58]) : ∃ c', zpv c k 9 4 (.ref x) = some c' ∧ Zwt zty G c' ∧ Zfr G [(11, 4)] c c' ∧ zgr c' k 9 4 = some x := wt_pr W h rfl rfl hx hS
theorem go_12 {G : List Nat} {c : Zc} {k : Nat} (W : Zwt zty G c) (h : G[k]? = some 12) : ∃ vs, zob c k 9 = some vs := wt_ob W h rfl
theorem gf_12_0 {G : List Nat} {c : Zc} {k : Nat} (W : Zwt zty G c) (h : G[k]? = some 12) : ∃ x, zgi c k 9 0 = some x ∧ (rg 0 20000) x := wt_gi W h rfl rfl
theorem pf_12_0 {G : List Nat} {c : Zc} {k : Nat} (W : Zwt zty G c) (h : G[k]? = some 12) {x : Int32} (hx : (rg 0 20000) x) : ∃ c', zpv c k 9 0 (.int x) = some c' ∧ Zwt zty G c' ∧ Zfr G [(12, 0)] c c' ∧ zgi c' k 9 0 = some x := wt_pi W h rfl rfl hx
theorem gf_12_1 {G : List Nat} {c : Zc} {k : Nat} (W : Zwt zty G c) (h : G[k]? = some 12) : ∃ x, zgi c k 9 1 = some x ∧ (rg 0 8) x := wt_gi W h rfl rfl
theorem pf_12_1 {G : List Nat} {c : Zc} {k : Nat} (W : Zwt zty G c) (h : G[k]? = some 12) {x : Int32} (hx : (rg 0 8) x) : ∃ c', zpv c k 9 1 (.int x) = some c' ∧ Zwt zty G c' ∧ Zfr G [(12, 1)] c c' ∧ zgi c' k 9 1 = some x := wt_pi W h rfl rfl hx
theorem gf_12_2 {G : List Nat} {c : Zc} {k : Nat} (W : Zwt zty G c) (h : G[k]? = some 12) : ∃ x, zgr c k 9 2 = some x ∧ G[x]? = some 57 := wt_gr1 W h rfl rfl
theorem pf_12_2 {G : List Nat} {c : Zc} {k : Nat} (W : Zwt zty G c) (h : G[k]? = some 12) {x T' : Nat} (hx : G[x]? = some T') (hS : T' ∈ [57]) : ∃ c', zpv c k 9 2 (.ref x) = some c' ∧ Zwt zty G c' ∧ Zfr G [(12, 2)] c c' ∧ zgr c' k 9 2 = some x := wt_pr W h rfl rfl hx hS
theorem gf_12_3 {G : List Nat} {c : Zc} {k : Nat} (W : Zwt zty G c) (h : G[k]? = some 12) : ∃ x, zgr c k 9 3 = some x ∧ G[x]? = some 58 := wt_gr1 W h rfl rfl
theorem pf_12_3 {G : List Nat} {c : Zc} {k : Nat} (W : Zwt zty G c) (h : G[k]? = some 12) {x T' : Nat} (hx : G[x]? = some T') (hS : T' ∈ [58]) : ∃ c', zpv c k 9 3 (.ref x) = some c' ∧ Zwt zty G c' ∧ Zfr G [(12, 3)] c c' ∧ zgr c' k 9 3 = some x := wt_pr W h rfl rfl hx hS
theorem gf_12_4 {G : List Nat} {c : Zc} {k : Nat} (W : Zwt zty G c) (h : G[k]? = some 12) : ∃ x, zgr c k 9 4 = some x ∧ G[x]? = some 58 := wt_gr1 W h rfl rfl
theorem pf_12_4 {G : List Nat} {c : Zc} {k : Nat} (W : Zwt zty G c) (h : G[k]? = some 12) {x T' : Nat} (hx : G[x]? = some T') (hS : T' ∈ [58]) : ∃ c', zpv c k 9 4 (.ref x) = some c' ∧ Zwt zty G c' ∧ Zfr G [(12, 4)] c c' ∧ zgr c' k 9 4 = some x := wt_pr W h rfl rfl hx hS
theorem go_13 {G : List Nat} {c : Zc} {k : Nat} (W : Zwt zty G c) (h : G[k]? = some 13) : ∃ vs, zob c k 10 = some vs := wt_ob W h rfl
theorem gf_13_0 {G : List Nat} {c : Zc} {k : Nat} (W : Zwt zty G c) (h : G[k]? = some 13) : ∃ x, zgr c k 10 0 = some x ∧ G[x]? = some 8 := wt_gr1 W h rfl rfl
theorem pf_13_0 {G : List Nat} {c : Zc} {k : Nat} (W : Zwt zty G c) (h : G[k]? = some 13) {x T' : Nat} (hx : G[x]? = some T') (hS : T' ∈ [8]) : ∃ c', zpv c k 10 0 (.ref x) = some c' ∧ Zwt zty G c' ∧ Zfr G [(13, 0)] c c' ∧ zgr c' k 10 0 = some x := wt_pr W h rfl rfl hx hS
theorem gf_13_1 {G : List Nat} {c : Zc} {k : Nat} (W : Zwt zty G c) (h : G[k]? = some 13) : ∃ x, zgr c k 10 1 = some x ∧ G[x]? = some 10 := wt_gr1 W h rfl rfl
theorem pf_13_1 {G : List Nat} {c : Zc} {k : Nat} (W : Zwt zty G c) (h : G[k]? = some 13) {x T' : Nat} (hx : G[x]? = some T') (hS : T' ∈ [10]) : ∃ c', zpv c k 10 1 (.ref x) = some c' ∧ Zwt zty G c' ∧ Zfr G [(13, 1)] c c' ∧ zgr c' k 10 1 = some x := wt_pr W h rfl rfl hx hS
theorem gf_13_2 {G : List Nat} {c : Zc} {k : Nat} (W : Zwt zty G c) (h : G[k]? = some 13) : ∃ x, zgr c k 10 2 = some x ∧ G[x]? = some 11 := wt_gr1 W h rfl rfl
theorem pf_13_2 {G : List Nat} {c : Zc} {k : Nat} (W : Zwt zty G c) (h : G[k]? = some 13) {x T' : Nat} (hx : G[x]? = some T') (hS : T' ∈ [11]) : ∃ c', zpv c k 10 2 (.ref x) = some c' ∧ Zwt zty G c' ∧ Zfr G [(13, 2)] c c' ∧ zgr c' k 10 2 = some x := wt_pr W h rfl rfl hx hS
theorem gf_13_3 {G : List Nat} {c : Zc} {k : Nat} (W : Zwt zty G c) (h : G[k]? = some 13) : ∃ x, zgr c k 10 3 = some x ∧ G[x]? = some 59 := wt_gr1 W h rfl rfl
theorem pf_13_3 {G : List Nat} {c : Zc} {k : Nat} (W : Zwt zty G c) (h : G[k]? = some 13) {x T' : Nat} (hx : G[x]? = some T') (hS : T' ∈ [59]) : ∃ c', zpv c k 10 3 (.ref x) = some c' ∧ Zwt zty G c' ∧ Zfr G [(13, 3)] c c' ∧ zgr c' k 10 3 = some x := wt_pr W h rfl rfl hx hS
theorem go_14 {G : List Nat} {c : Zc} {k : Nat} (W : Zwt zty G c) (h : G[k]? = some 14) : ∃ vs, zob c k 11 = some vs := wt_ob W h rfl
theorem gf_14_0 {G : List Nat} {c : Zc} {k : Nat} (W : Zwt zty G c) (h : G[k]? = some 14) : ∃ x, zgr c k 11 0 = some x ∧ G[x]? = some 42 := wt_gr1 W h rfl rfl
theorem pf_14_0 {G : List Nat} {c : Zc} {k : Nat} (W : Zwt zty G c) (h : G[k]? = some 14) {x T' : Nat} (hx : G[x]? = some T') (hS : T' ∈ [42]) : ∃ c', zpv c k 11 0 (.ref x) = some c' ∧ Zwt zty G c' ∧ Zfr G [(14, 0)] c c' ∧ zgr c' k 11 0 = some x := wt_pr W h rfl rfl hx hS
theorem gf_14_1 {G : List Nat} {c : Zc} {k : Nat} (W : Zwt zty G c) (h : G[k]? = some 14) : ∃ x, zgr c k 11 1 = some x ∧ G[x]? = some 1 := wt_gr1 W h rfl rfl
theorem pf_14_1 {G : List Nat} {c : Zc} {k : Nat} (W : Zwt zty G c) (h : G[k]? = some 14) {x T' : Nat} (hx : G[x]? = some T') (hS : T' ∈ [1]) : ∃ c', zpv c k 11 1 (.ref x) = some c' ∧ Zwt zty G c' ∧ Zfr G [(14, 1)] c c' ∧ zgr c' k 11 1 = some x := wt_pr W h rfl rfl hx hS
theorem gf_14_2 {G : List Nat} {c : Zc} {k : Nat} (W : Zwt zty G c) (h : G[k]? = some 14) : ∃ x, zgr c k 11 2 = some x ∧ G[x]? = some 3 := wt_gr1 W h rfl rfl
theorem pf_14_2 {G : List Nat} {c : Zc} {k : Nat} (W : Zwt zty G c) (h : G[k]? = some 14) {x T' : Nat} (hx : G[x]? = some T') (hS : T' ∈ [3]) : ∃ c', zpv c k 11 2 (.ref x) = some c' ∧ Zwt zty G c' ∧ Zfr G [(14, 2)] c c' ∧ zgr c' k 11 2 = some x := wt_pr W h rfl rfl hx hS
theorem gf_14_3 {G : List Nat} {c : Zc} {k : Nat} (W : Zwt zty G c) (h : G[k]? = some 14) : ∃ x, zgr c k 11 3 = some x ∧ G[x]? = some 6 := wt_gr1 W h rfl rfl
theorem pf_14_3 {G : List Nat} {c : Zc} {k : Nat} (W : Zwt zty G c) (h : G[k]? = some 14) {x T' : Nat} (hx : G[x]? = some T') (hS : T' ∈ [6]) : ∃ c', zpv c k 11 3 (.ref x) = some c' ∧ Zwt zty G c' ∧ Zfr G [(14, 3)] c c' ∧ zgr c' k 11 3 = some x := wt_pr W h rfl rfl hx hS
theorem gf_14_4 {G : List Nat} {c : Zc} {k : Nat} (W : Zwt zty G c) (h : G[k]? = some 14) : ∃ x, zgr c k 11 4 = some x ∧ G[x]? = some 8 := wt_gr1 W h rfl rfl
theorem pf_14_4 {G : List Nat} {c : Zc} {k : Nat} (W : Zwt zty G c) (h : G[k]? = some 14) {x T' : Nat} (hx : G[x]? = some T') (hS : T' ∈ [8]) : ∃ c', zpv c k 11 4 (.ref x) = some c' ∧ Zwt zty G c' ∧ Zfr G [(14, 4)] c c' ∧ zgr c' k 11 4 = some x := wt_pr W h rfl rfl hx hS
theorem gf_14_5 {G : List Nat} {c : Zc} {k : Nat} (W : Zwt zty G c) (h : G[k]? = some 14) : ∃ x, zgr c k 11 5 = some x ∧ G[x]? = some 9 := wt_gr1 W h rfl rfl
theorem pf_14_5 {G : List Nat} {c : Zc} {k : Nat} (W : Zwt zty G c) (h : G[k]? = some 14) {x T' : Nat} (hx : G[x]? = some T') (hS : T' ∈ [9]) : ∃ c', zpv c k 11 5 (.ref x) = some c' ∧ Zwt zty G c' ∧ Zfr G [(14, 5)] c c' ∧ zgr c' k 11 5 = some x := wt_pr W h rfl rfl hx hS
theorem gf_14_6 {G : List Nat} {c : Zc} {k : Nat} (W : Zwt zty G c) (h : G[k]? = some 14) : ∃ x, zgr c k 11 6 = some x ∧ G[x]? = some 13 := wt_gr1 W h rfl rfl
theorem pf_14_6 {G : List Nat} {c : Zc} {k : Nat} (W : Zwt zty G c) (h : G[k]? = some 14) {x T' : Nat} (hx : G[x]? = some T') (hS : T' ∈ [13]) : ∃ c', zpv c k 11 6 (.ref x) = some c' ∧ Zwt zty G c' ∧ Zfr G [(14, 6)] c c' ∧ zgr c' k 11 6 = some x := wt_pr W h rfl rfl hx hS
theorem gf_14_7 {G : List Nat} {c : Zc} {k : Nat} (W : Zwt zty G c) (h : G[k]? = some 14) : ∃ x, zgr c k 11 7 = some x ∧ G[x]? = some 60 := wt_gr1 W h rfl rfl
theorem pf_14_7 {G : List Nat} {c : Zc} {k : Nat} (W : Zwt zty G c) (h : G[k]? = some 14) {x T' : Nat} (hx : G[x]? = some T') (hS : T' ∈ [60]) : ∃ c', zpv c k 11 7 (.ref x) = some c' ∧ Zwt zty G c' ∧ Zfr G [(14, 7)] c c' ∧ zgr c' k 11 7 = some x := wt_pr W h rfl rfl hx hS
theorem gf_14_8 {G : List Nat} {c : Zc} {k : Nat} (W : Zwt zty G c) (h : G[k]? = some 14) : ∃ x, zgr c k 11 8 = some x ∧ G[x]? = some 61 := wt_gr1 W h rfl rfl
theorem pf_14_8 {G : List Nat} {c : Zc} {k : Nat} (W : Zwt zty G c) (h : G[k]? = some 14) {x T' : Nat} (hx : G[x]? = some T') (hS : T' ∈ [61]) : ∃ c', zpv c k 11 8 (.ref x) = some c' ∧ Zwt zty G c' ∧ Zfr G [(14, 8)] c c' ∧ zgr c' k 11 8 = some x := wt_pr W h rfl rfl hx hS
theorem gf_14_9 {G : List Nat} {c : Zc} {k : Nat} (W : Zwt zty G c) (h : G[k]? = some 14) : ∃ x, zgr c k 11 9 = some x ∧ G[x]? = some 62 := wt_gr1 W h rfl rfl
theorem pf_14_9 {G : List Nat} {c : Zc} {k : Nat} (W : Zwt zty G c) (h : G[k]? = some 14) {x T' : Nat} (hx : G[x]? = some T') (hS : T' ∈ [62]) : ∃ c', zpv c k 11 9 (.ref x) = some c' ∧ Zwt zty G c' ∧ Zfr G [(14, 9)] c c' ∧ zgr c' k 11 9 = some x := wt_pr W h rfl rfl hx hS
theorem gf_14_10 {G : List Nat} {c : Zc} {k : Nat} (W : Zwt zty G c) (h : G[k]? = some 14) : ∃ x, zgi c k 11 10 = some x ∧ (rg 0 1500) x := wt_gi W h rfl rfl
theorem pf_14_10 {G : List Nat} {c : Zc} {k : Nat} (W : Zwt zty G c) (h : G[k]? = some 14) {x : Int32} (hx : (rg 0 1500) x) : ∃ c', zpv c k 11 10 (.int x) = some c' ∧ Zwt zty G c' ∧ Zfr G [(14, 10)] c c' ∧ zgi c' k 11 10 = some x := wt_pi W h rfl rfl hx
theorem go_63 {G : List Nat} {c : Zc} {k : Nat} (W : Zwt zty G c) (h : G[k]? = some 63) : ∃ vs, zob c k 9 = some vs := wt_ob W h rfl
theorem gf_63_0 {G : List Nat} {c : Zc} {k : Nat} (W : Zwt zty G c) (h : G[k]? = some 63) : ∃ x, zgi c k 9 0 = some x ∧ (rg 0 20000) x := wt_gi W h rfl rfl
theorem pf_63_0 {G : List Nat} {c : Zc} {k : Nat} (W : Zwt zty G c) (h : G[k]? = some 63) {x : Int32} (hx : (rg 0 20000) x) : ∃ c', zpv c k 9 0 (.int x) = some c' ∧ Zwt zty G c' ∧ Zfr G [(63, 0)] c c' ∧ zgi c' k 9 0 = some x := wt_pi W h rfl rfl hx
theorem gf_63_1 {G : List Nat} {c : Zc} {k : Nat} (W : Zwt zty G c) (h : G[k]? = some 63) : ∃ x, zgi c k 9 1 = some x ∧ (rg 0 8) x := wt_gi W h rfl rfl
theorem pf_63_1 {G : List Nat} {c : Zc} {k : Nat} (W : Zwt zty G c) (h : G[k]? = some 63) {x : Int32} (hx : (rg 0 8) x) : ∃ c', zpv c k 9 1 (.int x) = some c' ∧ Zwt zty G c' ∧ Zfr G [(63, 1)] c c' ∧ zgi c' k 9 1 = some x := wt_pi W h rfl rfl hx
theorem gf_63_2 {G : List Nat} {c : Zc} {k : Nat} (W : Zwt zty G c) (h : G[k]? = some 63) : ∃ x, zgr c k 9 2 = some x ∧ G[x]? = some 57 := wt_gr1 W h rfl rfl
theorem pf_63_2 {G : List Nat} {c : Zc} {k : Nat} (W : Zwt zty G c) (h : G[k]? = some 63) {x T' : Nat} (hx : G[x]? = some T') (hS : T' ∈ [57]) : ∃ c', zpv c k 9 2 (.ref x) = some c' ∧ Zwt zty G c' ∧ Zfr G [(63, 2)] c c' ∧ zgr c' k 9 2 = some x := wt_pr W h rfl rfl hx hS
theorem gf_63_3 {G : List Nat} {c : Zc} {k : Nat} (W : Zwt zty G c) (h : G[k]? = some 63) : ∃ x, zgr c k 9 3 = some x ∧ G[x]? = some 58 := wt_gr1 W h rfl rfl
theorem pf_63_3 {G : List Nat} {c : Zc} {k : Nat} (W : Zwt zty G c) (h : G[k]? = some 63) {x T' : Nat} (hx : G[x]? = some T') (hS : T' ∈ [58]) : ∃ c', zpv c k 9 3 (.ref x) = some c' ∧ Zwt zty G c' ∧ Zfr G [(63, 3)] c c' ∧ zgr c' k 9 3 = some x := wt_pr W h rfl rfl hx hS
theorem gf_63_4 {G : List Nat} {c : Zc} {k : Nat} (W : Zwt zty G c) (h : G[k]? = some 63) : ∃ x, zgr c k 9 4 = some x ∧ G[x]? = some 58 := wt_gr1 W h rfl rfl
theorem pf_63_4 {G : List Nat} {c : Zc} {k : Nat} (W : Zwt zty G c) (h : G[k]? = some 63) {x T' : Nat} (hx : G[x]? = some T') (hS : T' ∈ [58]) : ∃ c', zpv c k 9 4 (.ref x) = some c' ∧ Zwt zty G c' ∧ Zfr G [(63, 4)] c c' ∧ zgr c' k 9 4 = some x := wt_pr W h rfl rfl hx hS
theorem go_64 {G : List Nat} {c : Zc} {k : Nat} (W : Zwt zty G c) (h : G[k]? = some 64) : ∃ vs, zob c k 12 = some vs := wt_ob W h rfl
theorem gf_64_0 {G : List Nat} {c : Zc} {k : Nat} (W : Zwt zty G c) (h : G[k]? = some 64) : ∃ x, zgi c k 12 0 = some x ∧ (rg 0 16) x := wt_gi W h rfl rfl
theorem pf_64_0 {G : List Nat} {c : Zc} {k : Nat} (W : Zwt zty G c) (h : G[k]? = some 64) {x : Int32} (hx : (rg 0 16) x) : ∃ c', zpv c k 12 0 (.int x) = some c' ∧ Zwt zty G c' ∧ Zfr G [(64, 0)] c c' ∧ zgi c' k 12 0 = some x := wt_pi W h rfl rfl hx
theorem gf_64_1 {G : List Nat} {c : Zc} {k : Nat} (W : Zwt zty G c) (h : G[k]? = some 64) : ∃ x, zgr c k 12 1 = some x ∧ G[x]? = some 65 := wt_gr1 W h rfl rfl
theorem pf_64_1 {G : List Nat} {c : Zc} {k : Nat} (W : Zwt zty G c) (h : G[k]? = some 64) {x T' : Nat} (hx : G[x]? = some T') (hS : T' ∈ [65]) : ∃ c', zpv c k 12 1 (.ref x) = some c' ∧ Zwt zty G c' ∧ Zfr G [(64, 1)] c c' ∧ zgr c' k 12 1 = some x := wt_pr W h rfl rfl hx hS
theorem gf_64_2 {G : List Nat} {c : Zc} {k : Nat} (W : Zwt zty G c) (h : G[k]? = some 64) : ∃ x, zgr c k 12 2 = some x ∧ G[x]? = some 66 := wt_gr1 W h rfl rfl
theorem pf_64_2 {G : List Nat} {c : Zc} {k : Nat} (W : Zwt zty G c) (h : G[k]? = some 64) {x T' : Nat} (hx : G[x]? = some T') (hS : T' ∈ [66]) : ∃ c', zpv c k 12 2 (.ref x) = some c' ∧ Zwt zty G c' ∧ Zfr G [(64, 2)] c c' ∧ zgr c' k 12 2 = some x := wt_pr W h rfl rfl hx hS
theorem gf_64_3 {G : List Nat} {c : Zc} {k : Nat} (W : Zwt zty G c) (h : G[k]? = some 64) : ∃ x, zgr c k 12 3 = some x ∧ G[x]? = some 67 := wt_gr1 W h rfl rfl
theorem pf_64_3 {G : List Nat} {c : Zc} {k : Nat} (W : Zwt zty G c) (h : G[k]? = some 64) {x T' : Nat} (hx : G[x]? = some T') (hS : T' ∈ [67]) : ∃ c', zpv c k 12 3 (.ref x) = some c' ∧ Zwt zty G c' ∧ Zfr G [(64, 3)] c c' ∧ zgr c' k 12 3 = some x := wt_pr W h rfl rfl hx hS
theorem gf_64_4 {G : List Nat} {c : Zc} {k : Nat} (W : Zwt zty G c) (h : G[k]? = some 64) : ∃ x, zgr c k 12 4 = some x ∧ G[x]? = some 68 := wt_gr1 W h rfl rfl
theorem pf_64_4 {G : List Nat} {c : Zc} {k : Nat} (W : Zwt zty G c) (h : G[k]? = some 64) {x T' : Nat} (hx : G[x]? = some T') (hS : T' ∈ [68]) : ∃ c', zpv c k 12 4 (.ref x) = some c' ∧ Zwt zty G c' ∧ Zfr G [(64, 4)] c c' ∧ zgr c' k 12 4 = some x := wt_pr W h rfl rfl hx hS
theorem gf_64_5 {G : List Nat} {c : Zc} {k : Nat} (W : Zwt zty G c) (h : G[k]? = some 64) : ∃ x, zgr c k 12 5 = some x ∧ G[x]? = some 69 := wt_gr1 W h rfl rfl
theorem pf_64_5 {G : List Nat} {c : Zc} {k : Nat} (W : Zwt zty G c) (h : G[k]? = some 64) {x T' : Nat} (hx : G[x]? = some T') (hS : T' ∈ [69]) : ∃ c', zpv c k 12 5 (.ref x) = some c' ∧ Zwt zty G c' ∧ Zfr G [(64, 5)] c c' ∧ zgr c' k 12 5 = some x := wt_pr W h rfl rfl hx hS
theorem gf_64_6 {G : List Nat} {c : Zc} {k : Nat} (W : Zwt zty G c) (h : G[k]? = some 64) : ∃ x, zgr c k 12 6 = some x ∧ G[x]? = some 70 := wt_gr1 W h rfl rfl
theorem pf_64_6 {G : List Nat} {c : Zc} {k : Nat} (W : Zwt zty G c) (h : G[k]? = some 64) {x T' : Nat} (hx : G[x]? = some T') (hS : T' ∈ [70]) : ∃ c', zpv c k 12 6 (.ref x) = some c' ∧ Zwt zty G c' ∧ Zfr G [(64, 6)] c c' ∧ zgr c' k 12 6 = some x := wt_pr W h rfl rfl hx hS
theorem gf_64_7 {G : List Nat} {c : Zc} {k : Nat} (W : Zwt zty G c) (h : G[k]? = some 64) : ∃ x, zgr c k 12 7 = some x ∧ G[x]? = some 71 := wt_gr1 W h rfl rfl
theorem pf_64_7 {G : List Nat} {c : Zc} {k : Nat} (W : Zwt zty G c) (h : G[k]? = some 64) {x T' : Nat} (hx : G[x]? = some T') (hS : T' ∈ [71]) : ∃ c', zpv c k 12 7 (.ref x) = some c' ∧ Zwt zty G c' ∧ Zfr G [(64, 7)] c c' ∧ zgr c' k 12 7 = some x := wt_pr W h rfl rfl hx hS
theorem gf_64_8 {G : List Nat} {c : Zc} {k : Nat} (W : Zwt zty G c) (h : G[k]? = some 64) : ∃ x, zgi c k 12 8 = some x ∧ (rg 0 100) x := wt_gi W h rfl rfl
theorem pf_64_8 {G : List Nat} {c : Zc} {k : Nat} (W : Zwt zty G c) (h : G[k]? = some 64) {x : Int32} (hx : (rg 0 100) x) : ∃ c', zpv c k 12 8 (.int x) = some c' ∧ Zwt zty G c' ∧ Zfr G [(64, 8)] c c' ∧ zgi c' k 12 8 = some x := wt_pi W h rfl rfl hx
theorem gf_64_9 {G : List Nat} {c : Zc} {k : Nat} (W : Zwt zty G c) (h : G[k]? = some 64) : ∃ x, zgr c k 12 9 = some x ∧ G[x]? = some 72 := wt_gr1 W h rfl rfl
theorem pf_64_9 {G : List Nat} {c : Zc} {k : Nat} (W : Zwt zty G c) (h : G[k]? = some 64) {x T' : Nat} (hx : G[x]? = some T') (hS : T' ∈ [72]) : ∃ c', zpv c k 12 9 (.ref x) = some c' ∧ Zwt zty G c' ∧ Zfr G [(64, 9)] c c' ∧ zgr c' k 12 9 = some x := wt_pr W h rfl rfl hx hS
theorem gf_64_10 {G : List Nat} {c : Zc} {k : Nat} (W : Zwt zty G c) (h : G[k]? = some 64) : ∃ x, zgi c k 12 10 = some x ∧ (rg 0 1) x := wt_gi W h rfl rfl
theorem pf_64_10 {G : List Nat} {c : Zc} {k : Nat} (W : Zwt zty G c) (h : G[k]? = some 64) {x : Int32} (hx : (rg 0 1) x) : ∃ c', zpv c k 12 10 (.int x) = some c' ∧ Zwt zty G c' ∧ Zfr G [(64, 10)] c c' ∧ zgi c' k 12 10 = some x := wt_pi W h rfl rfl hx
theorem pz_64_10 {G : List Nat} {c : Zc} {k : Nat} (W : Zwt zty G c) (h : G[k]? = some 64) {x : Int32} (hx : rg 0 1 x) : ∃ c', zpz c k 12 10 x = some c' ∧ Zwt zty G c' ∧ Zfr G [(64, 10)] c c' ∧ zgi c' k 12 10 = some x := wt_pz W h rfl rfl hx
theorem gf_64_11 {G : List Nat} {c : Zc} {k : Nat} (W : Zwt zty G c) (h : G[k]? = some 64) : ∃ x, zgi c k 12 11 = some x ∧ (rg 0 1) x := wt_gi W h rfl rfl
theorem pf_64_11 {G : List Nat} {c : Zc} {k : Nat} (W : Zwt zty G c) (h : G[k]? = some 64) {x : Int32} (hx : (rg 0 1) x) : ∃ c', zpv c k 12 11 (.int x) = some c' ∧ Zwt zty G c' ∧ Zfr G [(64, 11)] c c' ∧ zgi c' k 12 11 = some x := wt_pi W h rfl rfl hx
theorem pz_64_11 {G : List Nat} {c : Zc} {k : Nat} (W : Zwt zty G c) (h : G[k]? = some 64) {x : Int32} (hx : rg 0 1 x) : ∃ c', zpz c k 12 11 x = some c' ∧ Zwt zty G c' ∧ Zfr G [(64, 11)] c c' ∧ zgi c' k 12 11 = some x := wt_pz W h rfl rfl hx
theorem gf_64_12 {G : List Nat} {c : Zc} {k : Nat} (W : Zwt zty G c) (h : G[k]? = some 64) : ∃ x, zgr c k 12 12 = some x ∧ G[x]? = some 73 := wt_gr1 W h rfl rfl
theorem pf_64_12 {G : List Nat} {c : Zc} {k : Nat} (W : Zwt zty G c) (h : G[k]? = some 64) {x T' : Nat} (hx : G[x]? = some T') (hS : T' ∈ [73]) : ∃ c', zpv c k 12 12 (.ref x) = some c' ∧ Zwt zty G c' ∧ Zfr G [(64, 12)] c c' ∧ zgr c' k 12 12 = some x := wt_pr W h rfl rfl hx hS
theorem gf_64_13 {G : List Nat} {c : Zc} {k : Nat} (W : Zwt zty G c) (h : G[k]? = some 64) : ∃ x, zgi c k 12 13 = some x ∧ (rg 0 1500) x := wt_gi W h rfl rfl
theorem pf_64_13 {G : List Nat} {c : Zc} {k : Nat} (W : Zwt zty G c) (h : G[k]? = some 64) {x : Int32} (hx : (rg 0 1500) x) : ∃ c', zpv c k 12 13 (.int x) = some c' ∧ Zwt zty G c' ∧ Zfr G [(64, 13)] c c' ∧ zgi c' k 12 13 = some x := wt_pi W h rfl rfl hx
theorem gf_64_14 {G : List Nat} {c : Zc} {k : Nat} (W : Zwt zty G c) (h : G[k]? = some 64) : ∃ x, zgr c k 12 14 = some x ∧ G[x]? = some 74 := wt_gr1 W h rfl rfl
theorem pf_64_14 {G : List Nat} {c : Zc} {k : Nat} (W : Zwt zty G c) (h : G[k]? = some 64) {x T' : Nat} (hx : G[x]? = some T') (hS : T' ∈ [74]) : ∃ c', zpv c k 12 14 (.ref x) = some c' ∧ Zwt zty G c' ∧ Zfr G [(64, 14)] c c' ∧ zgr c' k 12 14 = some x := wt_pr W h rfl rfl hx hS
theorem gf_64_15 {G : List Nat} {c : Zc} {k : Nat} (W : Zwt zty G c) (h : G[k]? = some 64) : ∃ x, zgr c k 12 15 = some x ∧ G[x]? = some 75 := wt_gr1 W h rfl rfl
theorem pf_64_15 {G : List Nat} {c : Zc} {k : Nat} (W : Zwt zty G c) (h : G[k]? = some 64) {x T' : Nat} (hx : G[x]? = some T') (hS : T' ∈ [75]) : ∃ c', zpv c k 12 15 (.ref x) = some c' ∧ Zwt zty G c' ∧ Zfr G [(64, 15)] c c' ∧ zgr c' k 12 15 = some x := wt_pr W h rfl rfl hx hS
theorem gf_64_16 {G : List Nat} {c : Zc} {k : Nat} (W : Zwt zty G c) (h : G[k]? = some 64) : ∃ x, zgr c k 12 16 = some x ∧ G[x]? = some 76 := wt_gr1 W h rfl rfl
theorem pf_64_16 {G : List Nat} {c : Zc} {k : Nat} (W : Zwt zty G c) (h : G[k]? = some 64) {x T' : Nat} (hx : G[x]? = some T') (hS : T' ∈ [76]) : ∃ c', zpv c k 12 16 (.ref x) = some c' ∧ Zwt zty G c' ∧ Zfr G [(64, 16)] c c' ∧ zgr c' k 12 16 = some x := wt_pr W h rfl rfl hx hS
theorem gf_64_17 {G : List Nat} {c : Zc} {k : Nat} (W : Zwt zty G c) (h : G[k]? = some 64) : ∃ x, zgi c k 12 17 = some x ∧ (rg 0 1501) x := wt_gi W h rfl rfl
theorem pf_64_17 {G : List Nat} {c : Zc} {k : Nat} (W : Zwt zty G c) (h : G[k]? = some 64) {x : Int32} (hx : (rg 0 1501) x) : ∃ c', zpv c k 12 17 (.int x) = some c' ∧ Zwt zty G c' ∧ Zfr G [(64, 17)] c c' ∧ zgi c' k 12 17 = some x := wt_pi W h rfl rfl hx
theorem gf_64_18 {G : List Nat} {c : Zc} {k : Nat} (W : Zwt zty G c) (h : G[k]? = some 64) : ∃ x, zgi c k 12 18 = some x ∧ (rg 0 200) x := wt_gi W h rfl rfl
theorem pf_64_18 {G : List Nat} {c : Zc} {k : Nat} (W : Zwt zty G c) (h : G[k]? = some 64) {x : Int32} (hx : (rg 0 200) x) : ∃ c', zpv c k 12 18 (.int x) = some c' ∧ Zwt zty G c' ∧ Zfr G [(64, 18)] c c' ∧ zgi c' k 12 18 = some x := wt_pi W h rfl rfl hx
theorem gf_64_19 {G : List Nat} {c : Zc} {k : Nat} (W : Zwt zty G c) (h : G[k]? = some 64) : ∃ x, zgi c k 12 19 = some x ∧ (rg 0 6) x := wt_gi W h rfl rfl
theorem pf_64_19 {G : List Nat} {c : Zc} {k : Nat} (W : Zwt zty G c) (h : G[k]? = some 64) {x : Int32} (hx : (rg 0 6) x) : ∃ c', zpv c k 12 19 (.int x) = some c' ∧ Zwt zty G c' ∧ Zfr G [(64, 19)] c c' ∧ zgi c' k 12 19 = some x := wt_pi W h rfl rfl hx
theorem gf_64_20 {G : List Nat} {c : Zc} {k : Nat} (W : Zwt zty G c) (h : G[k]? = some 64) : ∃ x, zgi c k 12 20 = some x ∧ an x := wt_gi W h rfl rfl
theorem pf_64_20 {G : List Nat} {c : Zc} {k : Nat} (W : Zwt zty G c) (h : G[k]? = some 64) {x : Int32} (hx : an x) : ∃ c', zpv c k 12 20 (.int x) = some c' ∧ Zwt zty G c' ∧ Zfr G [(64, 20)] c c' ∧ zgi c' k 12 20 = some x := wt_pi W h rfl rfl hx
theorem gf_64_21 {G : List Nat} {c : Zc} {k : Nat} (W : Zwt zty G c) (h : G[k]? = some 64) : ∃ x, zgi c k 12 21 = some x ∧ an x := wt_gi W h rfl rfl
theorem pf_64_21 {G : List Nat} {c : Zc} {k : Nat} (W : Zwt zty G c) (h : G[k]? = some 64) {x : Int32} (hx : an x) : ∃ c', zpv c k 12 21 (.int x) = some c' ∧ Zwt zty G c' ∧ Zfr G [(64, 21)] c c' ∧ zgi c' k 12 21 = some x := wt_pi W h rfl rfl hx
theorem gf_64_22 {G : List Nat} {c : Zc} {k : Nat} (W : Zwt zty G c) (h : G[k]? = some 64) : ∃ x, zgr c k 12 22 = some x ∧ G[x]? = some 77 := wt_gr1 W h rfl rfl
theorem pf_64_22 {G : List Nat} {c : Zc} {k : Nat} (W : Zwt zty G c) (h : G[k]? = some 64) {x T' : Nat} (hx : G[x]? = some T') (hS : T' ∈ [77]) : ∃ c', zpv c k 12 22 (.ref x) = some c' ∧ Zwt zty G c' ∧ Zfr G [(64, 22)] c c' ∧ zgr c' k 12 22 = some x := wt_pr W h rfl rfl hx hS
theorem gf_64_23 {G : List Nat} {c : Zc} {k : Nat} (W : Zwt zty G c) (h : G[k]? = some 64) : ∃ x, zgr c k 12 23 = some x ∧ G[x]? = some 78 := wt_gr1 W h rfl rfl
theorem pf_64_23 {G : List Nat} {c : Zc} {k : Nat} (W : Zwt zty G c) (h : G[k]? = some 64) {x T' : Nat} (hx : G[x]? = some T') (hS : T' ∈ [78]) : ∃ c', zpv c k 12 23 (.ref x) = some c' ∧ Zwt zty G c' ∧ Zfr G [(64, 23)] c c' ∧ zgr c' k 12 23 = some x := wt_pr W h rfl rfl hx hS
theorem gf_64_24 {G : List Nat} {c : Zc} {k : Nat} (W : Zwt zty G c) (h : G[k]? = some 64) : ∃ x, zgi c k 12 24 = some x ∧ (rg 0 8) x := wt_gi W h rfl rfl
theorem pf_64_24 {G : List Nat} {c : Zc} {k : Nat} (W : Zwt zty G c) (h : G[k]? = some 64) {x : Int32} (hx : (rg 0 8) x) : ∃ c', zpv c k 12 24 (.int x) = some c' ∧ Zwt zty G c' ∧ Zfr G [(64, 24)] c c' ∧ zgi c' k 12 24 = some x := wt_pi W h rfl rfl hx
theorem gf_64_25 {G : List Nat} {c : Zc} {k : Nat} (W : Zwt zty G c) (h : G[k]? = some 64) : ∃ x, zgi c k 12 25 = some x ∧ (rg 0 8) x := wt_gi W h rfl rfl
theorem pf_64_25 {G : List Nat} {c : Zc} {k : Nat} (W : Zwt zty G c) (h : G[k]? = some 64) {x : Int32} (hx : (rg 0 8) x) : ∃ c', zpv c k 12 25 (.int x) = some c' ∧ Zwt zty G c' ∧ Zfr G [(64, 25)] c c' ∧ zgi c' k 12 25 = some x := wt_pi W h rfl rfl hx
theorem gf_64_26 {G : List Nat} {c : Zc} {k : Nat} (W : Zwt zty G c) (h : G[k]? = some 64) : ∃ x, zgr c k 12 26 = some x ∧ G[x]? = some 79 := wt_gr1 W h rfl rfl
theorem pf_64_26 {G : List Nat} {c : Zc} {k : Nat} (W : Zwt zty G c) (h : G[k]? = some 64) {x T' : Nat} (hx : G[x]? = some T') (hS : T' ∈ [79]) : ∃ c', zpv c k 12 26 (.ref x) = some c' ∧ Zwt zty G c' ∧ Zfr G [(64, 26)] c c' ∧ zgr c' k 12 26 = some x := wt_pr W h rfl rfl hx hS
theorem gf_64_27 {G : List Nat} {c : Zc} {k : Nat} (W : Zwt zty G c) (h : G[k]? = some 64) : ∃ x, zgr c k 12 27 = some x ∧ G[x]? = some 80 := wt_gr1 W h rfl rfl
theorem pf_64_27 {G : List Nat} {c : Zc} {k : Nat} (W : Zwt zty G c) (h : G[k]? = some 64) {x T' : Nat} (hx : G[x]? = some T') (hS : T' ∈ [80]) : ∃ c', zpv c k 12 27 (.ref x) = some c' ∧ Zwt zty G c' ∧ Zfr G [(64, 27)] c c' ∧ zgr c' k 12 27 = some x := wt_pr W h rfl rfl hx hS
theorem gf_64_28 {G : List Nat} {c : Zc} {k : Nat} (W : Zwt zty G c) (h : G[k]? = some 64) : ∃ x, zgr c k 12 28 = some x ∧ G[x]? = some 81 := wt_gr1 W h rfl rfl
theorem pf_64_28 {G : List Nat} {c : Zc} {k : Nat} (W : Zwt zty G c) (h : G[k]? = some 64) {x T' : Nat} (hx : G[x]? = some T') (hS : T' ∈ [81]) : ∃ c', zpv c k 12 28 (.ref x) = some c' ∧ Zwt zty G c' ∧ Zfr G [(64, 28)] c c' ∧ zgr c' k 12 28 = some x := wt_pr W h rfl rfl hx hS
theorem gf_64_29 {G : List Nat} {c : Zc} {k : Nat} (W : Zwt zty G c) (h : G[k]? = some 64) : ∃ x, zgr c k 12 29 = some x ∧ G[x]? = some 82 := wt_gr1 W h rfl rfl
theorem pf_64_29 {G : List Nat} {c : Zc} {k : Nat} (W : Zwt zty G c) (h : G[k]? = some 64) {x T' : Nat} (hx : G[x]? = some T') (hS : T' ∈ [82]) : ∃ c', zpv c k 12 29 (.ref x) = some c' ∧ Zwt zty G c' ∧ Zfr G [(64, 29)] c c' ∧ zgr c' k 12 29 = some x := wt_pr W h rfl rfl hx hS
theorem gf_64_30 {G : List Nat} {c : Zc} {k : Nat} (W : Zwt zty G c) (h : G[k]? = some 64) : ∃ x, zgr c k 12 30 = some x ∧ G[x]? = some 83 := wt_gr1 W h rfl rfl
theorem pf_64_30 {G : List Nat} {c : Zc} {k : Nat} (W : Zwt zty G c) (h : G[k]? = some 64) {x T' : Nat} (hx : G[x]? = some T') (hS : T' ∈ [83]) : ∃ c', zpv c k 12 30 (.ref x) = some c' ∧ Zwt zty G c' ∧ Zfr G [(64, 30)] c c' ∧ zgr c' k 12 30 = some x := wt_pr W h rfl rfl hx hS
theorem gf_64_31 {G : List Nat} {c : Zc} {k : Nat} (W : Zwt zty G c) (h : G[k]? = some 64) : ∃ x, zgr c k 12 31 = some x ∧ G[x]? = some 84 := wt_gr1 W h rfl rfl
theorem pf_64_31 {G : List Nat} {c : Zc} {k : Nat} (W : Zwt zty G c) (h : G[k]? = some 64) {x T' : Nat} (hx : G[x]? = some T') (hS : T' ∈ [84]) : ∃ c', zpv c k 12 31 (.ref x) = some c' ∧ Zwt zty G c' ∧ Zfr G [(64, 31)] c c' ∧ zgr c' k 12 31 = some x := wt_pr W h rfl rfl hx hS
theorem gf_64_32 {G : List Nat} {c : Zc} {k : Nat} (W : Zwt zty G c) (h : G[k]? = some 64) : ∃ x, zgr c k 12 32 = some x ∧ G[x]? = some 85 := wt_gr1 W h rfl rfl
theorem pf_64_32 {G : List Nat} {c : Zc} {k : Nat} (W : Zwt zty G c) (h : G[k]? = some 64) {x T' : Nat} (hx : G[x]? = some T') (hS : T' ∈ [85]) : ∃ c', zpv c k 12 32 (.ref x) = some c' ∧ Zwt zty G c' ∧ Zfr G [(64, 32)] c c' ∧ zgr c' k 12 32 = some x := wt_pr W h rfl rfl hx hS
theorem gf_64_33 {G : List Nat} {c : Zc} {k : Nat} (W : Zwt zty G c) (h : G[k]? = some 64) : ∃ x, zgr c k 12 33 = some x ∧ G[x]? = some 86 := wt_gr1 W h rfl rfl
theorem pf_64_33 {G : List Nat} {c : Zc} {k : Nat} (W : Zwt zty G c) (h : G[k]? = some 64) {x T' : Nat} (hx : G[x]? = some T') (hS : T' ∈ [86]) : ∃ c', zpv c k 12 33 (.ref x) = some c' ∧ Zwt zty G c' ∧ Zfr G [(64, 33)] c c' ∧ zgr c' k 12 33 = some x := wt_pr W h rfl rfl hx hS
theorem gf_64_34 {G : List Nat} {c : Zc} {k : Nat} (W : Zwt zty G c) (h : G[k]? = some 64) : ∃ x, zgr c k 12 34 = some x ∧ G[x]? = some 87 := wt_gr1 W h rfl rfl
theorem pf_64_34 {G : List Nat} {c : Zc} {k : Nat} (W : Zwt zty G c) (h : G[k]? = some 64) {x T' : Nat} (hx : G[x]? = some T') (hS : T' ∈ [87]) : ∃ c', zpv c k 12 34 (.ref x) = some c' ∧ Zwt zty G c' ∧ Zfr G [(64, 34)] c c' ∧ zgr c' k 12 34 = some x := wt_pr W h rfl rfl hx hS
theorem gf_64_35 {G : List Nat} {c : Zc} {k : Nat} (W : Zwt zty G c) (h : G[k]? = some 64) : ∃ x, zgr c k 12 35 = some x ∧ G[x]? = some 88 := wt_gr1 W h rfl rfl
theorem pf_64_35 {G : List Nat} {c : Zc} {k : Nat} (W : Zwt zty G c) (h : G[k]? = some 64) {x T' : Nat} (hx : G[x]? = some T') (hS : T' ∈ [88]) : ∃ c', zpv c k 12 35 (.ref x) = some c' ∧ Zwt zty G c' ∧ Zfr G [(64, 35)] c c' ∧ zgr c' k 12 35 = some x := wt_pr W h rfl rfl hx hS
theorem gf_64_36 {G : List Nat} {c : Zc} {k : Nat} (W : Zwt zty G c) (h : G[k]? = some 64) : ∃ x, zgr c k 12 36 = some x ∧ G[x]? = some 89 := wt_gr1 W h rfl rfl
theorem pf_64_36 {G : List Nat} {c : Zc} {k : Nat} (W : Zwt zty G c) (h : G[k]? = some 64) {x T' : Nat} (hx : G[x]? = some T') (hS : T' ∈ [89]) : ∃ c', zpv c k 12 36 (.ref x) = some c' ∧ Zwt zty G c' ∧ Zfr G [(64, 36)] c c' ∧ zgr c' k 12 36 = some x := wt_pr W h rfl rfl hx hS
theorem gf_64_37 {G : List Nat} {c : Zc} {k : Nat} (W : Zwt zty G c) (h : G[k]? = some 64) : ∃ x, zgr c k 12 37 = some x ∧ G[x]? = some 90 := wt_gr1 W h rfl rfl
theorem pf_64_37 {G : List Nat} {c : Zc} {k : Nat} (W : Zwt zty G c) (h : G[k]? = some 64) {x T' : Nat} (hx : G[x]? = some T') (hS : T' ∈ [90]) : ∃ c', zpv c k 12 37 (.ref x) = some c' ∧ Zwt zty G c' ∧ Zfr G [(64, 37)] c c' ∧ zgr c' k 12 37 = some x := wt_pr W h rfl rfl hx hS
theorem gf_64_38 {G : List Nat} {c : Zc} {k : Nat} (W : Zwt zty G c) (h : G[k]? = some 64) : ∃ x, zgr c k 12 38 = some x ∧ G[x]? = some 91 := wt_gr1 W h rfl rfl
theorem pf_64_38 {G : List Nat} {c : Zc} {k : Nat} (W : Zwt zty G c) (h : G[k]? = some 64) {x T' : Nat} (hx : G[x]? = some T') (hS : T' ∈ [91]) : ∃ c', zpv c k 12 38 (.ref x) = some c' ∧ Zwt zty G c' ∧ Zfr G [(64, 38)] c c' ∧ zgr c' k 12 38 = some x := wt_pr W h rfl rfl hx hS
theorem gf_64_39 {G : List Nat} {c : Zc} {k : Nat} (W : Zwt zty G c) (h : G[k]? = some 64) : ∃ x, zgr c k 12 39 = some x ∧ G[x]? = some 92 := wt_gr1 W h rfl rfl
theorem pf_64_39 {G : List Nat} {c : Zc} {k : Nat} (W : Zwt zty G c) (h : G[k]? = some 64) {x T' : Nat} (hx : G[x]? = some T') (hS : T' ∈ [92]) : ∃ c', zpv c k 12 39 (.ref x) = some c' ∧ Zwt zty G c' ∧ Zfr G [(64, 39)] c c' ∧ zgr c' k 12 39 = some x := wt_pr W h rfl rfl hx hS
theorem gf_64_40 {G : List Nat} {c : Zc} {k : Nat} (W : Zwt zty G c) (h : G[k]? = some 64) : ∃ x, zgr c k 12 40 = some x ∧ G[x]? = some 93 := wt_gr1 W h rfl rfl
theorem pf_64_40 {G : List Nat} {c : Zc} {k : Nat} (W : Zwt zty G c) (h : G[k]? = some 64) {x T' : Nat} (hx : G[x]? = some T') (hS : T' ∈ [93]) : ∃ c', zpv c k 12 40 (.ref x) = some c' ∧ Zwt zty G c' ∧ Zfr G [(64, 40)] c c' ∧ zgr c' k 12 40 = some x := wt_pr W h rfl rfl hx hS
theorem gf_64_41 {G : List Nat} {c : Zc} {k : Nat} (W : Zwt zty G c) (h : G[k]? = some 64) : ∃ x, zgr c k 12 41 = some x ∧ G[x]? = some 94 := wt_gr1 W h rfl rfl
theorem pf_64_41 {G : List Nat} {c : Zc} {k : Nat} (W : Zwt zty G c) (h : G[k]? = some 64) {x T' : Nat} (hx : G[x]? = some T') (hS : T' ∈ [94]) : ∃ c', zpv c k 12 41 (.ref x) = some c' ∧ Zwt zty G c' ∧ Zfr G [(64, 41)] c c' ∧ zgr c' k 12 41 = some x := wt_pr W h rfl rfl hx hS
theorem gf_64_42 {G : List Nat} {c : Zc} {k : Nat} (W : Zwt zty G c) (h : G[k]? = some 64) : ∃ x, zgr c k 12 42 = some x ∧ G[x]? = some 95 := wt_gr1 W h rfl rfl
theorem pf_64_42 {G : List Nat} {c : Zc} {k : Nat} (W : Zwt zty G c) (h : G[k]? = some 64) {x T' : Nat} (hx : G[x]? = some T') (hS : T' ∈ [95]) : ∃ c', zpv c k 12 42 (.ref x) = some c' ∧ Zwt zty G c' ∧ Zfr G [(64, 42)] c c' ∧ zgr c' k 12 42 = some x := wt_pr W h rfl rfl hx hS
theorem gf_64_43 {G : List Nat} {c : Zc} {k : Nat} (W : Zwt zty G c) (h : G[k]? = some 64) : ∃ x, zgr c k 12 43 = some x ∧ G[x]? = some 96 := wt_gr1 W h rfl rfl
theorem pf_64_43 {G : List Nat} {c : Zc} {k : Nat} (W : Zwt zty G c) (h : G[k]? = some 64) {x T' : Nat} (hx : G[x]? = some T') (hS : T' ∈ [96]) : ∃ c', zpv c k 12 43 (.ref x) = some c' ∧ Zwt zty G c' ∧ Zfr G [(64, 43)] c c' ∧ zgr c' k 12 43 = some x := wt_pr W h rfl rfl hx hS
theorem gf_64_44 {G : List Nat} {c : Zc} {k : Nat} (W : Zwt zty G c) (h : G[k]? = some 64) : ∃ x, zgr c k 12 44 = some x ∧ G[x]? = some 97 := wt_gr1 W h rfl rfl
theorem pf_64_44 {G : List Nat} {c : Zc} {k : Nat} (W : Zwt zty G c) (h : G[k]? = some 64) {x T' : Nat} (hx : G[x]? = some T') (hS : T' ∈ [97]) : ∃ c', zpv c k 12 44 (.ref x) = some c' ∧ Zwt zty G c' ∧ Zfr G [(64, 44)] c c' ∧ zgr c' k 12 44 = some x := wt_pr W h rfl rfl hx hS
theorem gf_64_45 {G : List Nat} {c : Zc} {k : Nat} (W : Zwt zty G c) (h : G[k]? = some 64) : ∃ x, zgr c k 12 45 = some x ∧ G[x]? = some 98 := wt_gr1 W h rfl rfl
theorem pf_64_45 {G : List Nat} {c : Zc} {k : Nat} (W : Zwt zty G c) (h : G[k]? = some 64) {x T' : Nat} (hx : G[x]? = some T') (hS : T' ∈ [98]) : ∃ c', zpv c k 12 45 (.ref x) = some c' ∧ Zwt zty G c' ∧ Zfr G [(64, 45)] c c' ∧ zgr c' k 12 45 = some x := wt_pr W h rfl rfl hx hS
theorem gf_64_46 {G : List Nat} {c : Zc} {k : Nat} (W : Zwt zty G c) (h : G[k]? = some 64) : ∃ x, zgr c k 12 46 = some x ∧ G[x]? = some 99 := wt_gr1 W h rfl rfl
theorem pf_64_46 {G : List Nat} {c : Zc} {k : Nat} (W : Zwt zty G c) (h : G[k]? = some 64) {x T' : Nat} (hx : G[x]? = some T') (hS : T' ∈ [99]) : ∃ c', zpv c k 12 46 (.ref x) = some c' ∧ Zwt zty G c' ∧ Zfr G [(64, 46)] c c' ∧ zgr c' k 12 46 = some x := wt_pr W h rfl rfl hx hS
theorem gf_64_47 {G : List Nat} {c : Zc} {k : Nat} (W : Zwt zty G c) (h : G[k]? = some 64) : ∃ x, zgr c k 12 47 = some x ∧ G[x]? = some 100 := wt_gr1 W h rfl rfl
theorem pf_64_47 {G : List Nat} {c : Zc} {k : Nat} (W : Zwt zty G c) (h : G[k]? = some 64) {x T' : Nat} (hx : G[x]? = some T') (hS : T' ∈ [100]) : ∃ c', zpv c k 12 47 (.ref x) = some c' ∧ Zwt zty G c' ∧ Zfr G [(64, 47)] c c' ∧ zgr c' k 12 47 = some x := wt_pr W h rfl rfl hx hS
theorem gf_64_48 {G : List Nat} {c : Zc} {k : Nat} (W : Zwt zty G c) (h : G[k]? = some 64) : ∃ x, zgr c k 12 48 = some x ∧ G[x]? = some 101 := wt_gr1 W h rfl rfl
theorem pf_64_48 {G : List Nat} {c : Zc} {k : Nat} (W : Zwt zty G c) (h : G[k]? = some 64) {x T' : Nat} (hx : G[x]? = some T') (hS : T' ∈ [101]) : ∃ c', zpv c k 12 48 (.ref x) = some c' ∧ Zwt zty G c' ∧ Zfr G [(64, 48)] c c' ∧ zgr c' k 12 48 = some x := wt_pr W h rfl rfl hx hS
theorem gf_64_49 {G : List Nat} {c : Zc} {k : Nat} (W : Zwt zty G c) (h : G[k]? = some 64) : ∃ x, zgr c k 12 49 = some x ∧ G[x]? = some 102 := wt_gr1 W h rfl rfl
theorem pf_64_49 {G : List Nat} {c : Zc} {k : Nat} (W : Zwt zty G c) (h : G[k]? = some 64) {x T' : Nat} (hx : G[x]? = some T') (hS : T' ∈ [102]) : ∃ c', zpv c k 12 49 (.ref x) = some c' ∧ Zwt zty G c' ∧ Zfr G [(64, 49)] c c' ∧ zgr c' k 12 49 = some x := wt_pr W h rfl rfl hx hS
theorem gf_64_50 {G : List Nat} {c : Zc} {k : Nat} (W : Zwt zty G c) (h : G[k]? = some 64) : ∃ x, zgr c k 12 50 = some x ∧ G[x]? = some 103 := wt_gr1 W h rfl rfl
theorem pf_64_50 {G : List Nat} {c : Zc} {k : Nat} (W : Zwt zty G c) (h : G[k]? = some 64) {x T' : Nat} (hx : G[x]? = some T') (hS : T' ∈ [103]) : ∃ c', zpv c k 12 50 (.ref x) = some c' ∧ Zwt zty G c' ∧ Zfr G [(64, 50)] c c' ∧ zgr c' k 12 50 = some x := wt_pr W h rfl rfl hx hS
theorem gf_64_51 {G : List Nat} {c : Zc} {k : Nat} (W : Zwt zty G c) (h : G[k]? = some 64) : ∃ x, zgr c k 12 51 = some x ∧ G[x]? = some 104 := wt_gr1 W h rfl rfl
theorem pf_64_51 {G : List Nat} {c : Zc} {k : Nat} (W : Zwt zty G c) (h : G[k]? = some 64) {x T' : Nat} (hx : G[x]? = some T') (hS : T' ∈ [104]) : ∃ c', zpv c k 12 51 (.ref x) = some c' ∧ Zwt zty G c' ∧ Zfr G [(64, 51)] c c' ∧ zgr c' k 12 51 = some x := wt_pr W h rfl rfl hx hS
theorem gf_64_52 {G : List Nat} {c : Zc} {k : Nat} (W : Zwt zty G c) (h : G[k]? = some 64) : ∃ x, zgi c k 12 52 = some x ∧ (rg 0 400) x := wt_gi W h rfl rfl
theorem pf_64_52 {G : List Nat} {c : Zc} {k : Nat} (W : Zwt zty G c) (h : G[k]? = some 64) {x : Int32} (hx : (rg 0 400) x) : ∃ c', zpv c k 12 52 (.int x) = some c' ∧ Zwt zty G c' ∧ Zfr G [(64, 52)] c c' ∧ zgi c' k 12 52 = some x := wt_pi W h rfl rfl hx
theorem gf_64_53 {G : List Nat} {c : Zc} {k : Nat} (W : Zwt zty G c) (h : G[k]? = some 64) : ∃ x, zgi c k 12 53 = some x ∧ (rg 0 11) x := wt_gi W h rfl rfl
theorem pf_64_53 {G : List Nat} {c : Zc} {k : Nat} (W : Zwt zty G c) (h : G[k]? = some 64) {x : Int32} (hx : (rg 0 11) x) : ∃ c', zpv c k 12 53 (.int x) = some c' ∧ Zwt zty G c' ∧ Zfr G [(64, 53)] c c' ∧ zgi c' k 12 53 = some x := wt_pi W h rfl rfl hx
theorem gf_64_54 {G : List Nat} {c : Zc} {k : Nat} (W : Zwt zty G c) (h : G[k]? = some 64) : ∃ x, zgr c k 12 54 = some x ∧ G[x]? = some 105 := wt_gr1 W h rfl rfl
theorem pf_64_54 {G : List Nat} {c : Zc} {k : Nat} (W : Zwt zty G c) (h : G[k]? = some 64) {x T' : Nat} (hx : G[x]? = some T') (hS : T' ∈ [105]) : ∃ c', zpv c k 12 54 (.ref x) = some c' ∧ Zwt zty G c' ∧ Zfr G [(64, 54)] c c' ∧ zgr c' k 12 54 = some x := wt_pr W h rfl rfl hx hS
theorem gf_64_55 {G : List Nat} {c : Zc} {k : Nat} (W : Zwt zty G c) (h : G[k]? = some 64) : ∃ x, zgr c k 12 55 = some x ∧ G[x]? = some 106 := wt_gr1 W h rfl rfl
theorem pf_64_55 {G : List Nat} {c : Zc} {k : Nat} (W : Zwt zty G c) (h : G[k]? = some 64) {x T' : Nat} (hx : G[x]? = some T') (hS : T' ∈ [106]) : ∃ c', zpv c k 12 55 (.ref x) = some c' ∧ Zwt zty G c' ∧ Zfr G [(64, 55)] c c' ∧ zgr c' k 12 55 = some x := wt_pr W h rfl rfl hx hS
theorem gf_64_56 {G : List Nat} {c : Zc} {k : Nat} (W : Zwt zty G c) (h : G[k]? = some 64) : ∃ x, zgi c k 12 56 = some x ∧ (rg 0 79) x := wt_gi W h rfl rfl
theorem pf_64_56 {G : List Nat} {c : Zc} {k : Nat} (W : Zwt zty G c) (h : G[k]? = some 64) {x : Int32} (hx : (rg 0 79) x) : ∃ c', zpv c k 12 56 (.int x) = some c' ∧ Zwt zty G c' ∧ Zfr G [(64, 56)] c c' ∧ zgi c' k 12 56 = some x := wt_pi W h rfl rfl hx
theorem gf_64_57 {G : List Nat} {c : Zc} {k : Nat} (W : Zwt zty G c) (h : G[k]? = some 64) : ∃ x, zgi c k 12 57 = some x ∧ (rg 0 9) x := wt_gi W h rfl rfl
theorem pf_64_57 {G : List Nat} {c : Zc} {k : Nat} (W : Zwt zty G c) (h : G[k]? = some 64) {x : Int32} (hx : (rg 0 9) x) : ∃ c', zpv c k 12 57 (.int x) = some c' ∧ Zwt zty G c' ∧ Zfr G [(64, 57)] c c' ∧ zgi c' k 12 57 = some x := wt_pi W h rfl rfl hx
theorem gf_64_58 {G : List Nat} {c : Zc} {k : Nat} (W : Zwt zty G c) (h : G[k]? = some 64) : ∃ x, zgr c k 12 58 = some x ∧ G[x]? = some 107 := wt_gr1 W h rfl rfl
theorem pf_64_58 {G : List Nat} {c : Zc} {k : Nat} (W : Zwt zty G c) (h : G[k]? = some 64) {x T' : Nat} (hx : G[x]? = some T') (hS : T' ∈ [107]) : ∃ c', zpv c k 12 58 (.ref x) = some c' ∧ Zwt zty G c' ∧ Zfr G [(64, 58)] c c' ∧ zgr c' k 12 58 = some x := wt_pr W h rfl rfl hx hS
theorem gf_64_59 {G : List Nat} {c : Zc} {k : Nat} (W : Zwt zty G c) (h : G[k]? = some 64) : ∃ x, zgr c k 12 59 = some x ∧ G[x]? = some 108 := wt_gr1 W h rfl rfl
theorem pf_64_59 {G : List Nat} {c : Zc} {k : Nat} (W : Zwt zty G c) (h : G[k]? = some 64) {x T' : Nat} (hx : G[x]? = some T') (hS : T' ∈ [108]) : ∃ c', zpv c k 12 59 (.ref x) = some c' ∧ Zwt zty G c' ∧ Zfr G [(64, 59)] c c' ∧ zgr c' k 12 59 = some x := wt_pr W h rfl rfl hx hS
theorem gf_64_60 {G : List Nat} {c : Zc} {k : Nat} (W : Zwt zty G c) (h : G[k]? = some 64) : ∃ x, zgr c k 12 60 = some x ∧ G[x]? = some 109 := wt_gr1 W h rfl rfl
theorem pf_64_60 {G : List Nat} {c : Zc} {k : Nat} (W : Zwt zty G c) (h : G[k]? = some 64) {x T' : Nat} (hx : G[x]? = some T') (hS : T' ∈ [109]) : ∃ c', zpv c k 12 60 (.ref x) = some c' ∧ Zwt zty G c' ∧ Zfr G [(64, 60)] c c' ∧ zgr c' k 12 60 = some x := wt_pr W h rfl rfl hx hS
theorem gf_64_61 {G : List Nat} {c : Zc} {k : Nat} (W : Zwt zty G c) (h : G[k]? = some 64) : ∃ x, zgr c k 12 61 = some x ∧ G[x]? = some 110 := wt_gr1 W h rfl rfl
theorem pf_64_61 {G : List Nat} {c : Zc} {k : Nat} (W : Zwt zty G c) (h : G[k]? = some 64) {x T' : Nat} (hx : G[x]? = some T') (hS : T' ∈ [110]) : ∃ c', zpv c k 12 61 (.ref x) = some c' ∧ Zwt zty G c' ∧ Zfr G [(64, 61)] c c' ∧ zgr c' k 12 61 = some x := wt_pr W h rfl rfl hx hS
theorem gf_64_62 {G : List Nat} {c : Zc} {k : Nat} (W : Zwt zty G c) (h : G[k]? = some 64) : ∃ x, zgr c k 12 62 = some x ∧ G[x]? = some 111 := wt_gr1 W h rfl rfl
theorem pf_64_62 {G : List Nat} {c : Zc} {k : Nat} (W : Zwt zty G c) (h : G[k]? = some 64) {x T' : Nat} (hx : G[x]? = some T') (hS : T' ∈ [111]) : ∃ c', zpv c k 12 62 (.ref x) = some c' ∧ Zwt zty G c' ∧ Zfr G [(64, 62)] c c' ∧ zgr c' k 12 62 = some x := wt_pr W h rfl rfl hx hS
theorem gf_64_63 {G : List Nat} {c : Zc} {k : Nat} (W : Zwt zty G c) (h : G[k]? = some 64) : ∃ x, zgr c k 12 63 = some x ∧ G[x]? = some 112 := wt_gr1 W h rfl rfl
theorem pf_64_63 {G : List Nat} {c : Zc} {k : Nat} (W : Zwt zty G c) (h : G[k]? = some 64) {x T' : Nat} (hx : G[x]? = some T') (hS : T' ∈ [112]) : ∃ c', zpv c k 12 63 (.ref x) = some c' ∧ Zwt zty G c' ∧ Zfr G [(64, 63)] c c' ∧ zgr c' k 12 63 = some x := wt_pr W h rfl rfl hx hS
theorem gf_64_64 {G : List Nat} {c : Zc} {k : Nat} (W : Zwt zty G c) (h : G[k]? = some 64) : ∃ x, zgr c k 12 64 = some x ∧ G[x]? = some 113 := wt_gr1 W h rfl rfl
theorem pf_64_64 {G : List Nat} {c : Zc} {k : Nat} (W : Zwt zty G c) (h : G[k]? = some 64) {x T' : Nat} (hx : G[x]? = some T') (hS : T' ∈ [113]) : ∃ c', zpv c k 12 64 (.ref x) = some c' ∧ Zwt zty G c' ∧ Zfr G [(64, 64)] c c' ∧ zgr c' k 12 64 = some x := wt_pr W h rfl rfl hx hS
theorem gf_64_65 {G : List Nat} {c : Zc} {k : Nat} (W : Zwt zty G c) (h : G[k]? = some 64) : ∃ x, zgi c k 12 65 = some x ∧ (rg 0 12) x := wt_gi W h rfl rfl
theorem pf_64_65 {G : List Nat} {c : Zc} {k : Nat} (W : Zwt zty G c) (h : G[k]? = some 64) {x : Int32} (hx : (rg 0 12) x) : ∃ c', zpv c k 12 65 (.int x) = some c' ∧ Zwt zty G c' ∧ Zfr G [(64, 65)] c c' ∧ zgi c' k 12 65 = some x := wt_pi W h rfl rfl hx
theorem gf_64_66 {G : List Nat} {c : Zc} {k : Nat} (W : Zwt zty G c) (h : G[k]? = some 64) : ∃ x, zgr c k 12 66 = some x ∧ G[x]? = some 114 := wt_gr1 W h rfl rfl
theorem pf_64_66 {G : List Nat} {c : Zc} {k : Nat} (W : Zwt zty G c) (h : G[k]? = some 64) {x T' : Nat} (hx : G[x]? = some T') (hS : T' ∈ [114]) : ∃ c', zpv c k 12 66 (.ref x) = some c' ∧ Zwt zty G c' ∧ Zfr G [(64, 66)] c c' ∧ zgr c' k 12 66 = some x := wt_pr W h rfl rfl hx hS
theorem gf_64_67 {G : List Nat} {c : Zc} {k : Nat} (W : Zwt zty G c) (h : G[k]? = some 64) : ∃ x, zgr c k 12 67 = some x ∧ G[x]? = some 115 := wt_gr1 W h rfl rfl
theorem pf_64_67 {G : List Nat} {c : Zc} {k : Nat} (W : Zwt zty G c) (h : G[k]? = some 64) {x T' : Nat} (hx : G[x]? = some T') (hS : T' ∈ [115]) : ∃ c', zpv c k 12 67 (.ref x) = some c' ∧ Zwt zty G c' ∧ Zfr G [(64, 67)] c c' ∧ zgr c' k 12 67 = some x := wt_pr W h rfl rfl hx hS
theorem gf_64_68 {G : List Nat} {c : Zc} {k : Nat} (W : Zwt zty G c) (h : G[k]? = some 64) : ∃ x, zgr c k 12 68 = some x ∧ G[x]? = some 116 := wt_gr1 W h rfl rfl
theorem pf_64_68 {G : List Nat} {c : Zc} {k : Nat} (W : Zwt zty G c) (h : G[k]? = some 64) {x T' : Nat} (hx : G[x]? = some T') (hS : T' ∈ [116]) : ∃ c', zpv c k 12 68 (.ref x) = some c' ∧ Zwt zty G c' ∧ Zfr G [(64, 68)] c c' ∧ zgr c' k 12 68 = some x := wt_pr W h rfl rfl hx hS
theorem gf_64_69 {G : List Nat} {c : Zc} {k : Nat} (W : Zwt zty G c) (h : G[k]? = some 64) : ∃ x, zgi c k 12 69 = some x ∧ (rg 0 1000) x := wt_gi W h rfl rfl
theorem pf_64_69 {G : List Nat} {c : Zc} {k : Nat} (W : Zwt zty G c) (h : G[k]? = some 64) {x : Int32} (hx : (rg 0 1000) x) : ∃ c', zpv c k 12 69 (.int x) = some c' ∧ Zwt zty G c' ∧ Zfr G [(64, 69)] c c' ∧ zgi c' k 12 69 = some x := wt_pi W h rfl rfl hx
theorem gf_64_70 {G : List Nat} {c : Zc} {k : Nat} (W : Zwt zty G c) (h : G[k]? = some 64) : ∃ x, zgr c k 12 70 = some x ∧ G[x]? = some 117 := wt_gr1 W h rfl rfl
theorem pf_64_70 {G : List Nat} {c : Zc} {k : Nat} (W : Zwt zty G c) (h : G[k]? = some 64) {x T' : Nat} (hx : G[x]? = some T') (hS : T' ∈ [117]) : ∃ c', zpv c k 12 70 (.ref x) = some c' ∧ Zwt zty G c' ∧ Zfr G [(64, 70)] c c' ∧ zgr c' k 12 70 = some x := wt_pr W h rfl rfl hx hS
theorem gf_64_71 {G : List Nat} {c : Zc} {k : Nat} (W : Zwt zty G c) (h : G[k]? = some 64) : ∃ x, zgr c k 12 71 = some x ∧ G[x]? = some 118 := wt_gr1 W h rfl rfl
theorem pf_64_71 {G : List Nat} {c : Zc} {k : Nat} (W : Zwt zty G c) (h : G[k]? = some 64) {x T' : Nat} (hx : G[x]? = some T') (hS : T' ∈ [118]) : ∃ c', zpv c k 12 71 (.ref x) = some c' ∧ Zwt zty G c' ∧ Zfr G [(64, 71)] c c' ∧ zgr c' k 12 71 = some x := wt_pr W h rfl rfl hx hS
theorem gf_64_72 {G : List Nat} {c : Zc} {k : Nat} (W : Zwt zty G c) (h : G[k]? = some 64) : ∃ x, zgr c k 12 72 = some x ∧ G[x]? = some 119 := wt_gr1 W h rfl rfl
theorem pf_64_72 {G : List Nat} {c : Zc} {k : Nat} (W : Zwt zty G c) (h : G[k]? = some 64) {x T' : Nat} (hx : G[x]? = some T') (hS : T' ∈ [119]) : ∃ c', zpv c k 12 72 (.ref x) = some c' ∧ Zwt zty G c' ∧ Zfr G [(64, 72)] c c' ∧ zgr c' k 12 72 = some x := wt_pr W h rfl rfl hx hS
theorem gf_64_73 {G : List Nat} {c : Zc} {k : Nat} (W : Zwt zty G c) (h : G[k]? = some 64) : ∃ x, zgr c k 12 73 = some x ∧ G[x]? = some 120 := wt_gr1 W h rfl rfl
theorem pf_64_73 {G : List Nat} {c : Zc} {k : Nat} (W : Zwt zty G c) (h : G[k]? = some 64) {x T' : Nat} (hx : G[x]? = some T') (hS : T' ∈ [120]) : ∃ c', zpv c k 12 73 (.ref x) = some c' ∧ Zwt zty G c' ∧ Zfr G [(64, 73)] c c' ∧ zgr c' k 12 73 = some x := wt_pr W h rfl rfl hx hS
theorem gf_64_74 {G : List Nat} {c : Zc} {k : Nat} (W : Zwt zty G c) (h : G[k]? = some 64) : ∃ x, zgr c k 12 74 = some x ∧ G[x]? = some 121 := wt_gr1 W h rfl rfl
theorem pf_64_74 {G : List Nat} {c : Zc} {k : Nat} (W : Zwt zty G c) (h : G[k]? = some 64) {x T' : Nat} (hx : G[x]? = some T') (hS : T' ∈ [121]) : ∃ c', zpv c k 12 74 (.ref x) = some c' ∧ Zwt zty G c' ∧ Zfr G [(64, 74)] c c' ∧ zgr c' k 12 74 = some x := wt_pr W h rfl rfl hx hS
theorem gf_64_75 {G : List Nat} {c : Zc} {k : Nat} (W : Zwt zty G c) (h : G[k]? = some 64) : ∃ x, zgr c k 12 75 = some x ∧ G[x]? = some 122 := wt_gr1 W h rfl rfl
theorem pf_64_75 {G : List Nat} {c : Zc} {k : Nat} (W : Zwt zty G c) (h : G[k]? = some 64) {x T' : Nat} (hx : G[x]? = some T') (hS : T' ∈ [122]) : ∃ c', zpv c k 12 75 (.ref x) = some c' ∧ Zwt zty G c' ∧ Zfr G [(64, 75)] c c' ∧ zgr c' k 12 75 = some x := wt_pr W h rfl rfl hx hS
theorem gf_64_76 {G : List Nat} {c : Zc} {k : Nat} (W : Zwt zty G c) (h : G[k]? = some 64) : ∃ x, zgr c k 12 76 = some x ∧ G[x]? = some 123 := wt_gr1 W h rfl rfl
theorem pf_64_76 {G : List Nat} {c : Zc} {k : Nat} (W : Zwt zty G c) (h : G[k]? = some 64) {x T' : Nat} (hx : G[x]? = some T') (hS : T' ∈ [123]) : ∃ c', zpv c k 12 76 (.ref x) = some c' ∧ Zwt zty G c' ∧ Zfr G [(64, 76)] c c' ∧ zgr c' k 12 76 = some x := wt_pr W h rfl rfl hx hS
theorem gf_64_77 {G : List Nat} {c : Zc} {k : Nat} (W : Zwt zty G c) (h : G[k]? = some 64) : ∃ x, zgr c k 12 77 = some x ∧ G[x]? = some 124 := wt_gr1 W h rfl rfl
theorem pf_64_77 {G : List Nat} {c : Zc} {k : Nat} (W : Zwt zty G c) (h : G[k]? = some 64) {x T' : Nat} (hx : G[x]? = some T') (hS : T' ∈ [124]) : ∃ c', zpv c k 12 77 (.ref x) = some c' ∧ Zwt zty G c' ∧ Zfr G [(64, 77)] c c' ∧ zgr c' k 12 77 = some x := wt_pr W h rfl rfl hx hS
theorem gf_64_78 {G : List Nat} {c : Zc} {k : Nat} (W : Zwt zty G c) (h : G[k]? = some 64) : ∃ x, zgr c k 12 78 = some x ∧ G[x]? = some 125 := wt_gr1 W h rfl rfl
theorem pf_64_78 {G : List Nat} {c : Zc} {k : Nat} (W : Zwt zty G c) (h : G[k]? = some 64) {x T' : Nat} (hx : G[x]? = some T') (hS : T' ∈ [125]) : ∃ c', zpv c k 12 78 (.ref x) = some c' ∧ Zwt zty G c' ∧ Zfr G [(64, 78)] c c' ∧ zgr c' k 12 78 = some x := wt_pr W h rfl rfl hx hS
theorem gf_64_79 {G : List Nat} {c : Zc} {k : Nat} (W : Zwt zty G c) (h : G[k]? = some 64) : ∃ x, zgr c k 12 79 = some x ∧ G[x]? = some 126 := wt_gr1 W h rfl rfl
theorem pf_64_79 {G : List Nat} {c : Zc} {k : Nat} (W : Zwt zty G c) (h : G[k]? = some 64) {x T' : Nat} (hx : G[x]? = some T') (hS : T' ∈ [126]) : ∃ c', zpv c k 12 79 (.ref x) = some c' ∧ Zwt zty G c' ∧ Zfr G [(64, 79)] c c' ∧ zgr c' k 12 79 = some x := wt_pr W h rfl rfl hx hS
theorem gf_64_80 {G : List Nat} {c : Zc} {k : Nat} (W : Zwt zty G c) (h : G[k]? = some 64) : ∃ x, zgr c k 12 80 = some x ∧ G[x]? = some 127 := wt_gr1 W h rfl rfl
theorem pf_64_80 {G : List Nat} {c : Zc} {k : Nat} (W : Zwt zty G c) (h : G[k]? = some 64) {x T' : Nat} (hx : G[x]? = some T') (hS : T' ∈ [127]) : ∃ c', zpv c k 12 80 (.ref x) = some c' ∧ Zwt zty G c' ∧ Zfr G [(64, 80)] c c' ∧ zgr c' k 12 80 = some x := wt_pr W h rfl rfl hx hS
theorem gf_64_81 {G : List Nat} {c : Zc} {k : Nat} (W : Zwt zty G c) (h : G[k]? = some 64) : ∃ x, zgi c k 12 81 = some x ∧ (rg 0 20000) x := wt_gi W h rfl rfl
theorem pf_64_81 {G : List Nat} {c : Zc} {k : Nat} (W : Zwt zty G c) (h : G[k]? = some 64) {x : Int32} (hx : (rg 0 20000) x) : ∃ c', zpv c k 12 81 (.int x) = some c' ∧ Zwt zty G c' ∧ Zfr G [(64, 81)] c c' ∧ zgi c' k 12 81 = some x := wt_pi W h rfl rfl hx
theorem gf_64_82 {G : List Nat} {c : Zc} {k : Nat} (W : Zwt zty G c) (h : G[k]? = some 64) : ∃ x, zgr c k 12 82 = some x ∧ G[x]? = some 128 := wt_gr1 W h rfl rfl
theorem pf_64_82 {G : List Nat} {c : Zc} {k : Nat} (W : Zwt zty G c) (h : G[k]? = some 64) {x T' : Nat} (hx : G[x]? = some T') (hS : T' ∈ [128]) : ∃ c', zpv c k 12 82 (.ref x) = some c' ∧ Zwt zty G c' ∧ Zfr G [(64, 82)] c c' ∧ zgr c' k 12 82 = some x := wt_pr W h rfl rfl hx hS
theorem gf_64_83 {G : List Nat} {c : Zc} {k : Nat} (W : Zwt zty G c) (h : G[k]? = some 64) : ∃ x, zgr c k 12 83 = some x ∧ G[x]? = some 129 := wt_gr1 W h rfl rfl
theorem pf_64_83 {G : List Nat} {c : Zc} {k : Nat} (W : Zwt zty G c) (h : G[k]? = some 64) {x T' : Nat} (hx : G[x]? = some T') (hS : T' ∈ [129]) : ∃ c', zpv c k 12 83 (.ref x) = some c' ∧ Zwt zty G c' ∧ Zfr G [(64, 83)] c c' ∧ zgr c' k 12 83 = some x := wt_pr W h rfl rfl hx hS
theorem gf_64_84 {G : List Nat} {c : Zc} {k : Nat} (W : Zwt zty G c) (h : G[k]? = some 64) : ∃ x, zgr c k 12 84 = some x ∧ G[x]? = some 130 := wt_gr1 W h rfl rfl
theorem pf_64_84 {G : List Nat} {c : Zc} {k : Nat} (W : Zwt zty G c) (h : G[k]? = some 64) {x T' : Nat} (hx : G[x]? = some T') (hS : T' ∈ [130]) : ∃ c', zpv c k 12 84 (.ref x) = some c' ∧ Zwt zty G c' ∧ Zfr G [(64, 84)] c c' ∧ zgr c' k 12 84 = some x := wt_pr W h rfl rfl hx hS
theorem gf_64_85 {G : List Nat} {c : Zc} {k : Nat} (W : Zwt zty G c) (h : G[k]? = some 64) : ∃ x, zgr c k 12 85 = some x ∧ G[x]? = some 131 := wt_gr1 W h rfl rfl
theorem pf_64_85 {G : List Nat} {c : Zc} {k : Nat} (W : Zwt zty G c) (h : G[k]? = some 64) {x T' : Nat} (hx : G[x]? = some T') (hS : T' ∈ [131]) : ∃ c', zpv c k 12 85 (.ref x) = some c' ∧ Zwt zty G c' ∧ Zfr G [(64, 85)] c c' ∧ zgr c' k 12 85 = some x := wt_pr W h rfl rfl hx hS
theorem gf_64_86 {G : List Nat} {c : Zc} {k : Nat} (W : Zwt zty G c) (h : G[k]? = some 64) : ∃ x, zgr c k 12 86 = some x ∧ G[x]? = some 132 := wt_gr1 W h rfl rfl
theorem pf_64_86 {G : List Nat} {c : Zc} {k : Nat} (W : Zwt zty G c) (h : G[k]? = some 64) {x T' : Nat} (hx : G[x]? = some T') (hS : T' ∈ [132]) : ∃ c', zpv c k 12 86 (.ref x) = some c' ∧ Zwt zty G c' ∧ Zfr G [(64, 86)] c c' ∧ zgr c' k 12 86 = some x := wt_pr W h rfl rfl hx hS
theorem gf_64_87 {G : List Nat} {c : Zc} {k : Nat} (W : Zwt zty G c) (h : G[k]? = some 64) : ∃ x, zgi c k 12 87 = some x ∧ (rg 0 8) x := wt_gi W h rfl rfl
theorem pf_64_87 {G : List Nat} {c : Zc} {k : Nat} (W : Zwt zty G c) (h : G[k]? = some 64) {x : Int32} (hx : (rg 0 8) x) : ∃ c', zpv c k 12 87 (.int x) = some c' ∧ Zwt zty G c' ∧ Zfr G [(64, 87)] c c' ∧ zgi c' k 12 87 = some x := wt_pi W h rfl rfl hx
theorem gf_64_88 {G : List Nat} {c : Zc} {k : Nat} (W : Zwt zty G c) (h : G[k]? = some 64) : ∃ x, zgr c k 12 88 = some x ∧ G[x]? = some 133 := wt_gr1 W h rfl rfl
theorem pf_64_88 {G : List Nat} {c : Zc} {k : Nat} (W : Zwt zty G c) (h : G[k]? = some 64) {x T' : Nat} (hx : G[x]? = some T') (hS : T' ∈ [133]) : ∃ c', zpv c k 12 88 (.ref x) = some c' ∧ Zwt zty G c' ∧ Zfr G [(64, 88)] c c' ∧ zgr c' k 12 88 = some x := wt_pr W h rfl rfl hx hS
theorem gf_64_89 {G : List Nat} {c : Zc} {k : Nat} (W : Zwt zty G c) (h : G[k]? = some 64) : ∃ x, zgr c k 12 89 = some x ∧ G[x]? = some 134 := wt_gr1 W h rfl rfl
theorem pf_64_89 {G : List Nat} {c : Zc} {k : Nat} (W : Zwt zty G c) (h : G[k]? = some 64) {x T' : Nat} (hx : G[x]? = some T') (hS : T' ∈ [134]) : ∃ c', zpv c k 12 89 (.ref x) = some c' ∧ Zwt zty G c' ∧ Zfr G [(64, 89)] c c' ∧ zgr c' k 12 89 = some x := wt_pr W h rfl rfl hx hS
theorem gl_15 {G : List Nat} {c : Zc} {k : Nat} (W : Zwt zty G c) (h : G[k]? = some 15) : zlen c k 0 = some 16 := wt_len W h (.inl ⟨_, rfl⟩)
theorem ga_15 {G : List Nat} {c : Zc} {k : Nat} (W : Zwt zty G c) (h : G[k]? = some 15) {i : Int32} (h0 : 0 ≤ i.toInt) (h1 : i.toInt < 16) : ∃ x, zai c k 0 i = some x ∧ (rg 0 255) x := wt_ai W h rfl h0 h1
theorem pa_15 {G : List Nat} {c : Zc} {k : Nat} (W : Zwt zty G c) (h : G[k]? = some 15) {i : Int32} (h0 : 0 ≤ i.toInt) (h1 : i.toInt < 16) {x : Int32} (hx : (rg 0 255) x) : ∃ c', zsi c k 0 i x = some c' ∧ Zwt zty G c' ∧ Zfr G [(15, 0)] c c' ∧ zai c' k 0 i = some x := wt_si W h rfl h0 h1 hx
theorem gl_16 {G : List Nat} {c : Zc} {k : Nat} (W : Zwt zty G c) (h : G[k]? = some 16) : zlen c k 0 = some 64 := wt_len W h (.inl ⟨_, rfl⟩)
theorem ga_16 {G : List Nat} {c : Zc} {k : Nat} (W : Zwt zty G c) (h : G[k]? = some 16) {i : Int32} (h0 : 0 ≤ i.toInt) (h1 : i.toInt < 64) : ∃ x, zai c k 0 i = some x ∧ (rg (-9999) 9999) x := wt_ai W h rfl h0 h1
theorem pa_16 {G : List Nat} {c : Zc} {k : Nat} (W : Zwt zty G c) (h : G[k]? = some 16) {i : Int32} (h0 : 0 ≤ i.toInt) (h1 : i.toInt < 64) {x : Int32} (hx : (rg (-9999) 9999) x) : ∃ c', zsi c k 0 i x = some c' ∧ Zwt zty G c' ∧ Zfr G [(16, 0)] c c' ∧ zai c' k 0 i = some x := wt_si W h rfl h0 h1 hx
theorem gl_17 {G : List Nat} {c : Zc} {k : Nat} (W : Zwt zty G c) (h : G[k]? = some 17) : zlen c k 0 = some 100 := wt_len W h (.inl ⟨_, rfl⟩)
theorem ga_17 {G : List Nat} {c : Zc} {k : Nat} (W : Zwt zty G c) (h : G[k]? = some 17) {i : Int32} (h0 : 0 ≤ i.toInt) (h1 : i.toInt < 100) : ∃ x, zai c k 0 i = some x ∧ (rg 0 15) x := wt_ai W h rfl h0 h1
theorem pa_17 {G : List Nat} {c : Zc} {k : Nat} (W : Zwt zty G c) (h : G[k]? = some 17) {i : Int32} (h0 : 0 ≤ i.toInt) (h1 : i.toInt < 100) {x : Int32} (hx : (rg 0 15) x) : ∃ c', zsi c k 0 i x = some c' ∧ Zwt zty G c' ∧ Zfr G [(17, 0)] c c' ∧ zai c' k 0 i = some x := wt_si W h rfl h0 h1 hx
theorem gl_18 {G : List Nat} {c : Zc} {k : Nat} (W : Zwt zty G c) (h : G[k]? = some 18) : zlen c k 0 = some 100 := wt_len W h (.inl ⟨_, rfl⟩)
theorem ga_18 {G : List Nat} {c : Zc} {k : Nat} (W : Zwt zty G c) (h : G[k]? = some 18) {i : Int32} (h0 : 0 ≤ i.toInt) (h1 : i.toInt < 100) : ∃ x, zai c k 0 i = some x ∧ (rg 0 15) x := wt_ai W h rfl h0 h1
theorem pa_18 {G : List Nat} {c : Zc} {k : Nat} (W : Zwt zty G c) (h : G[k]? = some 18) {i : Int32} (h0 : 0 ≤ i.toInt) (h1 : i.toInt < 100) {x : Int32} (hx : (rg 0 15) x) : ∃ c', zsi c k 0 i x = some c' ∧ Zwt zty G c' ∧ Zfr G [(18, 0)] c c' ∧ zai c' k 0 i = some x := wt_si W h rfl h0 h1 hx
theorem gl_19 {G : List Nat} {c : Zc} {k : Nat} (W : Zwt zty G c) (h : G[k]? = some 19) : zlen c k 0 = some 100 := wt_len W h (.inl ⟨_, rfl⟩)
theorem ga_19 {G : List Nat} {c : Zc} {k : Nat} (W : Zwt zty G c) (h : G[k]? = some 19) {i : Int32} (h0 : 0 ≤ i.toInt) (h1 : i.toInt < 100) : ∃ x, zai c k 0 i = some x ∧ (rg (-1) 7) x := wt_ai W h rfl h0 h1
theorem pa_19 {G : List Nat} {c : Zc} {k : Nat} (W : Zwt zty G c) (h : G[k]? = some 19) {i : Int32} (h0 : 0 ≤ i.toInt) (h1 : i.toInt < 100) {x : Int32} (hx : (rg (-1) 7) x) : ∃ c', zsi c k 0 i x = some c' ∧ Zwt zty G c' ∧ Zfr G [(19, 0)] c c' ∧ zai c' k 0 i = some x := wt_si W h rfl h0 h1 hx
theorem gl_20 {G : List Nat} {c : Zc} {k : Nat} (W : Zwt zty G c) (h : G[k]? = some 20) : zlen c k 0 = some 100 := wt_len W h (.inl ⟨_, rfl⟩)
theorem ga_20 {G : List Nat} {c : Zc} {k : Nat} (W : Zwt zty G c) (h : G[k]? = some 20) {i : Int32} (h0 : 0 ≤ i.toInt) (h1 : i.toInt < 100) : ∃ x, zai c k 0 i = some x ∧ (rg 0 99) x := wt_ai W h rfl h0 h1
theorem pa_20 {G : List Nat} {c : Zc} {k : Nat} (W : Zwt zty G c) (h : G[k]? = some 20) {i : Int32} (h0 : 0 ≤ i.toInt) (h1 : i.toInt < 100) {x : Int32} (hx : (rg 0 99) x) : ∃ c', zsi c k 0 i x = some c' ∧ Zwt zty G c' ∧ Zfr G [(20, 0)] c c' ∧ zai c' k 0 i = some x := wt_si W h rfl h0 h1 hx
theorem gl_21 {G : List Nat} {c : Zc} {k : Nat} (W : Zwt zty G c) (h : G[k]? = some 21) : zlen c k 0 = some 416 := wt_len W h (.inl ⟨_, rfl⟩)
theorem ga_21 {G : List Nat} {c : Zc} {k : Nat} (W : Zwt zty G c) (h : G[k]? = some 21) {i : Int32} (h0 : 0 ≤ i.toInt) (h1 : i.toInt < 416) : ∃ x, zai c k 0 i = some x ∧ an x := wt_ai W h rfl h0 h1
theorem pa_21 {G : List Nat} {c : Zc} {k : Nat} (W : Zwt zty G c) (h : G[k]? = some 21) {i : Int32} (h0 : 0 ≤ i.toInt) (h1 : i.toInt < 416) {x : Int32} (hx : an x) : ∃ c', zsi c k 0 i x = some c' ∧ Zwt zty G c' ∧ Zfr G [(21, 0)] c c' ∧ zai c' k 0 i = some x := wt_si W h rfl h0 h1 hx
theorem gl_22 {G : List Nat} {c : Zc} {k : Nat} (W : Zwt zty G c) (h : G[k]? = some 22) : zlen c k 0 = some 16 := wt_len W h (.inl ⟨_, rfl⟩)
theorem ga_22 {G : List Nat} {c : Zc} {k : Nat} (W : Zwt zty G c) (h : G[k]? = some 22) {i : Int32} (h0 : 0 ≤ i.toInt) (h1 : i.toInt < 16) : ∃ x, zai c k 0 i = some x ∧ (rg 0 25) x := wt_ai W h rfl h0 h1
theorem pa_22 {G : List Nat} {c : Zc} {k : Nat} (W : Zwt zty G c) (h : G[k]? = some 22) {i : Int32} (h0 : 0 ≤ i.toInt) (h1 : i.toInt < 16) {x : Int32} (hx : (rg 0 25) x) : ∃ c', zsi c k 0 i x = some c' ∧ Zwt zty G c' ∧ Zfr G [(22, 0)] c c' ∧ zai c' k 0 i = some x := wt_si W h rfl h0 h1 hx
theorem gl_23 {G : List Nat} {c : Zc} {k : Nat} (W : Zwt zty G c) (h : G[k]? = some 23) : zlen c k 0 = some 16 := wt_len W h (.inl ⟨_, rfl⟩)
theorem ga_23 {G : List Nat} {c : Zc} {k : Nat} (W : Zwt zty G c) (h : G[k]? = some 23) {i : Int32} (h0 : 0 ≤ i.toInt) (h1 : i.toInt < 16) : ∃ x, zai c k 0 i = some x ∧ an x := wt_ai W h rfl h0 h1
theorem pa_23 {G : List Nat} {c : Zc} {k : Nat} (W : Zwt zty G c) (h : G[k]? = some 23) {i : Int32} (h0 : 0 ≤ i.toInt) (h1 : i.toInt < 16) {x : Int32} (hx : an x) : ∃ c', zsi c k 0 i x = some c' ∧ Zwt zty G c' ∧ Zfr G [(23, 0)] c c' ∧ zai c' k 0 i = some x := wt_si W h rfl h0 h1 hx
theorem gl_24 {G : List Nat} {c : Zc} {k : Nat} (W : Zwt zty G c) (h : G[k]? = some 24) : zlen c k 2 = some 12 := wt_len W h (.inr (.inl rfl))
theorem ga_24 {G : List Nat} {c : Zc} {k : Nat} (W : Zwt zty G c) (h : G[k]? = some 24) {i : Int32} (h0 : 0 ≤ i.toInt) (h1 : i.toInt < 12) : ∃ x, zal c k 2 i = some x := wt_al W h rfl h0 h1
theorem pa_24 {G : List Nat} {c : Zc} {k : Nat} (W : Zwt zty G c) (h : G[k]? = some 24) {i : Int32} (h0 : 0 ≤ i.toInt) (h1 : i.toInt < 12) (x : Int64) : ∃ c', zsl c k 2 i x = some c' ∧ Zwt zty G c' ∧ Zfr G [(24, 0)] c c' ∧ zal c' k 2 i = some x := wt_sl W h rfl h0 h1
theorem gl_25 {G : List Nat} {c : Zc} {k : Nat} (W : Zwt zty G c) (h : G[k]? = some 25) : zlen c k 2 = some 12 := wt_len W h (.inr (.inl rfl))
theorem ga_25 {G : List Nat} {c : Zc} {k : Nat} (W : Zwt zty G c) (h : G[k]? = some 25) {i : Int32} (h0 : 0 ≤ i.toInt) (h1 : i.toInt < 12) : ∃ x, zal c k 2 i = some x := wt_al W h rfl h0 h1
theorem pa_25 {G : List Nat} {c : Zc} {k : Nat} (W : Zwt zty G c) (h : G[k]? = some 25) {i : Int32} (h0 : 0 ≤ i.toInt) (h1 : i.toInt < 12) (x : Int64) : ∃ c', zsl c k 2 i x = some c' ∧ Zwt zty G c' ∧ Zfr G [(25, 0)] c c' ∧ zal c' k 2 i = some x := wt_sl W h rfl h0 h1
theorem gl_26 {G : List Nat} {c : Zc} {k : Nat} (W : Zwt zty G c) (h : G[k]? = some 26) : zlen c k 0 = some 256 := wt_len W h (.inl ⟨_, rfl⟩)
theorem ga_26 {G : List Nat} {c : Zc} {k : Nat} (W : Zwt zty G c) (h : G[k]? = some 26) {i : Int32} (h0 : 0 ≤ i.toInt) (h1 : i.toInt < 256) : ∃ x, zai c k 0 i = some x ∧ an x := wt_ai W h rfl h0 h1
theorem pa_26 {G : List Nat} {c : Zc} {k : Nat} (W : Zwt zty G c) (h : G[k]? = some 26) {i : Int32} (h0 : 0 ≤ i.toInt) (h1 : i.toInt < 256) {x : Int32} (hx : an x) : ∃ c', zsi c k 0 i x = some c' ∧ Zwt zty G c' ∧ Zfr G [(26, 0)] c c' ∧ zai c' k 0 i = some x := wt_si W h rfl h0 h1 hx
theorem gl_27 {G : List Nat} {c : Zc} {k : Nat} (W : Zwt zty G c) (h : G[k]? = some 27) : zlen c k 0 = some 16 := wt_len W h (.inl ⟨_, rfl⟩)
theorem ga_27 {G : List Nat} {c : Zc} {k : Nat} (W : Zwt zty G c) (h : G[k]? = some 27) {i : Int32} (h0 : 0 ≤ i.toInt) (h1 : i.toInt < 16) : ∃ x, zai c k 0 i = some x ∧ an x := wt_ai W h rfl h0 h1
theorem pa_27 {G : List Nat} {c : Zc} {k : Nat} (W : Zwt zty G c) (h : G[k]? = some 27) {i : Int32} (h0 : 0 ≤ i.toInt) (h1 : i.toInt < 16) {x : Int32} (hx : an x) : ∃ c', zsi c k 0 i x = some c' ∧ Zwt zty G c' ∧ Zfr G [(27, 0)] c c' ∧ zai c' k 0 i = some x := wt_si W h rfl h0 h1 hx
theorem gl_28 {G : List Nat} {c : Zc} {k : Nat} (W : Zwt zty G c) (h : G[k]? = some 28) : zlen c k 0 = some 16 := wt_len W h (.inl ⟨_, rfl⟩)
theorem ga_28 {G : List Nat} {c : Zc} {k : Nat} (W : Zwt zty G c) (h : G[k]? = some 28) {i : Int32} (h0 : 0 ≤ i.toInt) (h1 : i.toInt < 16) : ∃ x, zai c k 0 i = some x ∧ an x := wt_ai W h rfl h0 h1
theorem pa_28 {G : List Nat} {c : Zc} {k : Nat} (W : Zwt zty G c) (h : G[k]? = some 28) {i : Int32} (h0 : 0 ≤ i.toInt) (h1 : i.toInt < 16) {x : Int32} (hx : an x) : ∃ c', zsi c k 0 i x = some c' ∧ Zwt zty G c' ∧ Zfr G [(28, 0)] c c' ∧ zai c' k 0 i = some x := wt_si W h rfl h0 h1 hx
theorem gl_29 {G : List Nat} {c : Zc} {k : Nat} (W : Zwt zty G c) (h : G[k]? = some 29) : zlen c k 3 = some 10 := wt_len W h (.inr (.inr ⟨_, rfl⟩))
theorem ga_29 {G : List Nat} {c : Zc} {k : Nat} (W : Zwt zty G c) (h : G[k]? = some 29) {i : Int32} (h0 : 0 ≤ i.toInt) (h1 : i.toInt < 10) : ∃ x, zar c k 3 i = some x ∧ G[x]? = some 2 := wt_ar W h rfl h0 h1
theorem pa_29 {G : List Nat} {c : Zc} {k : Nat} (W : Zwt zty G c) (h : G[k]? = some 29) {i : Int32} (h0 : 0 ≤ i.toInt) (h1 : i.toInt < 10) {x : Nat} (hx : G[x]? = some 2) : ∃ c', zsr c k 3 1 i x = some c' ∧ Zwt zty G c' ∧ Zfr G [(29, 0)] c c' ∧ zar c' k 3 i = some x := wt_sr W h rfl h0 h1 hx (List.mem_singleton.mpr rfl) rfl
theorem gl_30 {G : List Nat} {c : Zc} {k : Nat} (W : Zwt zty G c) (h : G[k]? = some 30) : zlen c k 0 = some 70 := wt_len W h (.inl ⟨_, rfl⟩)
theorem ga_30 {G : List Nat} {c : Zc} {k : Nat} (W : Zwt zty G c) (h : G[k]? = some 30) {i : Int32} (h0 : 0 ≤ i.toInt) (h1 : i.toInt < 70) : ∃ x, zai c k 0 i = some x ∧ (rg 0 2047) x := wt_ai W h rfl h0 h1
theorem pa_30 {G : List Nat} {c : Zc} {k : Nat} (W : Zwt zty G c) (h : G[k]? = some 30) {i : Int32} (h0 : 0 ≤ i.toInt) (h1 : i.toInt < 70) {x : Int32} (hx : (rg 0 2047) x) : ∃ c', zsi c k 0 i x = some c' ∧ Zwt zty G c' ∧ Zfr G [(30, 0)] c c' ∧ zai c' k 0 i = some x := wt_si W h rfl h0 h1 hx
theorem gl_31 {G : List Nat} {c : Zc} {k : Nat} (W : Zwt zty G c) (h : G[k]? = some 31) : zlen c k 0 = some 70 := wt_len W h (.inl ⟨_, rfl⟩)
theorem ga_31 {G : List Nat} {c : Zc} {k : Nat} (W : Zwt zty G c) (h : G[k]? = some 31) {i : Int32} (h0 : 0 ≤ i.toInt) (h1 : i.toInt < 70) : ∃ x, zai c k 0 i = some x ∧ an x := wt_ai W h rfl h0 h1
theorem pa_31 {G : List Nat} {c : Zc} {k : Nat} (W : Zwt zty G c) (h : G[k]? = some 31) {i : Int32} (h0 : 0 ≤ i.toInt) (h1 : i.toInt < 70) {x : Int32} (hx : an x) : ∃ c', zsi c k 0 i x = some c' ∧ Zwt zty G c' ∧ Zfr G [(31, 0)] c c' ∧ zai c' k 0 i = some x := wt_si W h rfl h0 h1 hx
theorem gl_32 {G : List Nat} {c : Zc} {k : Nat} (W : Zwt zty G c) (h : G[k]? = some 32) : zlen c k 0 = some 70 := wt_len W h (.inl ⟨_, rfl⟩)
theorem ga_32 {G : List Nat} {c : Zc} {k : Nat} (W : Zwt zty G c) (h : G[k]? = some 32) {i : Int32} (h0 : 0 ≤ i.toInt) (h1 : i.toInt < 70) : ∃ x, zai c k 0 i = some x ∧ an x := wt_ai W h rfl h0 h1
theorem pa_32 {G : List Nat} {c : Zc} {k : Nat} (W : Zwt zty G c) (h : G[k]? = some 32) {i : Int32} (h0 : 0 ≤ i.toInt) (h1 : i.toInt < 70) {x : Int32} (hx : an x) : ∃ c', zsi c k 0 i x = some c' ∧ Zwt zty G c' ∧ Zfr G [(32, 0)] c c' ∧ zai c' k 0 i = some x := wt_si W h rfl h0 h1 hx
theorem gl_33 {G : List Nat} {c : Zc} {k : Nat} (W : Zwt zty G c) (h : G[k]? = some 33) : zlen c k 0 = some 70 := wt_len W h (.inl ⟨_, rfl⟩)
theorem ga_33 {G : List Nat} {c : Zc} {k : Nat} (W : Zwt zty G c) (h : G[k]? = some 33) {i : Int32} (h0 : 0 ≤ i.toInt) (h1 : i.toInt < 70) : ∃ x, zai c k 0 i = some x ∧ (rg 0 10) x := wt_ai W h rfl h0 h1
theorem pa_33 {G : List Nat} {c : Zc} {k : Nat} (W : Zwt zty G c) (h : G[k]? = some 33) {i : Int32} (h0 : 0 ≤ i.toInt) (h1 : i.toInt < 70) {x : Int32} (hx : (rg 0 10) x) : ∃ c', zsi c k 0 i x = some c' ∧ Zwt zty G c' ∧ Zfr G [(33, 0)] c c' ∧ zai c' k 0 i = some x := wt_si W h rfl h0 h1 hx
theorem gl_34 {G : List Nat} {c : Zc} {k : Nat} (W : Zwt zty G c) (h : G[k]? = some 34) : zlen c k 0 = some 70 := wt_len W h (.inl ⟨_, rfl⟩)
theorem ga_34 {G : List Nat} {c : Zc} {k : Nat} (W : Zwt zty G c) (h : G[k]? = some 34) {i : Int32} (h0 : 0 ≤ i.toInt) (h1 : i.toInt < 70) : ∃ x, zai c k 0 i = some x ∧ (rg 0 70) x := wt_ai W h rfl h0 h1
theorem pa_34 {G : List Nat} {c : Zc} {k : Nat} (W : Zwt zty G c) (h : G[k]? = some 34) {i : Int32} (h0 : 0 ≤ i.toInt) (h1 : i.toInt < 70) {x : Int32} (hx : (rg 0 70) x) : ∃ c', zsi c k 0 i x = some c' ∧ Zwt zty G c' ∧ Zfr G [(34, 0)] c c' ∧ zai c' k 0 i = some x := wt_si W h rfl h0 h1 hx
theorem gl_35 {G : List Nat} {c : Zc} {k : Nat} (W : Zwt zty G c) (h : G[k]? = some 35) : zlen c k 0 = some 202 := wt_len W h (.inl ⟨_, rfl⟩)
theorem ga_35 {G : List Nat} {c : Zc} {k : Nat} (W : Zwt zty G c) (h : G[k]? = some 35) {i : Int32} (h0 : 0 ≤ i.toInt) (h1 : i.toInt < 202) : ∃ x, zai c k 0 i = some x ∧ okCode x := wt_ai W h rfl h0 h1
theorem pa_35 {G : List Nat} {c : Zc} {k : Nat} (W : Zwt zty G c) (h : G[k]? = some 35) {i : Int32} (h0 : 0 ≤ i.toInt) (h1 : i.toInt < 202) {x : Int32} (hx : okCode x) : ∃ c', zsi c k 0 i x = some c' ∧ Zwt zty G c' ∧ Zfr G [(35, 0)] c c' ∧ zai c' k 0 i = some x := wt_si W h rfl h0 h1 hx
theorem gl_36 {G : List Nat} {c : Zc} {k : Nat} (W : Zwt zty G c) (h : G[k]? = some 36) : zlen c k 0 = some 8 := wt_len W h (.inl ⟨_, rfl⟩)
theorem ga_36 {G : List Nat} {c : Zc} {k : Nat} (W : Zwt zty G c) (h : G[k]? = some 36) {i : Int32} (h0 : 0 ≤ i.toInt) (h1 : i.toInt < 8) : ∃ x, zai c k 0 i = some x ∧ an x := wt_ai W h rfl h0 h1
theorem pa_36 {G : List Nat} {c : Zc} {k : Nat} (W : Zwt zty G c) (h : G[k]? = some 36) {i : Int32} (h0 : 0 ≤ i.toInt) (h1 : i.toInt < 8) {x : Int32} (hx : an x) : ∃ c', zsi c k 0 i x = some c' ∧ Zwt zty G c' ∧ Zfr G [(36, 0)] c c' ∧ zai c' k 0 i = some x := wt_si W h rfl h0 h1 hx
theorem gl_37 {G : List Nat} {c : Zc} {k : Nat} (W : Zwt zty G c) (h : G[k]? = some 37) : zlen c k 0 = some 8 := wt_len W h (.inl ⟨_, rfl⟩)
theorem ga_37 {G : List Nat} {c : Zc} {k : Nat} (W : Zwt zty G c) (h : G[k]? = some 37) {i : Int32} (h0 : 0 ≤ i.toInt) (h1 : i.toInt < 8) : ∃ x, zai c k 0 i = some x ∧ (rg 0 202) x := wt_ai W h rfl h0 h1
theorem pa_37 {G : List Nat} {c : Zc} {k : Nat} (W : Zwt zty G c) (h : G[k]? = some 37) {i : Int32} (h0 : 0 ≤ i.toInt) (h1 : i.toInt < 8) {x : Int32} (hx : (rg 0 202) x) : ∃ c', zsi c k 0 i x = some c' ∧ Zwt zty G c' ∧ Zfr G [(37, 0)] c c' ∧ zai c' k 0 i = some x := wt_si W h rfl h0 h1 hx
theorem gl_38 {G : List Nat} {c : Zc} {k : Nat} (W : Zwt zty G c) (h : G[k]? = some 38) : zlen c k 0 = some 202 := wt_len W h (.inl ⟨_, rfl⟩)
theorem ga_38 {G : List Nat} {c : Zc} {k : Nat} (W : Zwt zty G c) (h : G[k]? = some 38) {i : Int32} (h0 : 0 ≤ i.toInt) (h1 : i.toInt < 202) : ∃ x, zai c k 0 i = some x ∧ an x := wt_ai W h rfl h0 h1
theorem pa_38 {G : List Nat} {c : Zc} {k : Nat} (W : Zwt zty G c) (h : G[k]? = some 38) {i : Int32} (h0 : 0 ≤ i.toInt) (h1 : i.toInt < 202) {x : Int32} (hx : an x) : ∃ c', zsi c k 0 i x = some c' ∧ Zwt zty G c' ∧ Zfr G [(38, 0)] c c' ∧ zai c' k 0 i = some x := wt_si W h rfl h0 h1 hx
theorem gl_39 {G : List Nat} {c : Zc} {k : Nat} (W : Zwt zty G c) (h : G[k]? = some 39) : zlen c k 0 = some 202 := wt_len W h (.inl ⟨_, rfl⟩)
theorem ga_39 {G : List Nat} {c : Zc} {k : Nat} (W : Zwt zty G c) (h : G[k]? = some 39) {i : Int32} (h0 : 0 ≤ i.toInt) (h1 : i.toInt < 202) : ∃ x, zai c k 0 i = some x ∧ (rg (-1) 9999) x := wt_ai W h rfl h0 h1
theorem pa_39 {G : List Nat} {c : Zc} {k : Nat} (W : Zwt zty G c) (h : G[k]? = some 39) {i : Int32} (h0 : 0 ≤ i.toInt) (h1 : i.toInt < 202) {x : Int32} (hx : (rg (-1) 9999) x) : ∃ c', zsi c k 0 i x = some c' ∧ Zwt zty G c' ∧ Zfr G [(39, 0)] c c' ∧ zai c' k 0 i = some x := wt_si W h rfl h0 h1 hx
theorem gl_40 {G : List Nat} {c : Zc} {k : Nat} (W : Zwt zty G c) (h : G[k]? = some 40) : zlen c k 0 = some 202 := wt_len W h (.inl ⟨_, rfl⟩)
theorem ga_40 {G : List Nat} {c : Zc} {k : Nat} (W : Zwt zty G c) (h : G[k]? = some 40) {i : Int32} (h0 : 0 ≤ i.toInt) (h1 : i.toInt < 202) : ∃ x, zai c k 0 i = some x ∧ an x := wt_ai W h rfl h0 h1
theorem pa_40 {G : List Nat} {c : Zc} {k : Nat} (W : Zwt zty G c) (h : G[k]? = some 40) {i : Int32} (h0 : 0 ≤ i.toInt) (h1 : i.toInt < 202) {x : Int32} (hx : an x) : ∃ c', zsi c k 0 i x = some c' ∧ Zwt zty G c' ∧ Zfr G [(40, 0)] c c' ∧ zai c' k 0 i = some x := wt_si W h rfl h0 h1 hx
theorem gl_41 {G : List Nat} {c : Zc} {k : Nat} (W : Zwt zty G c) (h : G[k]? = some 41) : zlen c k 1 = some 0 := wt_len W h (.inl ⟨_, rfl⟩)
theorem ga_41 {G : List Nat} {c : Zc} {k : Nat} (W : Zwt zty G c) (h : G[k]? = some 41) {i : Int32} (h0 : 0 ≤ i.toInt) (h1 : i.toInt < 0) : ∃ x, zai c k 1 i = some x ∧ an x := wt_ai W h rfl h0 h1
theorem pa_41 {G : List Nat} {c : Zc} {k : Nat} (W : Zwt zty G c) (h : G[k]? = some 41) {i : Int32} (h0 : 0 ≤ i.toInt) (h1 : i.toInt < 0) {x : Int32} (hx : an x) : ∃ c', zsi c k 1 i x = some c' ∧ Zwt zty G c' ∧ Zfr G [(41, 0)] c c' ∧ zai c' k 1 i = some x := wt_si W h rfl h0 h1 hx
theorem gl_42 {G : List Nat} {c : Zc} {k : Nat} (W : Zwt zty G c) (h : G[k]? = some 42) : zlen c k 1 = some 1500 := wt_len W h (.inl ⟨_, rfl⟩)
theorem ga_42 {G : List Nat} {c : Zc} {k : Nat} (W : Zwt zty G c) (h : G[k]? = some 42) {i : Int32} (h0 : 0 ≤ i.toInt) (h1 : i.toInt < 1500) : ∃ x, zai c k 1 i = some x ∧ an x := wt_ai W h rfl h0 h1
theorem pa_42 {G : List Nat} {c : Zc} {k : Nat} (W : Zwt zty G c) (h : G[k]? = some 42) {i : Int32} (h0 : 0 ≤ i.toInt) (h1 : i.toInt < 1500) {x : Int32} (hx : an x) : ∃ c', zsi c k 1 i x = some c' ∧ Zwt zty G c' ∧ Zfr G [(42, 0)] c c' ∧ zai c' k 1 i = some x := wt_si W h rfl h0 h1 hx
theorem gl_43 {G : List Nat} {c : Zc} {k : Nat} (W : Zwt zty G c) (h : G[k]? = some 43) : zlen c k 0 = some 80 := wt_len W h (.inl ⟨_, rfl⟩)
theorem ga_43 {G : List Nat} {c : Zc} {k : Nat} (W : Zwt zty G c) (h : G[k]? = some 43) {i : Int32} (h0 : 0 ≤ i.toInt) (h1 : i.toInt < 80) : ∃ x, zai c k 0 i = some x ∧ an x := wt_ai W h rfl h0 h1
theorem pa_43 {G : List Nat} {c : Zc} {k : Nat} (W : Zwt zty G c) (h : G[k]? = some 43) {i : Int32} (h0 : 0 ≤ i.toInt) (h1 : i.toInt < 80) {x : Int32} (hx : an x) : ∃ c', zsi c k 0 i x = some c' ∧ Zwt zty G c' ∧ Zfr G [(43, 0)] c c' ∧ zai c' k 0 i = some x := wt_si W h rfl h0 h1 hx
theorem gl_44 {G : List Nat} {c : Zc} {k : Nat} (W : Zwt zty G c) (h : G[k]? = some 44) : zlen c k 0 = some 80 := wt_len W h (.inl ⟨_, rfl⟩)
theorem ga_44 {G : List Nat} {c : Zc} {k : Nat} (W : Zwt zty G c) (h : G[k]? = some 44) {i : Int32} (h0 : 0 ≤ i.toInt) (h1 : i.toInt < 80) : ∃ x, zai c k 0 i = some x ∧ okOp x := wt_ai W h rfl h0 h1
theorem pa_44 {G : List Nat} {c : Zc} {k : Nat} (W : Zwt zty G c) (h : G[k]? = some 44) {i : Int32} (h0 : 0 ≤ i.toInt) (h1 : i.toInt < 80) {x : Int32} (hx : okOp x) : ∃ c', zsi c k 0 i x = some c' ∧ Zwt zty G c' ∧ Zfr G [(44, 0)] c c' ∧ zai c' k 0 i = some x := wt_si W h rfl h0 h1 hx
theorem gl_45 {G : List Nat} {c : Zc} {k : Nat} (W : Zwt zty G c) (h : G[k]? = some 45) : zlen c k 0 = some 80 := wt_len W h (.inl ⟨_, rfl⟩)
theorem ga_45 {G : List Nat} {c : Zc} {k : Nat} (W : Zwt zty G c) (h : G[k]? = some 45) {i : Int32} (h0 : 0 ≤ i.toInt) (h1 : i.toInt < 80) : ∃ x, zai c k 0 i = some x ∧ an x := wt_ai W h rfl h0 h1
theorem pa_45 {G : List Nat} {c : Zc} {k : Nat} (W : Zwt zty G c) (h : G[k]? = some 45) {i : Int32} (h0 : 0 ≤ i.toInt) (h1 : i.toInt < 80) {x : Int32} (hx : an x) : ∃ c', zsi c k 0 i x = some c' ∧ Zwt zty G c' ∧ Zfr G [(45, 0)] c c' ∧ zai c' k 0 i = some x := wt_si W h rfl h0 h1 hx
theorem gl_46 {G : List Nat} {c : Zc} {k : Nat} (W : Zwt zty G c) (h : G[k]? = some 46) : zlen c k 0 = some 66 := wt_len W h (.inl ⟨_, rfl⟩)
theorem ga_46 {G : List Nat} {c : Zc} {k : Nat} (W : Zwt zty G c) (h : G[k]? = some 46) {i : Int32} (h0 : 0 ≤ i.toInt) (h1 : i.toInt < 66) : ∃ x, zai c k 0 i = some x ∧ (rg (-1) 7) x := wt_ai W h rfl h0 h1
theorem pa_46 {G : List Nat} {c : Zc} {k : Nat} (W : Zwt zty G c) (h : G[k]? = some 46) {i : Int32} (h0 : 0 ≤ i.toInt) (h1 : i.toInt < 66) {x : Int32} (hx : (rg (-1) 7) x) : ∃ c', zsi c k 0 i x = some c' ∧ Zwt zty G c' ∧ Zfr G [(46, 0)] c c' ∧ zai c' k 0 i = some x := wt_si W h rfl h0 h1 hx
theorem gl_47 {G : List Nat} {c : Zc} {k : Nat} (W : Zwt zty G c) (h : G[k]? = some 47) : zlen c k 0 = some 8 := wt_len W h (.inl ⟨_, rfl⟩)
theorem ga_47 {G : List Nat} {c : Zc} {k : Nat} (W : Zwt zty G c) (h : G[k]? = some 47) {i : Int32} (h0 : 0 ≤ i.toInt) (h1 : i.toInt < 8) : ∃ x, zai c k 0 i = some x ∧ (rg 0 15) x := wt_ai W h rfl h0 h1
theorem pa_47 {G : List Nat} {c : Zc} {k : Nat} (W : Zwt zty G c) (h : G[k]? = some 47) {i : Int32} (h0 : 0 ≤ i.toInt) (h1 : i.toInt < 8) {x : Int32} (hx : (rg 0 15) x) : ∃ c', zsi c k 0 i x = some c' ∧ Zwt zty G c' ∧ Zfr G [(47, 0)] c c' ∧ zai c' k 0 i = some x := wt_si W h rfl h0 h1 hx
theorem gl_48 {G : List Nat} {c : Zc} {k : Nat} (W : Zwt zty G c) (h : G[k]? = some 48) : zlen c k 0 = some 8 := wt_len W h (.inl ⟨_, rfl⟩)
theorem ga_48 {G : List Nat} {c : Zc} {k : Nat} (W : Zwt zty G c) (h : G[k]? = some 48) {i : Int32} (h0 : 0 ≤ i.toInt) (h1 : i.toInt < 8) : ∃ x, zai c k 0 i = some x ∧ (rg 0 7) x := wt_ai W h rfl h0 h1
theorem pa_48 {G : List Nat} {c : Zc} {k : Nat} (W : Zwt zty G c) (h : G[k]? = some 48) {i : Int32} (h0 : 0 ≤ i.toInt) (h1 : i.toInt < 8) {x : Int32} (hx : (rg 0 7) x) : ∃ c', zsi c k 0 i x = some c' ∧ Zwt zty G c' ∧ Zfr G [(48, 0)] c c' ∧ zai c' k 0 i = some x := wt_si W h rfl h0 h1 hx
theorem gl_49 {G : List Nat} {c : Zc} {k : Nat} (W : Zwt zty G c) (h : G[k]? = some 49) : zlen c k 0 = some 8 := wt_len W h (.inl ⟨_, rfl⟩)
theorem ga_49 {G : List Nat} {c : Zc} {k : Nat} (W : Zwt zty G c) (h : G[k]? = some 49) {i : Int32} (h0 : 0 ≤ i.toInt) (h1 : i.toInt < 8) : ∃ x, zai c k 0 i = some x ∧ an x := wt_ai W h rfl h0 h1
theorem pa_49 {G : List Nat} {c : Zc} {k : Nat} (W : Zwt zty G c) (h : G[k]? = some 49) {i : Int32} (h0 : 0 ≤ i.toInt) (h1 : i.toInt < 8) {x : Int32} (hx : an x) : ∃ c', zsi c k 0 i x = some c' ∧ Zwt zty G c' ∧ Zfr G [(49, 0)] c c' ∧ zai c' k 0 i = some x := wt_si W h rfl h0 h1 hx
theorem gl_50 {G : List Nat} {c : Zc} {k : Nat} (W : Zwt zty G c) (h : G[k]? = some 50) : zlen c k 0 = some 8 := wt_len W h (.inl ⟨_, rfl⟩)
theorem ga_50 {G : List Nat} {c : Zc} {k : Nat} (W : Zwt zty G c) (h : G[k]? = some 50) {i : Int32} (h0 : 0 ≤ i.toInt) (h1 : i.toInt < 8) : ∃ x, zai c k 0 i = some x ∧ (rg 0 65535) x := wt_ai W h rfl h0 h1
theorem pa_50 {G : List Nat} {c : Zc} {k : Nat} (W : Zwt zty G c) (h : G[k]? = some 50) {i : Int32} (h0 : 0 ≤ i.toInt) (h1 : i.toInt < 8) {x : Int32} (hx : (rg 0 65535) x) : ∃ c', zsi c k 0 i x = some c' ∧ Zwt zty G c' ∧ Zfr G [(50, 0)] c c' ∧ zai c' k 0 i = some x := wt_si W h rfl h0 h1 hx
theorem gl_51 {G : List Nat} {c : Zc} {k : Nat} (W : Zwt zty G c) (h : G[k]? = some 51) : zlen c k 0 = some 80 := wt_len W h (.inl ⟨_, rfl⟩)
theorem ga_51 {G : List Nat} {c : Zc} {k : Nat} (W : Zwt zty G c) (h : G[k]? = some 51) {i : Int32} (h0 : 0 ≤ i.toInt) (h1 : i.toInt < 80) : ∃ x, zai c k 0 i = some x ∧ an x := wt_ai W h rfl h0 h1
theorem pa_51 {G : List Nat} {c : Zc} {k : Nat} (W : Zwt zty G c) (h : G[k]? = some 51) {i : Int32} (h0 : 0 ≤ i.toInt) (h1 : i.toInt < 80) {x : Int32} (hx : an x) : ∃ c', zsi c k 0 i x = some c' ∧ Zwt zty G c' ∧ Zfr G [(51, 0)] c c' ∧ zai c' k 0 i = some x := wt_si W h rfl h0 h1 hx
theorem gl_52 {G : List Nat} {c : Zc} {k : Nat} (W : Zwt zty G c) (h : G[k]? = some 52) : zlen c k 0 = some 16 := wt_len W h (.inl ⟨_, rfl⟩)
theorem ga_52 {G : List Nat} {c : Zc} {k : Nat} (W : Zwt zty G c) (h : G[k]? = some 52) {i : Int32} (h0 : 0 ≤ i.toInt) (h1 : i.toInt < 16) : ∃ x, zai c k 0 i = some x ∧ an x := wt_ai W h rfl h0 h1
theorem pa_52 {G : List Nat} {c : Zc} {k : Nat} (W : Zwt zty G c) (h : G[k]? = some 52) {i : Int32} (h0 : 0 ≤ i.toInt) (h1 : i.toInt < 16) {x : Int32} (hx : an x) : ∃ c', zsi c k 0 i x = some c' ∧ Zwt zty G c' ∧ Zfr G [(52, 0)] c c' ∧ zai c' k 0 i = some x := wt_si W h rfl h0 h1 hx
theorem gl_53 {G : List Nat} {c : Zc} {k : Nat} (W : Zwt zty G c) (h : G[k]? = some 53) : zlen c k 0 = some 16 := wt_len W h (.inl ⟨_, rfl⟩)
theorem ga_53 {G : List Nat} {c : Zc} {k : Nat} (W : Zwt zty G c) (h : G[k]? = some 53) {i : Int32} (h0 : 0 ≤ i.toInt) (h1 : i.toInt < 16) : ∃ x, zai c k 0 i = some x ∧ an x := wt_ai W h rfl h0 h1
theorem pa_53 {G : List Nat} {c : Zc} {k : Nat} (W : Zwt zty G c) (h : G[k]? = some 53) {i : Int32} (h0 : 0 ≤ i.toInt) (h1 : i.toInt < 16) {x : Int32} (hx : an x) : ∃ c', zsi c k 0 i x = some c' ∧ Zwt zty G c' ∧ Zfr G [(53, 0)] c c' ∧ zai c' k 0 i = some x := wt_si W h rfl h0 h1 hx
theorem gl_54 {G : List Nat} {c : Zc} {k : Nat} (W : Zwt zty G c) (h : G[k]? = some 54) : zlen c k 0 = some 16 := wt_len W h (.inl ⟨_, rfl⟩)
theorem ga_54 {G : List Nat} {c : Zc} {k : Nat} (W : Zwt zty G c) (h : G[k]? = some 54) {i : Int32} (h0 : 0 ≤ i.toInt) (h1 : i.toInt < 16) : ∃ x, zai c k 0 i = some x ∧ an x := wt_ai W h rfl h0 h1
theorem pa_54 {G : List Nat} {c : Zc} {k : Nat} (W : Zwt zty G c) (h : G[k]? = some 54) {i : Int32} (h0 : 0 ≤ i.toInt) (h1 : i.toInt < 16) {x : Int32} (hx : an x) : ∃ c', zsi c k 0 i x = some c' ∧ Zwt zty G c' ∧ Zfr G [(54, 0)] c c' ∧ zai c' k 0 i = some x := wt_si W h rfl h0 h1 hx
theorem gl_55 {G : List Nat} {c : Zc} {k : Nat} (W : Zwt zty G c) (h : G[k]? = some 55) : zlen c k 4 = some 4 := wt_len W h (.inr (.inr ⟨_, rfl⟩))
theorem ga_55 {G : List Nat} {c : Zc} {k : Nat} (W : Zwt zty G c) (h : G[k]? = some 55) {i : Int32} (h0 : 0 ≤ i.toInt) (h1 : i.toInt < 4) : ∃ x, zar c k 4 i = some x ∧ G[x]? = some 3 := wt_ar W h rfl h0 h1
theorem pa_55 {G : List Nat} {c : Zc} {k : Nat} (W : Zwt zty G c) (h : G[k]? = some 55) {i : Int32} (h0 : 0 ≤ i.toInt) (h1 : i.toInt < 4) {x : Nat} (hx : G[x]? = some 3) : ∃ c', zsr c k 4 2 i x = some c' ∧ Zwt zty G c' ∧ Zfr G [(55, 0)] c c' ∧ zar c' k 4 i = some x := wt_sr W h rfl h0 h1 hx (List.mem_singleton.mpr rfl) rfl
theorem gl_56 {G : List Nat} {c : Zc} {k : Nat} (W : Zwt zty G c) (h : G[k]? = some 56) : zlen c k 0 = some 64 := wt_len W h (.inl ⟨_, rfl⟩)
theorem ga_56 {G : List Nat} {c : Zc} {k : Nat} (W : Zwt zty G c) (h : G[k]? = some 56) {i : Int32} (h0 : 0 ≤ i.toInt) (h1 : i.toInt < 64) : ∃ x, zai c k 0 i = some x ∧ an x := wt_ai W h rfl h0 h1
theorem pa_56 {G : List Nat} {c : Zc} {k : Nat} (W : Zwt zty G c) (h : G[k]? = some 56) {i : Int32} (h0 : 0 ≤ i.toInt) (h1 : i.toInt < 64) {x : Int32} (hx : an x) : ∃ c', zsi c k 0 i x = some c' ∧ Zwt zty G c' ∧ Zfr G [(56, 0)] c c' ∧ zai c' k 0 i = some x := wt_si W h rfl h0 h1 hx
theorem gl_59 {G : List Nat} {c : Zc} {k : Nat} (W : Zwt zty G c) (h : G[k]? = some 59) : zlen c k 2 = some 8 := wt_len W h (.inr (.inl rfl))
theorem ga_59 {G : List Nat} {c : Zc} {k : Nat} (W : Zwt zty G c) (h : G[k]? = some 59) {i : Int32} (h0 : 0 ≤ i.toInt) (h1 : i.toInt < 8) : ∃ x, zal c k 2 i = some x := wt_al W h rfl h0 h1
theorem pa_59 {G : List Nat} {c : Zc} {k : Nat} (W : Zwt zty G c) (h : G[k]? = some 59) {i : Int32} (h0 : 0 ≤ i.toInt) (h1 : i.toInt < 8) (x : Int64) : ∃ c', zsl c k 2 i x = some c' ∧ Zwt zty G c' ∧ Zfr G [(59, 0)] c c' ∧ zal c' k 2 i = some x := wt_sl W h rfl h0 h1
theorem gl_60 {G : List Nat} {c : Zc} {k : Nat} (W : Zwt zty G c) (h : G[k]? = some 60) : zlen c k 4 = some 4 := wt_len W h (.inr (.inr ⟨_, rfl⟩))
theorem ga_60 {G : List Nat} {c : Zc} {k : Nat} (W : Zwt zty G c) (h : G[k]? = some 60) {i : Int32} (h0 : 0 ≤ i.toInt) (h1 : i.toInt < 4) : ∃ x, zar c k 4 i = some x ∧ G[x]? = some 3 := wt_ar W h rfl h0 h1
theorem pa_60 {G : List Nat} {c : Zc} {k : Nat} (W : Zwt zty G c) (h : G[k]? = some 60) {i : Int32} (h0 : 0 ≤ i.toInt) (h1 : i.toInt < 4) {x : Nat} (hx : G[x]? = some 3) : ∃ c', zsr c k 4 2 i x = some c' ∧ Zwt zty G c' ∧ Zfr G [(60, 0)] c c' ∧ zar c' k 4 i = some x := wt_sr W h rfl h0 h1 hx (List.mem_singleton.mpr rfl) rfl
theorem gl_62 {G : List Nat} {c : Zc} {k : Nat} (W : Zwt zty G c) (h : G[k]? = some 62) : zlen c k 0 = some 4 := wt_len W h (.inl ⟨_, rfl⟩)
theorem ga_62 {G : List Nat} {c : Zc} {k : Nat} (W : Zwt zty G c) (h : G[k]? = some 62) {i : Int32} (h0 : 0 ≤ i.toInt) (h1 : i.toInt < 4) : ∃ x, zai c k 0 i = some x ∧ an x := wt_ai W h rfl h0 h1
theorem pa_62 {G : List Nat} {c : Zc} {k : Nat} (W : Zwt zty G c) (h : G[k]? = some 62) {i : Int32} (h0 : 0 ≤ i.toInt) (h1 : i.toInt < 4) {x : Int32} (hx : an x) : ∃ c', zsi c k 0 i x = some c' ∧ Zwt zty G c' ∧ Zfr G [(62, 0)] c c' ∧ zai c' k 0 i = some x := wt_si W h rfl h0 h1 hx
theorem gl_65 {G : List Nat} {c : Zc} {k : Nat} (W : Zwt zty G c) (h : G[k]? = some 65) : zlen c k 0 = some 16 := wt_len W h (.inl ⟨_, rfl⟩)
theorem ga_65 {G : List Nat} {c : Zc} {k : Nat} (W : Zwt zty G c) (h : G[k]? = some 65) {i : Int32} (h0 : 0 ≤ i.toInt) (h1 : i.toInt < 16) : ∃ x, zai c k 0 i = some x ∧ (rg 0 255) x := wt_ai W h rfl h0 h1
theorem pa_65 {G : List Nat} {c : Zc} {k : Nat} (W : Zwt zty G c) (h : G[k]? = some 65) {i : Int32} (h0 : 0 ≤ i.toInt) (h1 : i.toInt < 16) {x : Int32} (hx : (rg 0 255) x) : ∃ c', zsi c k 0 i x = some c' ∧ Zwt zty G c' ∧ Zfr G [(65, 0)] c c' ∧ zai c' k 0 i = some x := wt_si W h rfl h0 h1 hx
theorem gl_66 {G : List Nat} {c : Zc} {k : Nat} (W : Zwt zty G c) (h : G[k]? = some 66) : zlen c k 0 = some 64 := wt_len W h (.inl ⟨_, rfl⟩)
theorem ga_66 {G : List Nat} {c : Zc} {k : Nat} (W : Zwt zty G c) (h : G[k]? = some 66) {i : Int32} (h0 : 0 ≤ i.toInt) (h1 : i.toInt < 64) : ∃ x, zai c k 0 i = some x ∧ (rg (-9999) 9999) x := wt_ai W h rfl h0 h1
theorem pa_66 {G : List Nat} {c : Zc} {k : Nat} (W : Zwt zty G c) (h : G[k]? = some 66) {i : Int32} (h0 : 0 ≤ i.toInt) (h1 : i.toInt < 64) {x : Int32} (hx : (rg (-9999) 9999) x) : ∃ c', zsi c k 0 i x = some c' ∧ Zwt zty G c' ∧ Zfr G [(66, 0)] c c' ∧ zai c' k 0 i = some x := wt_si W h rfl h0 h1 hx
theorem gl_67 {G : List Nat} {c : Zc} {k : Nat} (W : Zwt zty G c) (h : G[k]? = some 67) : zlen c k 6 = some 100 := wt_len W h (.inl ⟨_, rfl⟩)
theorem ga_67 {G : List Nat} {c : Zc} {k : Nat} (W : Zwt zty G c) (h : G[k]? = some 67) {i : Int32} (h0 : 0 ≤ i.toInt) (h1 : i.toInt < 100) : ∃ x, zai c k 6 i = some x ∧ (rg 0 1) x := wt_ai W h rfl h0 h1
theorem pa_67 {G : List Nat} {c : Zc} {k : Nat} (W : Zwt zty G c) (h : G[k]? = some 67) {i : Int32} (h0 : 0 ≤ i.toInt) (h1 : i.toInt < 100) {x : Int32} (hx : (rg 0 1) x) : ∃ c', zsi c k 6 i x = some c' ∧ Zwt zty G c' ∧ Zfr G [(67, 0)] c c' ∧ zai c' k 6 i = some x := wt_si W h rfl h0 h1 hx
theorem gl_68 {G : List Nat} {c : Zc} {k : Nat} (W : Zwt zty G c) (h : G[k]? = some 68) : zlen c k 0 = some 100 := wt_len W h (.inl ⟨_, rfl⟩)
theorem ga_68 {G : List Nat} {c : Zc} {k : Nat} (W : Zwt zty G c) (h : G[k]? = some 68) {i : Int32} (h0 : 0 ≤ i.toInt) (h1 : i.toInt < 100) : ∃ x, zai c k 0 i = some x ∧ (rg 0 15) x := wt_ai W h rfl h0 h1
theorem pa_68 {G : List Nat} {c : Zc} {k : Nat} (W : Zwt zty G c) (h : G[k]? = some 68) {i : Int32} (h0 : 0 ≤ i.toInt) (h1 : i.toInt < 100) {x : Int32} (hx : (rg 0 15) x) : ∃ c', zsi c k 0 i x = some c' ∧ Zwt zty G c' ∧ Zfr G [(68, 0)] c c' ∧ zai c' k 0 i = some x := wt_si W h rfl h0 h1 hx
theorem gl_69 {G : List Nat} {c : Zc} {k : Nat} (W : Zwt zty G c) (h : G[k]? = some 69) : zlen c k 0 = some 100 := wt_len W h (.inl ⟨_, rfl⟩)
theorem ga_69 {G : List Nat} {c : Zc} {k : Nat} (W : Zwt zty G c) (h : G[k]? = some 69) {i : Int32} (h0 : 0 ≤ i.toInt) (h1 : i.toInt < 100) : ∃ x, zai c k 0 i = some x ∧ (rg 0 15) x := wt_ai W h rfl h0 h1
theorem pa_69 {G : List Nat} {c : Zc} {k : Nat} (W : Zwt zty G c) (h : G[k]? = some 69) {i : Int32} (h0 : 0 ≤ i.toInt) (h1 : i.toInt < 100) {x : Int32} (hx : (rg 0 15) x) : ∃ c', zsi c k 0 i x = some c' ∧ Zwt zty G c' ∧ Zfr G [(69, 0)] c c' ∧ zai c' k 0 i = some x := wt_si W h rfl h0 h1 hx
theorem gl_70 {G : List Nat} {c : Zc} {k : Nat} (W : Zwt zty G c) (h : G[k]? = some 70) : zlen c k 0 = some 100 := wt_len W h (.inl ⟨_, rfl⟩)
theorem ga_70 {G : List Nat} {c : Zc} {k : Nat} (W : Zwt zty G c) (h : G[k]? = some 70) {i : Int32} (h0 : 0 ≤ i.toInt) (h1 : i.toInt < 100) : ∃ x, zai c k 0 i = some x ∧ (rg 0 7) x := wt_ai W h rfl h0 h1
theorem pa_70 {G : List Nat} {c : Zc} {k : Nat} (W : Zwt zty G c) (h : G[k]? = some 70) {i : Int32} (h0 : 0 ≤ i.toInt) (h1 : i.toInt < 100) {x : Int32} (hx : (rg 0 7) x) : ∃ c', zsi c k 0 i x = some c' ∧ Zwt zty G c' ∧ Zfr G [(70, 0)] c c' ∧ zai c' k 0 i = some x := wt_si W h rfl h0 h1 hx
theorem gl_71 {G : List Nat} {c : Zc} {k : Nat} (W : Zwt zty G c) (h : G[k]? = some 71) : zlen c k 0 = some 100 := wt_len W h (.inl ⟨_, rfl⟩)
theorem ga_71 {G : List Nat} {c : Zc} {k : Nat} (W : Zwt zty G c) (h : G[k]? = some 71) {i : Int32} (h0 : 0 ≤ i.toInt) (h1 : i.toInt < 100) : ∃ x, zai c k 0 i = some x ∧ (rg 0 99) x := wt_ai W h rfl h0 h1
theorem pa_71 {G : List Nat} {c : Zc} {k : Nat} (W : Zwt zty G c) (h : G[k]? = some 71) {i : Int32} (h0 : 0 ≤ i.toInt) (h1 : i.toInt < 100) {x : Int32} (hx : (rg 0 99) x) : ∃ c', zsi c k 0 i x = some c' ∧ Zwt zty G c' ∧ Zfr G [(71, 0)] c c' ∧ zai c' k 0 i = some x := wt_si W h rfl h0 h1 hx
theorem gl_72 {G : List Nat} {c : Zc} {k : Nat} (W : Zwt zty G c) (h : G[k]? = some 72) : zlen c k 0 = some 3328 := wt_len W h (.inl ⟨_, rfl⟩)
theorem ga_72 {G : List Nat} {c : Zc} {k : Nat} (W : Zwt zty G c) (h : G[k]? = some 72) {i : Int32} (h0 : 0 ≤ i.toInt) (h1 : i.toInt < 3328) : ∃ x, zai c k 0 i = some x ∧ an x := wt_ai W h rfl h0 h1
theorem pa_72 {G : List Nat} {c : Zc} {k : Nat} (W : Zwt zty G c) (h : G[k]? = some 72) {i : Int32} (h0 : 0 ≤ i.toInt) (h1 : i.toInt < 3328) {x : Int32} (hx : an x) : ∃ c', zsi c k 0 i x = some c' ∧ Zwt zty G c' ∧ Zfr G [(72, 0)] c c' ∧ zai c' k 0 i = some x := wt_si W h rfl h0 h1 hx
theorem gl_73 {G : List Nat} {c : Zc} {k : Nat} (W : Zwt zty G c) (h : G[k]? = some 73) : zlen c k 1 = some 1500 := wt_len W h (.inl ⟨_, rfl⟩)
theorem ga_73 {G : List Nat} {c : Zc} {k : Nat} (W : Zwt zty G c) (h : G[k]? = some 73) {i : Int32} (h0 : 0 ≤ i.toInt) (h1 : i.toInt < 1500) : ∃ x, zai c k 1 i = some x ∧ an x := wt_ai W h rfl h0 h1
theorem pa_73 {G : List Nat} {c : Zc} {k : Nat} (W : Zwt zty G c) (h : G[k]? = some 73) {i : Int32} (h0 : 0 ≤ i.toInt) (h1 : i.toInt < 1500) {x : Int32} (hx : an x) : ∃ c', zsi c k 1 i x = some c' ∧ Zwt zty G c' ∧ Zfr G [(73, 0)] c c' ∧ zai c' k 1 i = some x := wt_si W h rfl h0 h1 hx
theorem gl_74 {G : List Nat} {c : Zc} {k : Nat} (W : Zwt zty G c) (h : G[k]? = some 74) : zlen c k 0 = some 1502 := wt_len W h (.inl ⟨_, rfl⟩)
theorem ga_74 {G : List Nat} {c : Zc} {k : Nat} (W : Zwt zty G c) (h : G[k]? = some 74) {i : Int32} (h0 : 0 ≤ i.toInt) (h1 : i.toInt < 1502) : ∃ x, zai c k 0 i = some x ∧ an x := wt_ai W h rfl h0 h1
theorem pa_74 {G : List Nat} {c : Zc} {k : Nat} (W : Zwt zty G c) (h : G[k]? = some 74) {i : Int32} (h0 : 0 ≤ i.toInt) (h1 : i.toInt < 1502) {x : Int32} (hx : an x) : ∃ c', zsi c k 0 i x = some c' ∧ Zwt zty G c' ∧ Zfr G [(74, 0)] c c' ∧ zai c' k 0 i = some x := wt_si W h rfl h0 h1 hx
theorem gl_75 {G : List Nat} {c : Zc} {k : Nat} (W : Zwt zty G c) (h : G[k]? = some 75) : zlen c k 0 = some 1502 := wt_len W h (.inl ⟨_, rfl⟩)
theorem ga_75 {G : List Nat} {c : Zc} {k : Nat} (W : Zwt zty G c) (h : G[k]? = some 75) {i : Int32} (h0 : 0 ≤ i.toInt) (h1 : i.toInt < 1502) : ∃ x, zai c k 0 i = some x ∧ an x := wt_ai W h rfl h0 h1
theorem pa_75 {G : List Nat} {c : Zc} {k : Nat} (W : Zwt zty G c) (h : G[k]? = some 75) {i : Int32} (h0 : 0 ≤ i.toInt) (h1 : i.toInt < 1502) {x : Int32} (hx : an x) : ∃ c', zsi c k 0 i x = some c' ∧ Zwt zty G c' ∧ Zfr G [(75, 0)] c c' ∧ zai c' k 0 i = some x := wt_si W h rfl h0 h1 hx
theorem gl_76 {G : List Nat} {c : Zc} {k : Nat} (W : Zwt zty G c) (h : G[k]? = some 76) : zlen c k 0 = some 1502 := wt_len W h (.inl ⟨_, rfl⟩)
theorem ga_76 {G : List Nat} {c : Zc} {k : Nat} (W : Zwt zty G c) (h : G[k]? = some 76) {i : Int32} (h0 : 0 ≤ i.toInt) (h1 : i.toInt < 1502) : ∃ x, zai c k 0 i = some x ∧ an x := wt_ai W h rfl h0 h1
theorem pa_76 {G : List Nat} {c : Zc} {k : Nat} (W : Zwt zty G c) (h : G[k]? = some 76) {i : Int32} (h0 : 0 ≤ i.toInt) (h1 : i.toInt < 1502) {x : Int32} (hx : an x) : ∃ c', zsi c k 0 i x = some c' ∧ Zwt zty G c' ∧ Zfr G [(76, 0)] c c' ∧ zai c' k 0 i = some x := wt_si W h rfl h0 h1 hx
theorem gl_77 {G : List Nat} {c : Zc} {k : Nat} (W : Zwt zty G c) (h : G[k]? = some 77) : zlen c k 0 = some 8 := wt_len W h (.inl ⟨_, rfl⟩)
theorem ga_77 {G : List Nat} {c : Zc} {k : Nat} (W : Zwt zty G c) (h : G[k]? = some 77) {i : Int32} (h0 : 0 ≤ i.toInt) (h1 : i.toInt < 8) : ∃ x, zai c k 0 i = some x ∧ (rg 0 8) x := wt_ai W h rfl h0 h1
theorem pa_77 {G : List Nat} {c : Zc} {k : Nat} (W : Zwt zty G c) (h : G[k]? = some 77) {i : Int32} (h0 : 0 ≤ i.toInt) (h1 : i.toInt < 8) {x : Int32} (hx : (rg 0 8) x) : ∃ c', zsi c k 0 i x = some c' ∧ Zwt zty G c' ∧ Zfr G [(77, 0)] c c' ∧ zai c' k 0 i = some x := wt_si W h rfl h0 h1 hx
theorem gl_78 {G : List Nat} {c : Zc} {k : Nat} (W : Zwt zty G c) (h : G[k]? = some 78) : zlen c k 6 = some 8 := wt_len W h (.inl ⟨_, rfl⟩)
theorem ga_78 {G : List Nat} {c : Zc} {k : Nat} (W : Zwt zty G c) (h : G[k]? = some 78) {i : Int32} (h0 : 0 ≤ i.toInt) (h1 : i.toInt < 8) : ∃ x, zai c k 6 i = some x ∧ (rg 0 1) x := wt_ai W h rfl h0 h1
theorem pa_78 {G : List Nat} {c : Zc} {k : Nat} (W : Zwt zty G c) (h : G[k]? = some 78) {i : Int32} (h0 : 0 ≤ i.toInt) (h1 : i.toInt < 8) {x : Int32} (hx : (rg 0 1) x) : ∃ c', zsi c k 6 i x = some c' ∧ Zwt zty G c' ∧ Zfr G [(78, 0)] c c' ∧ zai c' k 6 i = some x := wt_si W h rfl h0 h1 hx
theorem gl_79 {G : List Nat} {c : Zc} {k : Nat} (W : Zwt zty G c) (h : G[k]? = some 79) : zlen c k 0 = some 9 := wt_len W h (.inl ⟨_, rfl⟩)
theorem ga_79 {G : List Nat} {c : Zc} {k : Nat} (W : Zwt zty G c) (h : G[k]? = some 79) {i : Int32} (h0 : 0 ≤ i.toInt) (h1 : i.toInt < 9) : ∃ x, zai c k 0 i = some x ∧ (rg 0 8) x := wt_ai W h rfl h0 h1
theorem pa_79 {G : List Nat} {c : Zc} {k : Nat} (W : Zwt zty G c) (h : G[k]? = some 79) {i : Int32} (h0 : 0 ≤ i.toInt) (h1 : i.toInt < 9) {x : Int32} (hx : (rg 0 8) x) : ∃ c', zsi c k 0 i x = some c' ∧ Zwt zty G c' ∧ Zfr G [(79, 0)] c c' ∧ zai c' k 0 i = some x := wt_si W h rfl h0 h1 hx
theorem gl_80 {G : List Nat} {c : Zc} {k : Nat} (W : Zwt zty G c) (h : G[k]? = some 80) : zlen c k 0 = some 9 := wt_len W h (.inl ⟨_, rfl⟩)
theorem ga_80 {G : List Nat} {c : Zc} {k : Nat} (W : Zwt zty G c) (h : G[k]? = some 80) {i : Int32} (h0 : 0 ≤ i.toInt) (h1 : i.toInt < 9) : ∃ x, zai c k 0 i = some x ∧ (rg 0 8) x := wt_ai W h rfl h0 h1
theorem pa_80 {G : List Nat} {c : Zc} {k : Nat} (W : Zwt zty G c) (h : G[k]? = some 80) {i : Int32} (h0 : 0 ≤ i.toInt) (h1 : i.toInt < 9) {x : Int32} (hx : (rg 0 8) x) : ∃ c', zsi c k 0 i x = some c' ∧ Zwt zty G c' ∧ Zfr G [(80, 0)] c c' ∧ zai c' k 0 i = some x := wt_si W h rfl h0 h1 hx
theorem gl_81 {G : List Nat} {c : Zc} {k : Nat} (W : Zwt zty G c) (h : G[k]? = some 81) : zlen c k 0 = some 9 := wt_len W h (.inl ⟨_, rfl⟩)
theorem ga_81 {G : List Nat} {c : Zc} {k : Nat} (W : Zwt zty G c) (h : G[k]? = some 81) {i : Int32} (h0 : 0 ≤ i.toInt) (h1 : i.toInt < 9) : ∃ x, zai c k 0 i = some x ∧ (rg 0 79) x := wt_ai W h rfl h0 h1
theorem pa_81 {G : List Nat} {c : Zc} {k : Nat} (W : Zwt zty G c) (h : G[k]? = some 81) {i : Int32} (h0 : 0 ≤ i.toInt) (h1 : i.toInt < 9) {x : Int32} (hx : (rg 0 79) x) : ∃ c', zsi c k 0 i x = some c' ∧ Zwt zty G c' ∧ Zfr G [(81, 0)] c c' ∧ zai c' k 0 i = some x := wt_si W h rfl h0 h1 hx
theorem gl_82 {G : List Nat} {c : Zc} {k : Nat} (W : Zwt zty G c) (h : G[k]? = some 82) : zlen c k 0 = some 72 := wt_len W h (.inl ⟨_, rfl⟩)
theorem ga_82 {G : List Nat} {c : Zc} {k : Nat} (W : Zwt zty G c) (h : G[k]? = some 82) {i : Int32} (h0 : 0 ≤ i.toInt) (h1 : i.toInt < 72) : ∃ x, zai c k 0 i = some x ∧ an x := wt_ai W h rfl h0 h1
theorem pa_82 {G : List Nat} {c : Zc} {k : Nat} (W : Zwt zty G c) (h : G[k]? = some 82) {i : Int32} (h0 : 0 ≤ i.toInt) (h1 : i.toInt < 72) {x : Int32} (hx : an x) : ∃ c', zsi c k 0 i x = some c' ∧ Zwt zty G c' ∧ Zfr G [(82, 0)] c c' ∧ zai c' k 0 i = some x := wt_si W h rfl h0 h1 hx
theorem gl_83 {G : List Nat} {c : Zc} {k : Nat} (W : Zwt zty G c) (h : G[k]? = some 83) : zlen c k 0 = some 5760 := wt_len W h (.inl ⟨_, rfl⟩)
theorem ga_83 {G : List Nat} {c : Zc} {k : Nat} (W : Zwt zty G c) (h : G[k]? = some 83) {i : Int32} (h0 : 0 ≤ i.toInt) (h1 : i.toInt < 5760) : ∃ x, zai c k 0 i = some x ∧ an x := wt_ai W h rfl h0 h1
theorem pa_83 {G : List Nat} {c : Zc} {k : Nat} (W : Zwt zty G c) (h : G[k]? = some 83) {i : Int32} (h0 : 0 ≤ i.toInt) (h1 : i.toInt < 5760) {x : Int32} (hx : an x) : ∃ c', zsi c k 0 i x = some c' ∧ Zwt zty G c' ∧ Zfr G [(83, 0)] c c' ∧ zai c' k 0 i = some x := wt_si W h rfl h0 h1 hx
theorem gl_84 {G : List Nat} {c : Zc} {k : Nat} (W : Zwt zty G c) (h : G[k]? = some 84) : zlen c k 0 = some 9 := wt_len W h (.inl ⟨_, rfl⟩)
theorem ga_84 {G : List Nat} {c : Zc} {k : Nat} (W : Zwt zty G c) (h : G[k]? = some 84) {i : Int32} (h0 : 0 ≤ i.toInt) (h1 : i.toInt < 9) : ∃ x, zai c k 0 i = some x ∧ (rg 0 10) x := wt_ai W h rfl h0 h1
theorem pa_84 {G : List Nat} {c : Zc} {k : Nat} (W : Zwt zty G c) (h : G[k]? = some 84) {i : Int32} (h0 : 0 ≤ i.toInt) (h1 : i.toInt < 9) {x : Int32} (hx : (rg 0 10) x) : ∃ c', zsi c k 0 i x = some c' ∧ Zwt zty G c' ∧ Zfr G [(84, 0)] c c' ∧ zai c' k 0 i = some x := wt_si W h rfl h0 h1 hx
theorem gl_85 {G : List Nat} {c : Zc} {k : Nat} (W : Zwt zty G c) (h : G[k]? = some 85) : zlen c k 0 = some 99 := wt_len W h (.inl ⟨_, rfl⟩)
theorem ga_85 {G : List Nat} {c : Zc} {k : Nat} (W : Zwt zty G c) (h : G[k]? = some 85) {i : Int32} (h0 : 0 ≤ i.toInt) (h1 : i.toInt < 99) : ∃ x, zai c k 0 i = some x ∧ an x := wt_ai W h rfl h0 h1
theorem pa_85 {G : List Nat} {c : Zc} {k : Nat} (W : Zwt zty G c) (h : G[k]? = some 85) {i : Int32} (h0 : 0 ≤ i.toInt) (h1 : i.toInt < 99) {x : Int32} (hx : an x) : ∃ c', zsi c k 0 i x = some c' ∧ Zwt zty G c' ∧ Zfr G [(85, 0)] c c' ∧ zai c' k 0 i = some x := wt_si W h rfl h0 h1 hx
theorem gl_86 {G : List Nat} {c : Zc} {k : Nat} (W : Zwt zty G c) (h : G[k]? = some 86) : zlen c k 0 = some 99 := wt_len W h (.inl ⟨_, rfl⟩)
theorem ga_86 {G : List Nat} {c : Zc} {k : Nat} (W : Zwt zty G c) (h : G[k]? = some 86) {i : Int32} (h0 : 0 ≤ i.toInt) (h1 : i.toInt < 99) : ∃ x, zai c k 0 i = some x ∧ an x := wt_ai W h rfl h0 h1
theorem pa_86 {G : List Nat} {c : Zc} {k : Nat} (W : Zwt zty G c) (h : G[k]? = some 86) {i : Int32} (h0 : 0 ≤ i.toInt) (h1 : i.toInt < 99) {x : Int32} (hx : an x) : ∃ c', zsi c k 0 i x = some c' ∧ Zwt zty G c' ∧ Zfr G [(86, 0)] c c' ∧ zai c' k 0 i = some x := wt_si W h rfl h0 h1 hx
theorem gl_87 {G : List Nat} {c : Zc} {k : Nat} (W : Zwt zty G c) (h : G[k]? = some 87) : zlen c k 0 = some 99 := wt_len W h (.inl ⟨_, rfl⟩)
theorem ga_87 {G : List Nat} {c : Zc} {k : Nat} (W : Zwt zty G c) (h : G[k]? = some 87) {i : Int32} (h0 : 0 ≤ i.toInt) (h1 : i.toInt < 99) : ∃ x, zai c k 0 i = some x ∧ an x := wt_ai W h rfl h0 h1
theorem pa_87 {G : List Nat} {c : Zc} {k : Nat} (W : Zwt zty G c) (h : G[k]? = some 87) {i : Int32} (h0 : 0 ≤ i.toInt) (h1 : i.toInt < 99) {x : Int32} (hx : an x) : ∃ c', zsi c k 0 i x = some c' ∧ Zwt zty G c' ∧ Zfr G [(87, 0)] c c' ∧ zai c' k 0 i = some x := wt_si W h rfl h0 h1 hx
theorem gl_88 {G : List Nat} {c : Zc} {k : Nat} (W : Zwt zty G c) (h : G[k]? = some 88) : zlen c k 0 = some 99 := wt_len W h (.inl ⟨_, rfl⟩)
theorem ga_88 {G : List Nat} {c : Zc} {k : Nat} (W : Zwt zty G c) (h : G[k]? = some 88) {i : Int32} (h0 : 0 ≤ i.toInt) (h1 : i.toInt < 99) : ∃ x, zai c k 0 i = some x ∧ (rg (-1) 7) x := wt_ai W h rfl h0 h1
theorem pa_88 {G : List Nat} {c : Zc} {k : Nat} (W : Zwt zty G c) (h : G[k]? = some 88) {i : Int32} (h0 : 0 ≤ i.toInt) (h1 : i.toInt < 99) {x : Int32} (hx : (rg (-1) 7) x) : ∃ c', zsi c k 0 i x = some c' ∧ Zwt zty G c' ∧ Zfr G [(88, 0)] c c' ∧ zai c' k 0 i = some x := wt_si W h rfl h0 h1 hx
theorem gl_89 {G : List Nat} {c : Zc} {k : Nat} (W : Zwt zty G c) (h : G[k]? = some 89) : zlen c k 6 = some 99 := wt_len W h (.inl ⟨_, rfl⟩)
theorem ga_89 {G : List Nat} {c : Zc} {k : Nat} (W : Zwt zty G c) (h : G[k]? = some 89) {i : Int32} (h0 : 0 ≤ i.toInt) (h1 : i.toInt < 99) : ∃ x, zai c k 6 i = some x ∧ (rg 0 1) x := wt_ai W h rfl h0 h1
theorem pa_89 {G : List Nat} {c : Zc} {k : Nat} (W : Zwt zty G c) (h : G[k]? = some 89) {i : Int32} (h0 : 0 ≤ i.toInt) (h1 : i.toInt < 99) {x : Int32} (hx : (rg 0 1) x) : ∃ c', zsi c k 6 i x = some c' ∧ Zwt zty G c' ∧ Zfr G [(89, 0)] c c' ∧ zai c' k 6 i = some x := wt_si W h rfl h0 h1 hx
theorem gl_90 {G : List Nat} {c : Zc} {k : Nat} (W : Zwt zty G c) (h : G[k]? = some 90) : zlen c k 0 = some 99 := wt_len W h (.inl ⟨_, rfl⟩)
theorem ga_90 {G : List Nat} {c : Zc} {k : Nat} (W : Zwt zty G c) (h : G[k]? = some 90) {i : Int32} (h0 : 0 ≤ i.toInt) (h1 : i.toInt < 99) : ∃ x, zai c k 0 i = some x ∧ an x := wt_ai W h rfl h0 h1
theorem pa_90 {G : List Nat} {c : Zc} {k : Nat} (W : Zwt zty G c) (h : G[k]? = some 90) {i : Int32} (h0 : 0 ≤ i.toInt) (h1 : i.toInt < 99) {x : Int32} (hx : an x) : ∃ c', zsi c k 0 i x = some c' ∧ Zwt zty G c' ∧ Zfr G [(90, 0)] c c' ∧ zai c' k 0 i = some x := wt_si W h rfl h0 h1 hx
theorem gl_91 {G : List Nat} {c : Zc} {k : Nat} (W : Zwt zty G c) (h : G[k]? = some 91) : zlen c k 0 = some 99 := wt_len W h (.inl ⟨_, rfl⟩)
theorem ga_91 {G : List Nat} {c : Zc} {k : Nat} (W : Zwt zty G c) (h : G[k]? = some 91) {i : Int32} (h0 : 0 ≤ i.toInt) (h1 : i.toInt < 99) : ∃ x, zai c k 0 i = some x ∧ an x := wt_ai W h rfl h0 h1
theorem pa_91 {G : List Nat} {c : Zc} {k : Nat} (W : Zwt zty G c) (h : G[k]? = some 91) {i : Int32} (h0 : 0 ≤ i.toInt) (h1 : i.toInt < 99) {x : Int32} (hx : an x) : ∃ c', zsi c k 0 i x = some c' ∧ Zwt zty G c' ∧ Zfr G [(91, 0)] c c' ∧ zai c' k 0 i = some x := wt_si W h rfl h0 h1 hx
theorem gl_92 {G : List Nat} {c : Zc} {k : Nat} (W : Zwt zty G c) (h : G[k]? = some 92) : zlen c k 0 = some 99 := wt_len W h (.inl ⟨_, rfl⟩)
theorem ga_92 {G : List Nat} {c : Zc} {k : Nat} (W : Zwt zty G c) (h : G[k]? = some 92) {i : Int32} (h0 : 0 ≤ i.toInt) (h1 : i.toInt < 99) : ∃ x, zai c k 0 i = some x ∧ (rg 0 16) x := wt_ai W h rfl h0 h1
theorem pa_92 {G : List Nat} {c : Zc} {k : Nat} (W : Zwt zty G c) (h : G[k]? = some 92) {i : Int32} (h0 : 0 ≤ i.toInt) (h1 : i.toInt < 99) {x : Int32} (hx : (rg 0 16) x) : ∃ c', zsi c k 0 i x = some c' ∧ Zwt zty G c' ∧ Zfr G [(92, 0)] c c' ∧ zai c' k 0 i = some x := wt_si W h rfl h0 h1 hx
theorem gl_93 {G : List Nat} {c : Zc} {k : Nat} (W : Zwt zty G c) (h : G[k]? = some 93) : zlen c k 0 = some 1584 := wt_len W h (.inl ⟨_, rfl⟩)
theorem ga_93 {G : List Nat} {c : Zc} {k : Nat} (W : Zwt zty G c) (h : G[k]? = some 93) {i : Int32} (h0 : 0 ≤ i.toInt) (h1 : i.toInt < 1584) : ∃ x, zai c k 0 i = some x ∧ (rg 0 12) x := wt_ai W h rfl h0 h1
theorem pa_93 {G : List Nat} {c : Zc} {k : Nat} (W : Zwt zty G c) (h : G[k]? = some 93) {i : Int32} (h0 : 0 ≤ i.toInt) (h1 : i.toInt < 1584) {x : Int32} (hx : (rg 0 12) x) : ∃ c', zsi c k 0 i x = some c' ∧ Zwt zty G c' ∧ Zfr G [(93, 0)] c c' ∧ zai c' k 0 i = some x := wt_si W h rfl h0 h1 hx
theorem gl_94 {G : List Nat} {c : Zc} {k : Nat} (W : Zwt zty G c) (h : G[k]? = some 94) : zlen c k 6 = some 1584 := wt_len W h (.inl ⟨_, rfl⟩)
theorem ga_94 {G : List Nat} {c : Zc} {k : Nat} (W : Zwt zty G c) (h : G[k]? = some 94) {i : Int32} (h0 : 0 ≤ i.toInt) (h1 : i.toInt < 1584) : ∃ x, zai c k 6 i = some x ∧ (rg 0 1) x := wt_ai W h rfl h0 h1
theorem pa_94 {G : List Nat} {c : Zc} {k : Nat} (W : Zwt zty G c) (h : G[k]? = some 94) {i : Int32} (h0 : 0 ≤ i.toInt) (h1 : i.toInt < 1584) {x : Int32} (hx : (rg 0 1) x) : ∃ c', zsi c k 6 i x = some c' ∧ Zwt zty G c' ∧ Zfr G [(94, 0)] c c' ∧ zai c' k 6 i = some x := wt_si W h rfl h0 h1 hx
theorem gl_95 {G : List Nat} {c : Zc} {k : Nat} (W : Zwt zty G c) (h : G[k]? = some 95) : zlen c k 0 = some 1584 := wt_len W h (.inl ⟨_, rfl⟩)
theorem ga_95 {G : List Nat} {c : Zc} {k : Nat} (W : Zwt zty G c) (h : G[k]? = some 95) {i : Int32} (h0 : 0 ≤ i.toInt) (h1 : i.toInt < 1584) : ∃ x, zai c k 0 i = some x ∧ an x := wt_ai W h rfl h0 h1
theorem pa_95 {G : List Nat} {c : Zc} {k : Nat} (W : Zwt zty G c) (h : G[k]? = some 95) {i : Int32} (h0 : 0 ≤ i.toInt) (h1 : i.toInt < 1584) {x : Int32} (hx : an x) : ∃ c', zsi c k 0 i x = some c' ∧ Zwt zty G c' ∧ Zfr G [(95, 0)] c c' ∧ zai c' k 0 i = some x := wt_si W h rfl h0 h1 hx
theorem gl_96 {G : List Nat} {c : Zc} {k : Nat} (W : Zwt zty G c) (h : G[k]? = some 96) : zlen c k 0 = some 9 := wt_len W h (.inl ⟨_, rfl⟩)
theorem ga_96 {G : List Nat} {c : Zc} {k : Nat} (W : Zwt zty G c) (h : G[k]? = some 96) {i : Int32} (h0 : 0 ≤ i.toInt) (h1 : i.toInt < 9) : ∃ x, zai c k 0 i = some x ∧ (rg 0 8) x := wt_ai W h rfl h0 h1
theorem pa_96 {G : List Nat} {c : Zc} {k : Nat} (W : Zwt zty G c) (h : G[k]? = some 96) {i : Int32} (h0 : 0 ≤ i.toInt) (h1 : i.toInt < 9) {x : Int32} (hx : (rg 0 8) x) : ∃ c', zsi c k 0 i x = some c' ∧ Zwt zty G c' ∧ Zfr G [(96, 0)] c c' ∧ zai c' k 0 i = some x := wt_si W h rfl h0 h1 hx
theorem gl_97 {G : List Nat} {c : Zc} {k : Nat} (W : Zwt zty G c) (h : G[k]? = some 97) : zlen c k 0 = some 72 := wt_len W h (.inl ⟨_, rfl⟩)
theorem ga_97 {G : List Nat} {c : Zc} {k : Nat} (W : Zwt zty G c) (h : G[k]? = some 97) {i : Int32} (h0 : 0 ≤ i.toInt) (h1 : i.toInt < 72) : ∃ x, zai c k 0 i = some x ∧ an x := wt_ai W h rfl h0 h1
theorem pa_97 {G : List Nat} {c : Zc} {k : Nat} (W : Zwt zty G c) (h : G[k]? = some 97) {i : Int32} (h0 : 0 ≤ i.toInt) (h1 : i.toInt < 72) {x : Int32} (hx : an x) : ∃ c', zsi c k 0 i x = some c' ∧ Zwt zty G c' ∧ Zfr G [(97, 0)] c c' ∧ zai c' k 0 i = some x := wt_si W h rfl h0 h1 hx
theorem gl_98 {G : List Nat} {c : Zc} {k : Nat} (W : Zwt zty G c) (h : G[k]? = some 98) : zlen c k 0 = some 72 := wt_len W h (.inl ⟨_, rfl⟩)
theorem ga_98 {G : List Nat} {c : Zc} {k : Nat} (W : Zwt zty G c) (h : G[k]? = some 98) {i : Int32} (h0 : 0 ≤ i.toInt) (h1 : i.toInt < 72) : ∃ x, zai c k 0 i = some x ∧ (rg 0 511) x := wt_ai W h rfl h0 h1
theorem pa_98 {G : List Nat} {c : Zc} {k : Nat} (W : Zwt zty G c) (h : G[k]? = some 98) {i : Int32} (h0 : 0 ≤ i.toInt) (h1 : i.toInt < 72) {x : Int32} (hx : (rg 0 511) x) : ∃ c', zsi c k 0 i x = some c' ∧ Zwt zty G c' ∧ Zfr G [(98, 0)] c c' ∧ zai c' k 0 i = some x := wt_si W h rfl h0 h1 hx
theorem gl_99 {G : List Nat} {c : Zc} {k : Nat} (W : Zwt zty G c) (h : G[k]? = some 99) : zlen c k 0 = some 9 := wt_len W h (.inl ⟨_, rfl⟩)
theorem ga_99 {G : List Nat} {c : Zc} {k : Nat} (W : Zwt zty G c) (h : G[k]? = some 99) {i : Int32} (h0 : 0 ≤ i.toInt) (h1 : i.toInt < 9) : ∃ x, zai c k 0 i = some x ∧ (rg (-1) 511) x := wt_ai W h rfl h0 h1
theorem pa_99 {G : List Nat} {c : Zc} {k : Nat} (W : Zwt zty G c) (h : G[k]? = some 99) {i : Int32} (h0 : 0 ≤ i.toInt) (h1 : i.toInt < 9) {x : Int32} (hx : (rg (-1) 511) x) : ∃ c', zsi c k 0 i x = some c' ∧ Zwt zty G c' ∧ Zfr G [(99, 0)] c c' ∧ zai c' k 0 i = some x := wt_si W h rfl h0 h1 hx
theorem gl_100 {G : List Nat} {c : Zc} {k : Nat} (W : Zwt zty G c) (h : G[k]? = some 100) : zlen c k 0 = some 9 := wt_len W h (.inl ⟨_, rfl⟩)
theorem ga_100 {G : List Nat} {c : Zc} {k : Nat} (W : Zwt zty G c) (h : G[k]? = some 100) {i : Int32} (h0 : 0 ≤ i.toInt) (h1 : i.toInt < 9) : ∃ x, zai c k 0 i = some x ∧ (rg 0 9999) x := wt_ai W h rfl h0 h1
theorem pa_100 {G : List Nat} {c : Zc} {k : Nat} (W : Zwt zty G c) (h : G[k]? = some 100) {i : Int32} (h0 : 0 ≤ i.toInt) (h1 : i.toInt < 9) {x : Int32} (hx : (rg 0 9999) x) : ∃ c', zsi c k 0 i x = some c' ∧ Zwt zty G c' ∧ Zfr G [(100, 0)] c c' ∧ zai c' k 0 i = some x := wt_si W h rfl h0 h1 hx
theorem gl_101 {G : List Nat} {c : Zc} {k : Nat} (W : Zwt zty G c) (h : G[k]? = some 101) : zlen c k 0 = some 9 := wt_len W h (.inl ⟨_, rfl⟩)
theorem ga_101 {G : List Nat} {c : Zc} {k : Nat} (W : Zwt zty G c) (h : G[k]? = some 101) {i : Int32} (h0 : 0 ≤ i.toInt) (h1 : i.toInt < 9) : ∃ x, zai c k 0 i = some x ∧ an x := wt_ai W h rfl h0 h1
theorem pa_101 {G : List Nat} {c : Zc} {k : Nat} (W : Zwt zty G c) (h : G[k]? = some 101) {i : Int32} (h0 : 0 ≤ i.toInt) (h1 : i.toInt < 9) {x : Int32} (hx : an x) : ∃ c', zsi c k 0 i x = some c' ∧ Zwt zty G c' ∧ Zfr G [(101, 0)] c c' ∧ zai c' k 0 i = some x := wt_si W h rfl h0 h1 hx
theorem gl_102 {G : List Nat} {c : Zc} {k : Nat} (W : Zwt zty G c) (h : G[k]? = some 102) : zlen c k 0 = some 9 := wt_len W h (.inl ⟨_, rfl⟩)
theorem ga_102 {G : List Nat} {c : Zc} {k : Nat} (W : Zwt zty G c) (h : G[k]? = some 102) {i : Int32} (h0 : 0 ≤ i.toInt) (h1 : i.toInt < 9) : ∃ x, zai c k 0 i = some x ∧ an x := wt_ai W h rfl h0 h1
theorem pa_102 {G : List Nat} {c : Zc} {k : Nat} (W : Zwt zty G c) (h : G[k]? = some 102) {i : Int32} (h0 : 0 ≤ i.toInt) (h1 : i.toInt < 9) {x : Int32} (hx : an x) : ∃ c', zsi c k 0 i x = some c' ∧ Zwt zty G c' ∧ Zfr G [(102, 0)] c c' ∧ zai c' k 0 i = some x := wt_si W h rfl h0 h1 hx
theorem gl_103 {G : List Nat} {c : Zc} {k : Nat} (W : Zwt zty G c) (h : G[k]? = some 103) : zlen c k 0 = some 4608 := wt_len W h (.inl ⟨_, rfl⟩)
theorem ga_103 {G : List Nat} {c : Zc} {k : Nat} (W : Zwt zty G c) (h : G[k]? = some 103) {i : Int32} (h0 : 0 ≤ i.toInt) (h1 : i.toInt < 4608) : ∃ x, zai c k 0 i = some x ∧ an x := wt_ai W h rfl h0 h1
theorem pa_103 {G : List Nat} {c : Zc} {k : Nat} (W : Zwt zty G c) (h : G[k]? = some 103) {i : Int32} (h0 : 0 ≤ i.toInt) (h1 : i.toInt < 4608) {x : Int32} (hx : an x) : ∃ c', zsi c k 0 i x = some c' ∧ Zwt zty G c' ∧ Zfr G [(103, 0)] c c' ∧ zai c' k 0 i = some x := wt_si W h rfl h0 h1 hx
theorem gl_104 {G : List Nat} {c : Zc} {k : Nat} (W : Zwt zty G c) (h : G[k]? = some 104) : zlen c k 0 = some 4608 := wt_len W h (.inl ⟨_, rfl⟩)
theorem ga_104 {G : List Nat} {c : Zc} {k : Nat} (W : Zwt zty G c) (h : G[k]? = some 104) {i : Int32} (h0 : 0 ≤ i.toInt) (h1 : i.toInt < 4608) : ∃ x, zai c k 0 i = some x ∧ an x := wt_ai W h rfl h0 h1
theorem pa_104 {G : List Nat} {c : Zc} {k : Nat} (W : Zwt zty G c) (h : G[k]? = some 104) {i : Int32} (h0 : 0 ≤ i.toInt) (h1 : i.toInt < 4608) {x : Int32} (hx : an x) : ∃ c', zsi c k 0 i x = some c' ∧ Zwt zty G c' ∧ Zfr G [(104, 0)] c c' ∧ zai c' k 0 i = some x := wt_si W h rfl h0 h1 hx
theorem gl_105 {G : List Nat} {c : Zc} {k : Nat} (W : Zwt zty G c) (h : G[k]? = some 105) : zlen c k 0 = some 66 := wt_len W h (.inl ⟨_, rfl⟩)
theorem ga_105 {G : List Nat} {c : Zc} {k : Nat} (W : Zwt zty G c) (h : G[k]? = some 105) {i : Int32} (h0 : 0 ≤ i.toInt) (h1 : i.toInt < 66) : ∃ x, zai c k 0 i = some x ∧ kn x := wt_ai W h rfl h0 h1
theorem pa_105 {G : List Nat} {c : Zc} {k : Nat} (W : Zwt zty G c) (h : G[k]? = some 105) {i : Int32} (h0 : 0 ≤ i.toInt) (h1 : i.toInt < 66) {x : Int32} (hx : kn x) : ∃ c', zsi c k 0 i x = some c' ∧ Zwt zty G c' ∧ Zfr G [(105, 0)] c c' ∧ zai c' k 0 i = some x := wt_si W h rfl h0 h1 hx
theorem gl_106 {G : List Nat} {c : Zc} {k : Nat} (W : Zwt zty G c) (h : G[k]? = some 106) : zlen c k 0 = some 66 := wt_len W h (.inl ⟨_, rfl⟩)
theorem ga_106 {G : List Nat} {c : Zc} {k : Nat} (W : Zwt zty G c) (h : G[k]? = some 106) {i : Int32} (h0 : 0 ≤ i.toInt) (h1 : i.toInt < 66) : ∃ x, zai c k 0 i = some x ∧ kn x := wt_ai W h rfl h0 h1
theorem pa_106 {G : List Nat} {c : Zc} {k : Nat} (W : Zwt zty G c) (h : G[k]? = some 106) {i : Int32} (h0 : 0 ≤ i.toInt) (h1 : i.toInt < 66) {x : Int32} (hx : kn x) : ∃ c', zsi c k 0 i x = some c' ∧ Zwt zty G c' ∧ Zfr G [(106, 0)] c c' ∧ zai c' k 0 i = some x := wt_si W h rfl h0 h1 hx
theorem gl_107 {G : List Nat} {c : Zc} {k : Nat} (W : Zwt zty G c) (h : G[k]? = some 107) : zlen c k 6 = some 64 := wt_len W h (.inl ⟨_, rfl⟩)
theorem ga_107 {G : List Nat} {c : Zc} {k : Nat} (W : Zwt zty G c) (h : G[k]? = some 107) {i : Int32} (h0 : 0 ≤ i.toInt) (h1 : i.toInt < 64) : ∃ x, zai c k 6 i = some x ∧ (rg 0 1) x := wt_ai W h rfl h0 h1
theorem pa_107 {G : List Nat} {c : Zc} {k : Nat} (W : Zwt zty G c) (h : G[k]? = some 107) {i : Int32} (h0 : 0 ≤ i.toInt) (h1 : i.toInt < 64) {x : Int32} (hx : (rg 0 1) x) : ∃ c', zsi c k 6 i x = some c' ∧ Zwt zty G c' ∧ Zfr G [(107, 0)] c c' ∧ zai c' k 6 i = some x := wt_si W h rfl h0 h1 hx
theorem gl_108 {G : List Nat} {c : Zc} {k : Nat} (W : Zwt zty G c) (h : G[k]? = some 108) : zlen c k 0 = some 64 := wt_len W h (.inl ⟨_, rfl⟩)
theorem ga_108 {G : List Nat} {c : Zc} {k : Nat} (W : Zwt zty G c) (h : G[k]? = some 108) {i : Int32} (h0 : 0 ≤ i.toInt) (h1 : i.toInt < 64) : ∃ x, zai c k 0 i = some x ∧ an x := wt_ai W h rfl h0 h1
theorem pa_108 {G : List Nat} {c : Zc} {k : Nat} (W : Zwt zty G c) (h : G[k]? = some 108) {i : Int32} (h0 : 0 ≤ i.toInt) (h1 : i.toInt < 64) {x : Int32} (hx : an x) : ∃ c', zsi c k 0 i x = some c' ∧ Zwt zty G c' ∧ Zfr G [(108, 0)] c c' ∧ zai c' k 0 i = some x := wt_si W h rfl h0 h1 hx
theorem gl_109 {G : List Nat} {c : Zc} {k : Nat} (W : Zwt zty G c) (h : G[k]? = some 109) : zlen c k 0 = some 64 := wt_len W h (.inl ⟨_, rfl⟩)
theorem ga_109 {G : List Nat} {c : Zc} {k : Nat} (W : Zwt zty G c) (h : G[k]? = some 109) {i : Int32} (h0 : 0 ≤ i.toInt) (h1 : i.toInt < 64) : ∃ x, zai c k 0 i = some x ∧ an x := wt_ai W h rfl h0 h1
theorem pa_109 {G : List Nat} {c : Zc} {k : Nat} (W : Zwt zty G c) (h : G[k]? = some 109) {i : Int32} (h0 : 0 ≤ i.toInt) (h1 : i.toInt < 64) {x : Int32} (hx : an x) : ∃ c', zsi c k 0 i x = some c' ∧ Zwt zty G c' ∧ Zfr G [(109, 0)] c c' ∧ zai c' k 0 i = some x := wt_si W h rfl h0 h1 hx
theorem gl_110 {G : List Nat} {c : Zc} {k : Nat} (W : Zwt zty G c) (h : G[k]? = some 110) : zlen c k 6 = some 64 := wt_len W h (.inl ⟨_, rfl⟩)
theorem ga_110 {G : List Nat} {c : Zc} {k : Nat} (W : Zwt zty G c) (h : G[k]? = some 110) {i : Int32} (h0 : 0 ≤ i.toInt) (h1 : i.toInt < 64) : ∃ x, zai c k 6 i = some x ∧ (rg 0 1) x := wt_ai W h rfl h0 h1
theorem pa_110 {G : List Nat} {c : Zc} {k : Nat} (W : Zwt zty G c) (h : G[k]? = some 110) {i : Int32} (h0 : 0 ≤ i.toInt) (h1 : i.toInt < 64) {x : Int32} (hx : (rg 0 1) x) : ∃ c', zsi c k 6 i x = some c' ∧ Zwt zty G c' ∧ Zfr G [(110, 0)] c c' ∧ zai c' k 6 i = some x := wt_si W h rfl h0 h1 hx
theorem gl_111 {G : List Nat} {c : Zc} {k : Nat} (W : Zwt zty G c) (h : G[k]? = some 111) : zlen c k 0 = some 64 := wt_len W h (.inl ⟨_, rfl⟩)
theorem ga_111 {G : List Nat} {c : Zc} {k : Nat} (W : Zwt zty G c) (h : G[k]? = some 111) {i : Int32} (h0 : 0 ≤ i.toInt) (h1 : i.toInt < 64) : ∃ x, zai c k 0 i = some x ∧ an x := wt_ai W h rfl h0 h1
theorem pa_111 {G : List Nat} {c : Zc} {k : Nat} (W : Zwt zty G c) (h : G[k]? = some 111) {i : Int32} (h0 : 0 ≤ i.toInt) (h1 : i.toInt < 64) {x : Int32} (hx : an x) : ∃ c', zsi c k 0 i x = some c' ∧ Zwt zty G c' ∧ Zfr G [(111, 0)] c c' ∧ zai c' k 0 i = some x := wt_si W h rfl h0 h1 hx
theorem gl_112 {G : List Nat} {c : Zc} {k : Nat} (W : Zwt zty G c) (h : G[k]? = some 112) : zlen c k 0 = some 64 := wt_len W h (.inl ⟨_, rfl⟩)
theorem ga_112 {G : List Nat} {c : Zc} {k : Nat} (W : Zwt zty G c) (h : G[k]? = some 112) {i : Int32} (h0 : 0 ≤ i.toInt) (h1 : i.toInt < 64) : ∃ x, zai c k 0 i = some x ∧ an x := wt_ai W h rfl h0 h1
theorem pa_112 {G : List Nat} {c : Zc} {k : Nat} (W : Zwt zty G c) (h : G[k]? = some 112) {i : Int32} (h0 : 0 ≤ i.toInt) (h1 : i.toInt < 64) {x : Int32} (hx : an x) : ∃ c', zsi c k 0 i x = some c' ∧ Zwt zty G c' ∧ Zfr G [(112, 0)] c c' ∧ zai c' k 0 i = some x := wt_si W h rfl h0 h1 hx
theorem gl_113 {G : List Nat} {c : Zc} {k : Nat} (W : Zwt zty G c) (h : G[k]? = some 113) : zlen c k 6 = some 64 := wt_len W h (.inl ⟨_, rfl⟩)
theorem ga_113 {G : List Nat} {c : Zc} {k : Nat} (W : Zwt zty G c) (h : G[k]? = some 113) {i : Int32} (h0 : 0 ≤ i.toInt) (h1 : i.toInt < 64) : ∃ x, zai c k 6 i = some x ∧ (rg 0 1) x := wt_ai W h rfl h0 h1
theorem pa_113 {G : List Nat} {c : Zc} {k : Nat} (W : Zwt zty G c) (h : G[k]? = some 113) {i : Int32} (h0 : 0 ≤ i.toInt) (h1 : i.toInt < 64) {x : Int32} (hx : (rg 0 1) x) : ∃ c', zsi c k 6 i x = some c' ∧ Zwt zty G c' ∧ Zfr G [(113, 0)] c c' ∧ zai c' k 6 i = some x := wt_si W h rfl h0 h1 hx
theorem gl_114 {G : List Nat} {c : Zc} {k : Nat} (W : Zwt zty G c) (h : G[k]? = some 114) : zlen c k 0 = some 1024 := wt_len W h (.inl ⟨_, rfl⟩)
theorem ga_114 {G : List Nat} {c : Zc} {k : Nat} (W : Zwt zty G c) (h : G[k]? = some 114) {i : Int32} (h0 : 0 ≤ i.toInt) (h1 : i.toInt < 1024) : ∃ x, zai c k 0 i = some x ∧ an x := wt_ai W h rfl h0 h1
theorem pa_114 {G : List Nat} {c : Zc} {k : Nat} (W : Zwt zty G c) (h : G[k]? = some 114) {i : Int32} (h0 : 0 ≤ i.toInt) (h1 : i.toInt < 1024) {x : Int32} (hx : an x) : ∃ c', zsi c k 0 i x = some c' ∧ Zwt zty G c' ∧ Zfr G [(114, 0)] c c' ∧ zai c' k 0 i = some x := wt_si W h rfl h0 h1 hx
theorem gl_115 {G : List Nat} {c : Zc} {k : Nat} (W : Zwt zty G c) (h : G[k]? = some 115) : zlen c k 0 = some 1024 := wt_len W h (.inl ⟨_, rfl⟩)
theorem ga_115 {G : List Nat} {c : Zc} {k : Nat} (W : Zwt zty G c) (h : G[k]? = some 115) {i : Int32} (h0 : 0 ≤ i.toInt) (h1 : i.toInt < 1024) : ∃ x, zai c k 0 i = some x ∧ an x := wt_ai W h rfl h0 h1
theorem pa_115 {G : List Nat} {c : Zc} {k : Nat} (W : Zwt zty G c) (h : G[k]? = some 115) {i : Int32} (h0 : 0 ≤ i.toInt) (h1 : i.toInt < 1024) {x : Int32} (hx : an x) : ∃ c', zsi c k 0 i x = some c' ∧ Zwt zty G c' ∧ Zfr G [(115, 0)] c c' ∧ zai c' k 0 i = some x := wt_si W h rfl h0 h1 hx
theorem gl_116 {G : List Nat} {c : Zc} {k : Nat} (W : Zwt zty G c) (h : G[k]? = some 116) : zlen c k 0 = some 1024 := wt_len W h (.inl ⟨_, rfl⟩)
theorem ga_116 {G : List Nat} {c : Zc} {k : Nat} (W : Zwt zty G c) (h : G[k]? = some 116) {i : Int32} (h0 : 0 ≤ i.toInt) (h1 : i.toInt < 1024) : ∃ x, zai c k 0 i = some x ∧ an x := wt_ai W h rfl h0 h1
theorem pa_116 {G : List Nat} {c : Zc} {k : Nat} (W : Zwt zty G c) (h : G[k]? = some 116) {i : Int32} (h0 : 0 ≤ i.toInt) (h1 : i.toInt < 1024) {x : Int32} (hx : an x) : ∃ c', zsi c k 0 i x = some c' ∧ Zwt zty G c' ∧ Zfr G [(116, 0)] c c' ∧ zai c' k 0 i = some x := wt_si W h rfl h0 h1 hx
theorem gl_117 {G : List Nat} {c : Zc} {k : Nat} (W : Zwt zty G c) (h : G[k]? = some 117) : zlen c k 0 = some 2560 := wt_len W h (.inl ⟨_, rfl⟩)
theorem ga_117 {G : List Nat} {c : Zc} {k : Nat} (W : Zwt zty G c) (h : G[k]? = some 117) {i : Int32} (h0 : 0 ≤ i.toInt) (h1 : i.toInt < 2560) : ∃ x, zai c k 0 i = some x ∧ an x := wt_ai W h rfl h0 h1
theorem pa_117 {G : List Nat} {c : Zc} {k : Nat} (W : Zwt zty G c) (h : G[k]? = some 117) {i : Int32} (h0 : 0 ≤ i.toInt) (h1 : i.toInt < 2560) {x : Int32} (hx : an x) : ∃ c', zsi c k 0 i x = some c' ∧ Zwt zty G c' ∧ Zfr G [(117, 0)] c c' ∧ zai c' k 0 i = some x := wt_si W h rfl h0 h1 hx
theorem gl_118 {G : List Nat} {c : Zc} {k : Nat} (W : Zwt zty G c) (h : G[k]? = some 118) : zlen c k 0 = some 272 := wt_len W h (.inl ⟨_, rfl⟩)
theorem ga_118 {G : List Nat} {c : Zc} {k : Nat} (W : Zwt zty G c) (h : G[k]? = some 118) {i : Int32} (h0 : 0 ≤ i.toInt) (h1 : i.toInt < 272) : ∃ x, zai c k 0 i = some x ∧ (rg 0 15) x := wt_ai W h rfl h0 h1
theorem pa_118 {G : List Nat} {c : Zc} {k : Nat} (W : Zwt zty G c) (h : G[k]? = some 118) {i : Int32} (h0 : 0 ≤ i.toInt) (h1 : i.toInt < 272) {x : Int32} (hx : (rg 0 15) x) : ∃ c', zsi c k 0 i x = some c' ∧ Zwt zty G c' ∧ Zfr G [(118, 0)] c c' ∧ zai c' k 0 i = some x := wt_si W h rfl h0 h1 hx
theorem gl_119 {G : List Nat} {c : Zc} {k : Nat} (W : Zwt zty G c) (h : G[k]? = some 119) : zlen c k 0 = some 272 := wt_len W h (.inl ⟨_, rfl⟩)
theorem ga_119 {G : List Nat} {c : Zc} {k : Nat} (W : Zwt zty G c) (h : G[k]? = some 119) {i : Int32} (h0 : 0 ≤ i.toInt) (h1 : i.toInt < 272) : ∃ x, zai c k 0 i = some x ∧ (rg 0 16) x := wt_ai W h rfl h0 h1
theorem pa_119 {G : List Nat} {c : Zc} {k : Nat} (W : Zwt zty G c) (h : G[k]? = some 119) {i : Int32} (h0 : 0 ≤ i.toInt) (h1 : i.toInt < 272) {x : Int32} (hx : (rg 0 16) x) : ∃ c', zsi c k 0 i x = some c' ∧ Zwt zty G c' ∧ Zfr G [(119, 0)] c c' ∧ zai c' k 0 i = some x := wt_si W h rfl h0 h1 hx
theorem gl_120 {G : List Nat} {c : Zc} {k : Nat} (W : Zwt zty G c) (h : G[k]? = some 120) : zlen c k 0 = some 272 := wt_len W h (.inl ⟨_, rfl⟩)
theorem ga_120 {G : List Nat} {c : Zc} {k : Nat} (W : Zwt zty G c) (h : G[k]? = some 120) {i : Int32} (h0 : 0 ≤ i.toInt) (h1 : i.toInt < 272) : ∃ x, zai c k 0 i = some x ∧ an x := wt_ai W h rfl h0 h1
theorem pa_120 {G : List Nat} {c : Zc} {k : Nat} (W : Zwt zty G c) (h : G[k]? = some 120) {i : Int32} (h0 : 0 ≤ i.toInt) (h1 : i.toInt < 272) {x : Int32} (hx : an x) : ∃ c', zsi c k 0 i x = some c' ∧ Zwt zty G c' ∧ Zfr G [(120, 0)] c c' ∧ zai c' k 0 i = some x := wt_si W h rfl h0 h1 hx
theorem gl_121 {G : List Nat} {c : Zc} {k : Nat} (W : Zwt zty G c) (h : G[k]? = some 121) : zlen c k 0 = some 8 := wt_len W h (.inl ⟨_, rfl⟩)
theorem ga_121 {G : List Nat} {c : Zc} {k : Nat} (W : Zwt zty G c) (h : G[k]? = some 121) {i : Int32} (h0 : 0 ≤ i.toInt) (h1 : i.toInt < 8) : ∃ x, zai c k 0 i = some x ∧ (rg 0 15) x := wt_ai W h rfl h0 h1
theorem pa_121 {G : List Nat} {c : Zc} {k : Nat} (W : Zwt zty G c) (h : G[k]? = some 121) {i : Int32} (h0 : 0 ≤ i.toInt) (h1 : i.toInt < 8) {x : Int32} (hx : (rg 0 15) x) : ∃ c', zsi c k 0 i x = some c' ∧ Zwt zty G c' ∧ Zfr G [(121, 0)] c c' ∧ zai c' k 0 i = some x := wt_si W h rfl h0 h1 hx
theorem gl_122 {G : List Nat} {c : Zc} {k : Nat} (W : Zwt zty G c) (h : G[k]? = some 122) : zlen c k 0 = some 8 := wt_len W h (.inl ⟨_, rfl⟩)
theorem ga_122 {G : List Nat} {c : Zc} {k : Nat} (W : Zwt zty G c) (h : G[k]? = some 122) {i : Int32} (h0 : 0 ≤ i.toInt) (h1 : i.toInt < 8) : ∃ x, zai c k 0 i = some x ∧ an x := wt_ai W h rfl h0 h1
theorem pa_122 {G : List Nat} {c : Zc} {k : Nat} (W : Zwt zty G c) (h : G[k]? = some 122) {i : Int32} (h0 : 0 ≤ i.toInt) (h1 : i.toInt < 8) {x : Int32} (hx : an x) : ∃ c', zsi c k 0 i x = some c' ∧ Zwt zty G c' ∧ Zfr G [(122, 0)] c c' ∧ zai c' k 0 i = some x := wt_si W h rfl h0 h1 hx
theorem gl_123 {G : List Nat} {c : Zc} {k : Nat} (W : Zwt zty G c) (h : G[k]? = some 123) : zlen c k 0 = some 256 := wt_len W h (.inl ⟨_, rfl⟩)
theorem ga_123 {G : List Nat} {c : Zc} {k : Nat} (W : Zwt zty G c) (h : G[k]? = some 123) {i : Int32} (h0 : 0 ≤ i.toInt) (h1 : i.toInt < 256) : ∃ x, zai c k 0 i = some x ∧ an x := wt_ai W h rfl h0 h1
theorem pa_123 {G : List Nat} {c : Zc} {k : Nat} (W : Zwt zty G c) (h : G[k]? = some 123) {i : Int32} (h0 : 0 ≤ i.toInt) (h1 : i.toInt < 256) {x : Int32} (hx : an x) : ∃ c', zsi c k 0 i x = some c' ∧ Zwt zty G c' ∧ Zfr G [(123, 0)] c c' ∧ zai c' k 0 i = some x := wt_si W h rfl h0 h1 hx
theorem gl_124 {G : List Nat} {c : Zc} {k : Nat} (W : Zwt zty G c) (h : G[k]? = some 124) : zlen c k 0 = some 1024 := wt_len W h (.inl ⟨_, rfl⟩)
theorem ga_124 {G : List Nat} {c : Zc} {k : Nat} (W : Zwt zty G c) (h : G[k]? = some 124) {i : Int32} (h0 : 0 ≤ i.toInt) (h1 : i.toInt < 1024) : ∃ x, zai c k 0 i = some x ∧ (rg 0 1) x := wt_ai W h rfl h0 h1
theorem pa_124 {G : List Nat} {c : Zc} {k : Nat} (W : Zwt zty G c) (h : G[k]? = some 124) {i : Int32} (h0 : 0 ≤ i.toInt) (h1 : i.toInt < 1024) {x : Int32} (hx : (rg 0 1) x) : ∃ c', zsi c k 0 i x = some c' ∧ Zwt zty G c' ∧ Zfr G [(124, 0)] c c' ∧ zai c' k 0 i = some x := wt_si W h rfl h0 h1 hx
theorem gl_125 {G : List Nat} {c : Zc} {k : Nat} (W : Zwt zty G c) (h : G[k]? = some 125) : zlen c k 0 = some 160000 := wt_len W h (.inl ⟨_, rfl⟩)
theorem ga_125 {G : List Nat} {c : Zc} {k : Nat} (W : Zwt zty G c) (h : G[k]? = some 125) {i : Int32} (h0 : 0 ≤ i.toInt) (h1 : i.toInt < 160000) : ∃ x, zai c k 0 i = some x ∧ an x := wt_ai W h rfl h0 h1
theorem pa_125 {G : List Nat} {c : Zc} {k : Nat} (W : Zwt zty G c) (h : G[k]? = some 125) {i : Int32} (h0 : 0 ≤ i.toInt) (h1 : i.toInt < 160000) {x : Int32} (hx : an x) : ∃ c', zsi c k 0 i x = some c' ∧ Zwt zty G c' ∧ Zfr G [(125, 0)] c c' ∧ zai c' k 0 i = some x := wt_si W h rfl h0 h1 hx
theorem gl_126 {G : List Nat} {c : Zc} {k : Nat} (W : Zwt zty G c) (h : G[k]? = some 126) : zlen c k 0 = some 20000 := wt_len W h (.inl ⟨_, rfl⟩)
theorem ga_126 {G : List Nat} {c : Zc} {k : Nat} (W : Zwt zty G c) (h : G[k]? = some 126) {i : Int32} (h0 : 0 ≤ i.toInt) (h1 : i.toInt < 20000) : ∃ x, zai c k 0 i = some x ∧ (rg 0 19999) x := wt_ai W h rfl h0 h1
theorem pa_126 {G : List Nat} {c : Zc} {k : Nat} (W : Zwt zty G c) (h : G[k]? = some 126) {i : Int32} (h0 : 0 ≤ i.toInt) (h1 : i.toInt < 20000) {x : Int32} (hx : (rg 0 19999) x) : ∃ c', zsi c k 0 i x = some c' ∧ Zwt zty G c' ∧ Zfr G [(126, 0)] c c' ∧ zai c' k 0 i = some x := wt_si W h rfl h0 h1 hx
theorem gl_127 {G : List Nat} {c : Zc} {k : Nat} (W : Zwt zty G c) (h : G[k]? = some 127) : zlen c k 0 = some 20000 := wt_len W h (.inl ⟨_, rfl⟩)
theorem ga_127 {G : List Nat} {c : Zc} {k : Nat} (W : Zwt zty G c) (h : G[k]? = some 127) {i : Int32} (h0 : 0 ≤ i.toInt) (h1 : i.toInt < 20000) : ∃ x, zai c k 0 i = some x ∧ (rg 0 19999) x := wt_ai W h rfl h0 h1
theorem pa_127 {G : List Nat} {c : Zc} {k : Nat} (W : Zwt zty G c) (h : G[k]? = some 127) {i : Int32} (h0 : 0 ≤ i.toInt) (h1 : i.toInt < 20000) {x : Int32} (hx : (rg 0 19999) x) : ∃ c', zsi c k 0 i x = some c' ∧ Zwt zty G c' ∧ Zfr G [(127, 0)] c c' ∧ zai c' k 0 i = some x := wt_si W h rfl h0 h1 hx
theorem gl_128 {G : List Nat} {c : Zc} {k : Nat} (W : Zwt zty G c) (h : G[k]? = some 128) : zlen c k 0 = some 640000 := wt_len W h (.inl ⟨_, rfl⟩)
theorem ga_128 {G : List Nat} {c : Zc} {k : Nat} (W : Zwt zty G c) (h : G[k]? = some 128) {i : Int32} (h0 : 0 ≤ i.toInt) (h1 : i.toInt < 640000) : ∃ x, zai c k 0 i = some x ∧ an x := wt_ai W h rfl h0 h1
theorem pa_128 {G : List Nat} {c : Zc} {k : Nat} (W : Zwt zty G c) (h : G[k]? = some 128) {i : Int32} (h0 : 0 ≤ i.toInt) (h1 : i.toInt < 640000) {x : Int32} (hx : an x) : ∃ c', zsi c k 0 i x = some c' ∧ Zwt zty G c' ∧ Zfr G [(128, 0)] c c' ∧ zai c' k 0 i = some x := wt_si W h rfl h0 h1 hx
theorem gl_129 {G : List Nat} {c : Zc} {k : Nat} (W : Zwt zty G c) (h : G[k]? = some 129) : zlen c k 0 = some 4 := wt_len W h (.inl ⟨_, rfl⟩)
theorem ga_129 {G : List Nat} {c : Zc} {k : Nat} (W : Zwt zty G c) (h : G[k]? = some 129) {i : Int32} (h0 : 0 ≤ i.toInt) (h1 : i.toInt < 4) : ∃ x, zai c k 0 i = some x ∧ (rg 0 20000) x := wt_ai W h rfl h0 h1
theorem pa_129 {G : List Nat} {c : Zc} {k : Nat} (W : Zwt zty G c) (h : G[k]? = some 129) {i : Int32} (h0 : 0 ≤ i.toInt) (h1 : i.toInt < 4) {x : Int32} (hx : (rg 0 20000) x) : ∃ c', zsi c k 0 i x = some c' ∧ Zwt zty G c' ∧ Zfr G [(129, 0)] c c' ∧ zai c' k 0 i = some x := wt_si W h rfl h0 h1 hx
theorem gl_130 {G : List Nat} {c : Zc} {k : Nat} (W : Zwt zty G c) (h : G[k]? = some 130) : zlen c k 0 = some 4 := wt_len W h (.inl ⟨_, rfl⟩)
theorem ga_130 {G : List Nat} {c : Zc} {k : Nat} (W : Zwt zty G c) (h : G[k]? = some 130) {i : Int32} (h0 : 0 ≤ i.toInt) (h1 : i.toInt < 4) : ∃ x, zai c k 0 i = some x ∧ (rg 0 8) x := wt_ai W h rfl h0 h1
theorem pa_130 {G : List Nat} {c : Zc} {k : Nat} (W : Zwt zty G c) (h : G[k]? = some 130) {i : Int32} (h0 : 0 ≤ i.toInt) (h1 : i.toInt < 4) {x : Int32} (hx : (rg 0 8) x) : ∃ c', zsi c k 0 i x = some c' ∧ Zwt zty G c' ∧ Zfr G [(130, 0)] c c' ∧ zai c' k 0 i = some x := wt_si W h rfl h0 h1 hx
theorem gl_131 {G : List Nat} {c : Zc} {k : Nat} (W : Zwt zty G c) (h : G[k]? = some 131) : zlen c k 6 = some 4 := wt_len W h (.inl ⟨_, rfl⟩)
theorem ga_131 {G : List Nat} {c : Zc} {k : Nat} (W : Zwt zty G c) (h : G[k]? = some 131) {i : Int32} (h0 : 0 ≤ i.toInt) (h1 : i.toInt < 4) : ∃ x, zai c k 6 i = some x ∧ (rg 0 1) x := wt_ai W h rfl h0 h1
theorem pa_131 {G : List Nat} {c : Zc} {k : Nat} (W : Zwt zty G c) (h : G[k]? = some 131) {i : Int32} (h0 : 0 ≤ i.toInt) (h1 : i.toInt < 4) {x : Int32} (hx : (rg 0 1) x) : ∃ c', zsi c k 6 i x = some c' ∧ Zwt zty G c' ∧ Zfr G [(131, 0)] c c' ∧ zai c' k 6 i = some x := wt_si W h rfl h0 h1 hx
theorem gl_132 {G : List Nat} {c : Zc} {k : Nat} (W : Zwt zty G c) (h : G[k]? = some 132) : zlen c k 0 = some 8 := wt_len W h (.inl ⟨_, rfl⟩)
theorem ga_132 {G : List Nat} {c : Zc} {k : Nat} (W : Zwt zty G c) (h : G[k]? = some 132) {i : Int32} (h0 : 0 ≤ i.toInt) (h1 : i.toInt < 8) : ∃ x, zai c k 0 i = some x ∧ (rg 0 7) x := wt_ai W h rfl h0 h1
theorem pa_132 {G : List Nat} {c : Zc} {k : Nat} (W : Zwt zty G c) (h : G[k]? = some 132) {i : Int32} (h0 : 0 ≤ i.toInt) (h1 : i.toInt < 8) {x : Int32} (hx : (rg 0 7) x) : ∃ c', zsi c k 0 i x = some c' ∧ Zwt zty G c' ∧ Zfr G [(132, 0)] c c' ∧ zai c' k 0 i = some x := wt_si W h rfl h0 h1 hx
theorem gl_133 {G : List Nat} {c : Zc} {k : Nat} (W : Zwt zty G c) (h : G[k]? = some 133) : zlen c k 0 = some 160000 := wt_len W h (.inl ⟨_, rfl⟩)
theorem ga_133 {G : List Nat} {c : Zc} {k : Nat} (W : Zwt zty G c) (h : G[k]? = some 133) {i : Int32} (h0 : 0 ≤ i.toInt) (h1 : i.toInt < 160000) : ∃ x, zai c k 0 i = some x ∧ an x := wt_ai W h rfl h0 h1
theorem pa_133 {G : List Nat} {c : Zc} {k : Nat} (W : Zwt zty G c) (h : G[k]? = some 133) {i : Int32} (h0 : 0 ≤ i.toInt) (h1 : i.toInt < 160000) {x : Int32} (hx : an x) : ∃ c', zsi c k 0 i x = some c' ∧ Zwt zty G c' ∧ Zfr G [(133, 0)] c c' ∧ zai c' k 0 i = some x := wt_si W h rfl h0 h1 hx
theorem gl_134 {G : List Nat} {c : Zc} {k : Nat} (W : Zwt zty G c) (h : G[k]? = some 134) : zlen c k 6 = some 99 := wt_len W h (.inl ⟨_, rfl⟩)
theorem ga_134 {G : List Nat} {c : Zc} {k : Nat} (W : Zwt zty G c) (h : G[k]? = some 134) {i : Int32} (h0 : 0 ≤ i.toInt) (h1 : i.toInt < 99) : ∃ x, zai c k 6 i = some x ∧ (rg 0 1) x := wt_ai W h rfl h0 h1
theorem pa_134 {G : List Nat} {c : Zc} {k : Nat} (W : Zwt zty G c) (h : G[k]? = some 134) {i : Int32} (h0 : 0 ≤ i.toInt) (h1 : i.toInt < 99) {x : Int32} (hx : (rg 0 1) x) : ∃ c', zsi c k 6 i x = some c' ∧ Zwt zty G c' ∧ Zfr G [(134, 0)] c c' ∧ zai c' k 6 i = some x := wt_si W h rfl h0 h1 hx
theorem li_m1000000000 : (-1000000000 : Int32).toInt = -1000000000 := by decide
theorem li_m9999 : (-9999 : Int32).toInt = -9999 := by decide
theorem li_m10 : (-10 : Int32).toInt = -10 := by decide
theorem li_m8 : (-8 : Int32).toInt = -8 := by decide
theorem li_m4 : (-4 : Int32).toInt = -4 := by decide
theorem li_m3 : (-3 : Int32).toInt = -3 := by decide
theorem li_m2 : (-2 : Int32).toInt = -2 := by decide
theorem li_m1 : (-1 : Int32).toInt = -1 := by decide
theorem li_0 : (0 : Int32).toInt = 0 := by decide
theorem li_1 : (1 : Int32).toInt = 1 := by decide
theorem li_2 : (2 : Int32).toInt = 2 := by decide
theorem li_3 : (3 : Int32).toInt = 3 := by decide
theorem li_4 : (4 : Int32).toInt = 4 := by decide
theorem li_5 : (5 : Int32).toInt = 5 := by decide
theorem li_6 : (6 : Int32).toInt = 6 := by decide
theorem li_7 : (7 : Int32).toInt = 7 := by decide
theorem li_8 : (8 : Int32).toInt = 8 := by decide
theorem li_9 : (9 : Int32).toInt = 9 := by decide
theorem li_10 : (10 : Int32).toInt = 10 := by decide
theorem li_11 : (11 : Int32).toInt = 11 := by decide
theorem li_12 : (12 : Int32).toInt = 12 := by decide
theorem li_13 : (13 : Int32).toInt = 13 := by decide
theorem li_14 : (14 : Int32).toInt = 14 := by decide
theorem li_15 : (15 : Int32).toInt = 15 := by decide
theorem li_16 : (16 : Int32).toInt = 16 := by decide
theorem li_17 : (17 : Int32).toInt = 17 := by decide
theorem li_18 : (18 : Int32).toInt = 18 := by decide
theorem li_19 : (19 : Int32).toInt = 19 := by decide
theorem li_20 : (20 : Int32).toInt = 20 := by decide
theorem li_21 : (21 : Int32).toInt = 21 := by decide
theorem li_22 : (22 : Int32).toInt = 22 := by decide
theorem li_23 : (23 : Int32).toInt = 23 := by decide
theorem li_24 : (24 : Int32).toInt = 24 := by decide
theorem li_25 : (25 : Int32).toInt = 25 := by decide
theorem li_26 : (26 : Int32).toInt = 26 := by decide
theorem li_27 : (27 : Int32).toInt = 27 := by decide
theorem li_28 : (28 : Int32).toInt = 28 := by decide
theorem li_32 : (32 : Int32).toInt = 32 := by decide
theorem li_33 : (33 : Int32).toInt = 33 := by decide
theorem li_40 : (40 : Int32).toInt = 40 := by decide
theorem li_41 : (41 : Int32).toInt = 41 := by decide
theorem li_42 : (42 : Int32).toInt = 42 := by decide
theorem li_43 : (43 : Int32).toInt = 43 := by decide
theorem li_44 : (44 : Int32).toInt = 44 := by decide
theorem li_45 : (45 : Int32).toInt = 45 := by decide
theorem li_46 : (46 : Int32).toInt = 46 := by decide
theorem li_48 : (48 : Int32).toInt = 48 := by decide
theorem li_57 : (57 : Int32).toInt = 57 := by decide
theorem li_58 : (58 : Int32).toInt = 58 := by decide
theorem li_60 : (60 : Int32).toInt = 60 := by decide
theorem li_61 : (61 : Int32).toInt = 61 := by decide
theorem li_62 : (62 : Int32).toInt = 62 := by decide
theorem li_63 : (63 : Int32).toInt = 63 := by decide
theorem li_64 : (64 : Int32).toInt = 64 := by decide
theorem li_65 : (65 : Int32).toInt = 65 := by decide
theorem li_66 : (66 : Int32).toInt = 66 := by decide
theorem li_70 : (70 : Int32).toInt = 70 := by decide
theorem li_80 : (80 : Int32).toInt = 80 := by decide
theorem li_90 : (90 : Int32).toInt = 90 := by decide
theorem li_91 : (91 : Int32).toInt = 91 := by decide
theorem li_93 : (93 : Int32).toInt = 93 := by decide
theorem li_94 : (94 : Int32).toInt = 94 := by decide
theorem li_95 : (95 : Int32).toInt = 95 := by decide
theorem li_97 : (97 : Int32).toInt = 97 := by decide
theorem li_99 : (99 : Int32).toInt = 99 := by decide
theorem li_100 : (100 : Int32).toInt = 100 := by decide
theorem li_109 : (109 : Int32).toInt = 109 := by decide
theorem li_122 : (122 : Int32).toInt = 122 := by decide
theorem li_124 : (124 : Int32).toInt = 124 := by decide
theorem li_200 : (200 : Int32).toInt = 200 := by decide
theorem li_202 : (202 : Int32).toInt = 202 := by decide
theorem li_255 : (255 : Int32).toInt = 255 := by decide
theorem li_256 : (256 : Int32).toInt = 256 := by decide
theorem li_257 : (257 : Int32).toInt = 257 := by decide
theorem li_258 : (258 : Int32).toInt = 258 := by decide
theorem li_259 : (259 : Int32).toInt = 259 := by decide
theorem li_260 : (260 : Int32).toInt = 260 := by decide
theorem li_416 : (416 : Int32).toInt = 416 := by decide
theorem li_1025 : (1025 : Int32).toInt = 1025 := by decide
theorem li_1500 : (1500 : Int32).toInt = 1500 := by decide
theorem li_9999 : (9999 : Int32).toInt = 9999 := by decide
theorem li_10000 : (10000 : Int32).toInt = 10000 := by decide
theorem li_20000 : (20000 : Int32).toInt = 20000 := by decide
theorem li_1000000 : (1000000 : Int32).toInt = 1000000 := by decide
theorem li_1000000000 : (1000000000 : Int32).toInt = 1000000000 := by decide
end ZzT
