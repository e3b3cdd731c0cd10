section ZzT
theorem li_101 : (101 : Int32).toInt = 101 := by decide
theorem li_102 : (102 : Int32).toInt = 102 := by decide
theorem li_103 : (103 : Int32).toInt = 103 := by decide
theorem li_104 : (104 : Int32).toInt = 104 := by decide
theorem li_105 : (105 : Int32).toInt = 105 := by decide
theorem li_106 : (106 : Int32).toInt = 106 := by decide
theorem li_107 : (107 : Int32).toInt = 107 := by decide
theorem li_108 : (108 : Int32).toInt = 108 := by decide
theorem li_110 : (110 : Int32).toInt = 110 := by decide
theorem li_111 : (111 : Int32).toInt = 111 := by decide
theorem li_112 : (112 : Int32).toInt = 112 := by decide
theorem li_113 : (113 : Int32).toInt = 113 := by decide
theorem li_117 : (117 : Int32).toInt = 117 := by decide
theorem li_201 : (201 : Int32).toInt = 201 := by decide
theorem li_203 : (203 : Int32).toInt = 203 := by decide
theorem li_204 : (204 : Int32).toInt = 204 := by decide
theorem li_205 : (205 : Int32).toInt = 205 := by decide
theorem li_272 : (272 : Int32).toInt = 272 := by decide
theorem li_160000 : (160000 : Int32).toInt = 160000 := by decide
theorem li_2000000000 : (2000000000 : Int32).toInt = 2000000000 := by decide
def Ztx (G : List Nat) (c : Zc) (m : Nat) : Prop := TxM c m
def Zmt4 (G : List Nat) (c : Zc) (m : Nat) (tp : Int32) : Prop := ∃ n : Int32, zgi c m 12 13 = some n ∧ n.toInt = tp.toInt + 4
def Zmfd (G : List Nat) (c : Zc) (m : Nat) (r : Int32) (tp : Int32) : Prop := ∃ n : Int32, zgi c m 12 13 = some n ∧ ((tp.toInt + 20 ≤ 1500 ∧ r.toInt = tp.toInt + 20 ∧ n.toInt = tp.toInt + 20) ∨ (1500 < tp.toInt + 20 ∧ r.toInt = -3 ∧ n.toInt = tp.toInt))
def Zmct (G : List Nat) (c : Zc) (m : Nat) (r : Int32) (tp : Int32) (a : Int32) : Prop := ∃ n : Int32, zgi c m 12 13 = some n ∧ ((0 ≤ a.toInt ∧ a.toInt ≤ tp.toInt ∧ r.toInt = tp.toInt - a.toInt ∧ n.toInt = tp.toInt - a.toInt) ∨ ((a.toInt < 0 ∨ tp.toInt < a.toInt) ∧ r.toInt = -1 ∧ n.toInt = tp.toInt))
def Zfl (G : List Nat) (c : Zc) (m : Nat) (n : Int32) : Prop := ∃ kk : Nat, zgr c m 12 73 = some kk ∧ G[kk]? = some 120 ∧ FlN c kk n
def Zrc (G : List Nat) (c : Zc) (m : Nat) (n : Int32) : Prop := ∃ kk : Nat, zgr c m 12 73 = some kk ∧ G[kk]? = some 120 ∧ 1 ≤ n.toInt ∧ n.toInt ≤ 272 ∧ RcM c kk n
end ZzT
