section ZzT
def Zgt (G : List Nat) (c : Zc) (m : Nat) : Prop := GtM c m
def Zwk (G : List Nat) (c : Zc) (m : Nat) : Prop := WkM c m
def Zan (G : List Nat) (c : Zc) (m : Nat) (q : Int32) : Prop := ∃ kr : Nat, ∃ kz : Nat, ∃ v : Int32, ∃ s : Int32, zgr c m 12 23 = some kr ∧ zgr c m 12 22 = some kz ∧ zai c kr 6 q = some v ∧ zai c kz 0 q = some s ∧ G[kr]? = some 78 ∧ G[kz]? = some 77 ∧ ¬ v.toInt = 0 ∧ 0 ≤ s.toInt ∧ s.toInt ≤ 8 ∧ GtM c m ∧ WkS c m s
end ZzT
