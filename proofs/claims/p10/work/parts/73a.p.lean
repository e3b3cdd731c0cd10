section ZzT
abbrev M_Mo_isSmall : List (Nat × Nat) := []
set_option maxRecDepth 100000 in
set_option maxHeartbeats 400000 in
theorem p_Mo_isSmall {nf : Nat} (hn : 8589934592 ≤ nf) {G : List Nat} {c : Zc} (W : Zwt zty G c) {a0 : Int32}   : ∃ q, f_Mo_isSmall nf a0 c = some q ∧ Zwt zty G q.2 ∧ Zfr G M_Mo_isSmall c q.2 ∧ (q.1.toInt = 0 ∨ 97 ≤ a0.toInt) ∧ 0 ≤ q.1.toInt ∧ q.1.toInt ≤ 1 := by
  have F0 : Zfr G M_Mo_isSmall c c := Zfr.rf
  unfold f_Mo_isSmall
  have J1 : ∃ q, f_Mo_isSmall_17 nf 0 c = some q ∧ Zwt zty G q.2 ∧ Zfr G M_Mo_isSmall c q.2 ∧ (q.1.toInt = 0 ∨ 97 ≤ a0.toInt) ∧ 0 ≤ q.1.toInt ∧ q.1.toInt ≤ 1 := by
    unfold f_Mo_isSmall_17
    have := li_0
    exact wz (rgi (by omega) (by omega)) ⟨W, F0, by (try dsimp only); omega, by (try dsimp only); omega, by (try dsimp only); omega⟩
  have J2 : ∃ q, f_Mo_isSmall_16 nf c = some q ∧ Zwt zty G q.2 ∧ Zfr G M_Mo_isSmall c q.2 ∧ (q.1.toInt = 0 ∨ 97 ≤ a0.toInt) ∧ 0 ≤ q.1.toInt ∧ q.1.toInt ≤ 1 := by
    unfold f_Mo_isSmall_16
    exact J1
  refine wi (fun hq3 => ?_) (fun hq3 => ?_)
  · have := li_97
    have := i_ge a0
    have := i_up a0
    have hq3 := i_lt hq3
    exact J2
  · have := li_97
    have := i_ge a0
    have := i_up a0
    have hq3 := i_nlt hq3
    refine wi (fun hq4 => ?_) (fun hq4 => ?_)
    · have := li_122
      have hq4 := i_lt hq4
      exact J2
    · have := li_122
      have hq4 := i_nlt hq4
      unfold f_Mo_isSmall_17
      have := li_1
      exact wz (rgi (by omega) (by omega)) ⟨W, F0, by (try dsimp only); omega, by (try dsimp only); omega, by (try dsimp only); omega⟩

abbrev M_Mo_isDigit : List (Nat × Nat) := []
set_option maxRecDepth 100000 in
set_option maxHeartbeats 400000 in
theorem p_Mo_isDigit {nf : Nat} (hn : 8589934592 ≤ nf) {G : List Nat} {c : Zc} (W : Zwt zty G c) {a0 : Int32}   : ∃ q, f_Mo_isDigit nf a0 c = some q ∧ Zwt zty G q.2 ∧ Zfr G M_Mo_isDigit c q.2 ∧ (q.1.toInt = 0 ∨ (48 ≤ a0.toInt ∧ a0.toInt ≤ 57)) ∧ 0 ≤ q.1.toInt ∧ q.1.toInt ≤ 1 := by
  have F0 : Zfr G M_Mo_isDigit c c := Zfr.rf
  unfold f_Mo_isDigit
  have J1 : ∃ q, f_Mo_isDigit_17 nf 0 c = some q ∧ Zwt zty G q.2 ∧ Zfr G M_Mo_isDigit c q.2 ∧ (q.1.toInt = 0 ∨ (48 ≤ a0.toInt ∧ a0.toInt ≤ 57)) ∧ 0 ≤ q.1.toInt ∧ q.1.toInt ≤ 1 := by
    unfold f_Mo_isDigit_17
    have := li_0
    exact wz (rgi (by omega) (by omega)) ⟨W, F0, by (try dsimp only); omega, by (try dsimp only); omega, by (try dsimp only); omega⟩
  have J2 : ∃ q, f_Mo_isDigit_16 nf c = some q ∧ Zwt zty G q.2 ∧ Zfr G M_Mo_isDigit c q.2 ∧ (q.1.toInt = 0 ∨ (48 ≤ a0.toInt ∧ a0.toInt ≤ 57)) ∧ 0 ≤ q.1.toInt ∧ q.1.toInt ≤ 1 := by
    unfold f_Mo_isDigit_16
    exact J1
  refine wi (fun hq3 => ?_) (fun hq3 => ?_)
  · have := li_48
    have := i_ge a0
    have := i_up a0
    have hq3 := i_lt hq3
    exact J2
  · have := li_48
    have := i_ge a0
    have := i_up a0
    have hq3 := i_nlt hq3
    refine wi (fun hq4 => ?_) (fun hq4 => ?_)
    · have := li_57
      have hq4 := i_lt hq4
      exact J2
    · have := li_57
      have hq4 := i_nlt hq4
      unfold f_Mo_isDigit_17
      have := li_1
      exact wz (rgi (by omega) (by omega)) ⟨W, F0, by (try dsimp only); omega, by (try dsimp only); omega, by (try dsimp only); omega⟩

abbrev M_Mo_isWordByte : List (Nat × Nat) := []
set_option maxRecDepth 100000 in
set_option maxHeartbeats 400000 in
theorem p_Mo_isWordByte {nf : Nat} (hn : 8589934592 ≤ nf) {G : List Nat} {c : Zc} (W : Zwt zty G c) {a0 : Int32}   : ∃ q, f_Mo_isWordByte nf a0 c = some q ∧ Zwt zty G q.2 ∧ Zfr G M_Mo_isWordByte c q.2 ∧ (q.1.toInt = 0 ∨ 48 ≤ a0.toInt) ∧ 0 ≤ q.1.toInt ∧ q.1.toInt ≤ 1 := by
  have F0 : Zfr G M_Mo_isWordByte c c := Zfr.rf
  unfold f_Mo_isWordByte
  obtain ⟨q1, eq1, Wq1, fq1, po0q1, pl1q1, pu1q1⟩ := p_Mo_isSmall hn W (a0 := a0) 
  refine wb eq1 ?_
  have F1 := Zfr.tr F0 fq1 (by decide)
  refine wi (fun hq2 => ?_) (fun hq2 => ?_)
  · have := li_0
    have hq2 := i_eq hq2
    refine wi (fun hq3 => ?_) (fun hq3 => ?_)
    · have := li_65
      have := i_ge a0
      have := i_up a0
      have hq3 := i_lt hq3
      unfold f_Mo_isWordByte_19
      obtain ⟨q4, eq4, Wq4, fq4, po0q4, pl1q4, pu1q4⟩ := p_Mo_isDigit hn Wq1 (a0 := a0) 
      refine wb eq4 ?_
      have F4 := Zfr.tr F1 fq4 (by decide)
      refine wi (fun hq5 => ?_) (fun hq5 => ?_)
      · have hq5 := i_eq hq5
        unfold f_Mo_isWordByte_31
        exact wz (rgi (by omega) (by omega)) ⟨Wq4, F4, by (try dsimp only); omega, by (try dsimp only); omega, by (try dsimp only); omega⟩
      · have hq5 := i_ne hq5
        unfold f_Mo_isWordByte_26
        unfold f_Mo_isWordByte_31
        have := li_1
        exact wz (rgi (by omega) (by omega)) ⟨Wq4, F4, by (try dsimp only); omega, by (try dsimp only); omega, by (try dsimp only); omega⟩
    · have := li_65
      have := i_ge a0
      have := i_up a0
      have hq3 := i_nlt hq3
      refine wi (fun hq6 => ?_) (fun hq6 => ?_)
      · have := li_90
        have hq6 := i_le hq6
        unfold f_Mo_isWordByte_26
        unfold f_Mo_isWordByte_31
        have := li_1
        exact wz (rgi (by omega) (by omega)) ⟨Wq1, F1, by (try dsimp only); omega, by (try dsimp only); omega, by (try dsimp only); omega⟩
      · have := li_90
        have hq6 := i_nle hq6
        unfold f_Mo_isWordByte_19
        obtain ⟨q4, eq4, Wq4, fq4, po0q4, pl1q4, pu1q4⟩ := p_Mo_isDigit hn Wq1 (a0 := a0) 
        refine wb eq4 ?_
        have F7 := Zfr.tr F1 fq4 (by decide)
        refine wi (fun hq8 => ?_) (fun hq8 => ?_)
        · have hq8 := i_eq hq8
          unfold f_Mo_isWordByte_31
          exact wz (rgi (by omega) (by omega)) ⟨Wq4, F7, by (try dsimp only); omega, by (try dsimp only); omega, by (try dsimp only); omega⟩
        · have hq8 := i_ne hq8
          exfalso
          omega
  · have := li_0
    have hq2 := i_ne hq2
    unfold f_Mo_isWordByte_26
    unfold f_Mo_isWordByte_31
    have := li_1
    exact wz (rgi (by omega) (by omega)) ⟨Wq1, F1, by (try dsimp only); omega, by (try dsimp only); omega, by (try dsimp only); omega⟩

abbrev M_Mo_at : List (Nat × Nat) := []
set_option maxRecDepth 100000 in
set_option maxHeartbeats 400000 in
theorem p_Mo_at {nf : Nat} (hn : 8589934592 ≤ nf) {G : List Nat} {c : Zc} (W : Zwt zty G c) {a0 : Nat} {a1 : Int32} {a2 : Int32}  (t_a0 : G[a0]? = some 64) (pl_a1 : 0 ≤ a1.toInt) (pu_a1 : a1.toInt ≤ 1500) (pl_a2 : 0 ≤ a2.toInt) (pu_a2 : a2.toInt ≤ 1500) : ∃ q, f_Mo_at nf a0 a1 a2 c = some q ∧ Zwt zty G q.2 ∧ Zfr G M_Mo_at c q.2 ∧ (a1.toInt < a2.toInt ∨ q.1.toInt = -1) := by
  have F0 : Zfr G M_Mo_at c c := Zfr.rf
  unfold f_Mo_at
  refine wi (fun hq1 => ?_) (fun hq1 => ?_)
  · have hq1 := i_le hq1
    unfold f_Mo_at_19
    have := li_m1
    exact ⟨_, rfl, W, F0, by (try dsimp only); omega⟩
  · have hq1 := i_nle hq1
    obtain ⟨v2, ev2, tv2⟩ := gf_64_12 W t_a0
    refine wb ev2 ?_
    obtain ⟨v3, ev3, _⟩ := ga_73 W tv2 (i := a1) (by omega) (by omega)
    refine wb ev3 ?_
    unfold f_Mo_at_19
    have := li_255
    have := i_andr (a := v3) (b := 255) (by omega)
    exact ⟨_, rfl, W, F0, by (try dsimp only); omega⟩

abbrev M_Mo_isVariable : List (Nat × Nat) := []
set_option maxRecDepth 100000 in
set_option maxHeartbeats 400000 in
theorem p_Mo_isVariable {nf : Nat} (hn : 8589934592 ≤ nf) {G : List Nat} {c : Zc} (W : Zwt zty G c) {a0 : Int32}   : ∃ q, f_Mo_isVariable nf a0 c = some q ∧ Zwt zty G q.2 ∧ Zfr G M_Mo_isVariable c q.2 ∧ (q.1.toInt = 0 ∨ (117 ≤ a0.toInt ∧ a0.toInt ≤ 122)) ∧ 0 ≤ q.1.toInt ∧ q.1.toInt ≤ 1 := by
  have F0 : Zfr G M_Mo_isVariable c c := Zfr.rf
  unfold f_Mo_isVariable
  have J1 : ∃ q, f_Mo_isVariable_17 nf 0 c = some q ∧ Zwt zty G q.2 ∧ Zfr G M_Mo_isVariable c q.2 ∧ (q.1.toInt = 0 ∨ (117 ≤ a0.toInt ∧ a0.toInt ≤ 122)) ∧ 0 ≤ q.1.toInt ∧ q.1.toInt ≤ 1 := by
    unfold f_Mo_isVariable_17
    have := li_0
    exact wz (rgi (by omega) (by omega)) ⟨W, F0, by (try dsimp only); omega, by (try dsimp only); omega, by (try dsimp only); omega⟩
  have J2 : ∃ q, f_Mo_isVariable_16 nf c = some q ∧ Zwt zty G q.2 ∧ Zfr G M_Mo_isVariable c q.2 ∧ (q.1.toInt = 0 ∨ (117 ≤ a0.toInt ∧ a0.toInt ≤ 122)) ∧ 0 ≤ q.1.toInt ∧ q.1.toInt ≤ 1 := by
    unfold f_Mo_isVariable_16
    exact J1
  refine wi (fun hq3 => ?_) (fun hq3 => ?_)
  · have := li_117
    have := i_ge a0
    have := i_up a0
    have hq3 := i_lt hq3
    exact J2
  · have := li_117
    have := i_ge a0
    have := i_up a0
    have hq3 := i_nlt hq3
    refine wi (fun hq4 => ?_) (fun hq4 => ?_)
    · have := li_122
      have hq4 := i_lt hq4
      exact J2
    · have := li_122
      have hq4 := i_nlt hq4
      unfold f_Mo_isVariable_17
      have := li_1
      exact wz (rgi (by omega) (by omega)) ⟨W, F0, by (try dsimp only); omega, by (try dsimp only); omega, by (try dsimp only); omega⟩

abbrev M_Mo_wordKind : List (Nat × Nat) := []
set_option maxRecDepth 100000 in
set_option maxHeartbeats 400000 in
theorem p_Mo_wordKind {nf : Nat} (hn : 8589934592 ≤ nf) {G : List Nat} {c : Zc} (W : Zwt zty G c) {a0 : Int64}   : ∃ q, f_Mo_wordKind nf a0 c = some q ∧ Zwt zty G q.2 ∧ Zfr G M_Mo_wordKind c q.2 ∧ (q.1.toInt = 1 ∨ 100 ≤ q.1.toInt) ∧ 1 ≤ q.1.toInt ∧ q.1.toInt ≤ 113 := by
  have F0 : Zfr G M_Mo_wordKind c c := Zfr.rf
  unfold f_Mo_wordKind
  refine wi (fun hq1 => ?_) (fun hq1 => ?_)
  · have := li_0
    have hq1 := i_eq hq1
    have := li_100
    exact ⟨_, rfl, W, F0, by (try dsimp only); omega, by (try dsimp only); omega, by (try dsimp only); omega⟩
  · have := li_0
    have hq1 := i_ne hq1
    refine wi (fun hq2 => ?_) (fun hq2 => ?_)
    · have hq2 := i_eq hq2
      have := li_101
      exact ⟨_, rfl, W, F0, by (try dsimp only); omega, by (try dsimp only); omega, by (try dsimp only); omega⟩
    · have hq2 := i_ne hq2
      refine wi (fun hq3 => ?_) (fun hq3 => ?_)
      · have hq3 := i_eq hq3
        have := li_102
        exact ⟨_, rfl, W, F0, by (try dsimp only); omega, by (try dsimp only); omega, by (try dsimp only); omega⟩
      · have hq3 := i_ne hq3
        refine wi (fun hq4 => ?_) (fun hq4 => ?_)
        · have hq4 := i_eq hq4
          have := li_103
          exact ⟨_, rfl, W, F0, by (try dsimp only); omega, by (try dsimp only); omega, by (try dsimp only); omega⟩
        · have hq4 := i_ne hq4
          refine wi (fun hq5 => ?_) (fun hq5 => ?_)
          · have hq5 := i_eq hq5
            have := li_104
            exact ⟨_, rfl, W, F0, by (try dsimp only); omega, by (try dsimp only); omega, by (try dsimp only); omega⟩
          · have hq5 := i_ne hq5
            refine wi (fun hq6 => ?_) (fun hq6 => ?_)
            · have hq6 := i_eq hq6
              have := li_105
              exact ⟨_, rfl, W, F0, by (try dsimp only); omega, by (try dsimp only); omega, by (try dsimp only); omega⟩
            · have hq6 := i_ne hq6
              refine wi (fun hq7 => ?_) (fun hq7 => ?_)
              · have hq7 := i_eq hq7
                have := li_106
                exact ⟨_, rfl, W, F0, by (try dsimp only); omega, by (try dsimp only); omega, by (try dsimp only); omega⟩
              · have hq7 := i_ne hq7
                refine wi (fun hq8 => ?_) (fun hq8 => ?_)
                · have hq8 := i_eq hq8
                  have := li_107
                  exact ⟨_, rfl, W, F0, by (try dsimp only); omega, by (try dsimp only); omega, by (try dsimp only); omega⟩
                · have hq8 := i_ne hq8
                  refine wi (fun hq9 => ?_) (fun hq9 => ?_)
                  · have hq9 := i_eq hq9
                    have := li_108
                    exact ⟨_, rfl, W, F0, by (try dsimp only); omega, by (try dsimp only); omega, by (try dsimp only); omega⟩
                  · have hq9 := i_ne hq9
                    refine wi (fun hq10 => ?_) (fun hq10 => ?_)
                    · have hq10 := i_eq hq10
                      have := li_109
                      exact ⟨_, rfl, W, F0, by (try dsimp only); omega, by (try dsimp only); omega, by (try dsimp only); omega⟩
                    · have hq10 := i_ne hq10
                      refine wi (fun hq11 => ?_) (fun hq11 => ?_)
                      · have hq11 := i_eq hq11
                        have := li_110
                        exact ⟨_, rfl, W, F0, by (try dsimp only); omega, by (try dsimp only); omega, by (try dsimp only); omega⟩
                      · have hq11 := i_ne hq11
                        refine wi (fun hq12 => ?_) (fun hq12 => ?_)
                        · have hq12 := i_eq hq12
                          have := li_111
                          exact ⟨_, rfl, W, F0, by (try dsimp only); omega, by (try dsimp only); omega, by (try dsimp only); omega⟩
                        · have hq12 := i_ne hq12
                          refine wi (fun hq13 => ?_) (fun hq13 => ?_)
                          · have hq13 := i_eq hq13
                            have := li_112
                            exact ⟨_, rfl, W, F0, by (try dsimp only); omega, by (try dsimp only); omega, by (try dsimp only); omega⟩
                          · have hq13 := i_ne hq13
                            refine wi (fun hq14 => ?_) (fun hq14 => ?_)
                            · have hq14 := i_eq hq14
                              have := li_113
                              exact ⟨_, rfl, W, F0, by (try dsimp only); omega, by (try dsimp only); omega, by (try dsimp only); omega⟩
                            · have hq14 := i_ne hq14
                              have := li_1
                              exact ⟨_, rfl, W, F0, by (try dsimp only); omega, by (try dsimp only); omega, by (try dsimp only); omega⟩

abbrev M_Mo_signKind : List (Nat × Nat) := []
set_option maxRecDepth 100000 in
set_option maxHeartbeats 400000 in
theorem p_Mo_signKind {nf : Nat} (hn : 8589934592 ≤ nf) {G : List Nat} {c : Zc} (W : Zwt zty G c) {a0 : Int32} {a1 : Int32}   : ∃ q, f_Mo_signKind nf a0 a1 c = some q ∧ Zwt zty G q.2 ∧ Zfr G M_Mo_signKind c q.2 ∧ (q.1.toInt = 1 ∨ 40 ≤ q.1.toInt) ∧ 1 ≤ q.1.toInt ∧ q.1.toInt ≤ 205 := by
  have F0 : Zfr G M_Mo_signKind c c := Zfr.rf
  unfold f_Mo_signKind
  refine wi (fun hq1 => ?_) (fun hq1 => ?_)
  · have := li_33
    have := i_ge a0
    have := i_up a0
    have hq1 := i_eq hq1
    refine wi (fun hq2 => ?_) (fun hq2 => ?_)
    · have := li_61
      have := i_ge a1
      have := i_up a1
      have hq2 := i_eq hq2
      unfold f_Mo_signKind_223
      have := li_203
      exact ⟨_, rfl, W, F0, by (try dsimp only); omega, by (try dsimp only); omega, by (try dsimp only); omega⟩
    · have := li_61
      have := i_ge a1
      have := i_up a1
      have hq2 := i_ne hq2
      unfold f_Mo_signKind_223
      have := li_1
      exact ⟨_, rfl, W, F0, by (try dsimp only); omega, by (try dsimp only); omega, by (try dsimp only); omega⟩
  · have := li_33
    have := i_ge a0
    have := i_up a0
    have hq1 := i_ne hq1
    refine wi (fun hq3 => ?_) (fun hq3 => ?_)
    · have := li_40
      have hq3 := i_eq hq3
      exact ⟨_, rfl, W, F0, by (try dsimp only); omega, by (try dsimp only); omega, by (try dsimp only); omega⟩
    · have := li_40
      have hq3 := i_ne hq3
      refine wi (fun hq4 => ?_) (fun hq4 => ?_)
      · have := li_41
        have hq4 := i_eq hq4
        exact ⟨_, rfl, W, F0, by (try dsimp only); omega, by (try dsimp only); omega, by (try dsimp only); omega⟩
      · have := li_41
        have hq4 := i_ne hq4
        refine wi (fun hq5 => ?_) (fun hq5 => ?_)
        · have := li_42
          have hq5 := i_eq hq5
          exact ⟨_, rfl, W, F0, by (try dsimp only); omega, by (try dsimp only); omega, by (try dsimp only); omega⟩
        · have := li_42
          have hq5 := i_ne hq5
          refine wi (fun hq6 => ?_) (fun hq6 => ?_)
          · have := li_43
            have hq6 := i_eq hq6
            exact ⟨_, rfl, W, F0, by (try dsimp only); omega, by (try dsimp only); omega, by (try dsimp only); omega⟩
          · have := li_43
            have hq6 := i_ne hq6
            refine wi (fun hq7 => ?_) (fun hq7 => ?_)
            · have := li_44
              have hq7 := i_eq hq7
              exact ⟨_, rfl, W, F0, by (try dsimp only); omega, by (try dsimp only); omega, by (try dsimp only); omega⟩
            · have := li_44
              have hq7 := i_ne hq7
              refine wi (fun hq8 => ?_) (fun hq8 => ?_)
              · have := li_45
                have hq8 := i_eq hq8
                refine wi (fun hq9 => ?_) (fun hq9 => ?_)
                · have := li_62
                  have := i_ge a1
                  have := i_up a1
                  have hq9 := i_eq hq9
                  unfold f_Mo_signKind_169
                  have := li_201
                  exact ⟨_, rfl, W, F0, by (try dsimp only); omega, by (try dsimp only); omega, by (try dsimp only); omega⟩
                · have := li_62
                  have := i_ge a1
                  have := i_up a1
                  have hq9 := i_ne hq9
                  unfold f_Mo_signKind_169
                  exact ⟨_, rfl, W, F0, by (try dsimp only); omega, by (try dsimp only); omega, by (try dsimp only); omega⟩
              · have := li_45
                have hq8 := i_ne hq8
                refine wi (fun hq10 => ?_) (fun hq10 => ?_)
                · have := li_46
                  have hq10 := i_eq hq10
                  exact ⟨_, rfl, W, F0, by (try dsimp only); omega, by (try dsimp only); omega, by (try dsimp only); omega⟩
                · have := li_46
                  have hq10 := i_ne hq10
                  refine wi (fun hq11 => ?_) (fun hq11 => ?_)
                  · have := li_58
                    have hq11 := i_eq hq11
                    exact ⟨_, rfl, W, F0, by (try dsimp only); omega, by (try dsimp only); omega, by (try dsimp only); omega⟩
                  · have := li_58
                    have hq11 := i_ne hq11
                    refine wi (fun hq12 => ?_) (fun hq12 => ?_)
                    · have := li_60
                      have hq12 := i_eq hq12
                      refine wi (fun hq13 => ?_) (fun hq13 => ?_)
                      · have := i_ge a1
                        have := i_up a1
                        have hq13 := i_eq hq13
                        unfold f_Mo_signKind_195
                        have := li_202
                        exact ⟨_, rfl, W, F0, by (try dsimp only); omega, by (try dsimp only); omega, by (try dsimp only); omega⟩
                      · have := i_ge a1
                        have := i_up a1
                        have hq13 := i_ne hq13
                        refine wi (fun hq14 => ?_) (fun hq14 => ?_)
                        · have := li_61
                          have hq14 := i_eq hq14
                          unfold f_Mo_signKind_195
                          have := li_204
                          exact ⟨_, rfl, W, F0, by (try dsimp only); omega, by (try dsimp only); omega, by (try dsimp only); omega⟩
                        · have := li_61
                          have hq14 := i_ne hq14
                          unfold f_Mo_signKind_195
                          exact ⟨_, rfl, W, F0, by (try dsimp only); omega, by (try dsimp only); omega, by (try dsimp only); omega⟩
                    · have := li_60
                      have hq12 := i_ne hq12
                      refine wi (fun hq15 => ?_) (fun hq15 => ?_)
                      · have := li_61
                        have hq15 := i_eq hq15
                        exact ⟨_, rfl, W, F0, by (try dsimp only); omega, by (try dsimp only); omega, by (try dsimp only); omega⟩
                      · have := li_61
                        have hq15 := i_ne hq15
                        refine wi (fun hq16 => ?_) (fun hq16 => ?_)
                        · have := li_62
                          have hq16 := i_eq hq16
                          refine wi (fun hq17 => ?_) (fun hq17 => ?_)
                          · have := i_ge a1
                            have := i_up a1
                            have hq17 := i_eq hq17
                            unfold f_Mo_signKind_209
                            have := li_205
                            exact ⟨_, rfl, W, F0, by (try dsimp only); omega, by (try dsimp only); omega, by (try dsimp only); omega⟩
                          · have := i_ge a1
                            have := i_up a1
                            have hq17 := i_ne hq17
                            unfold f_Mo_signKind_209
                            exact ⟨_, rfl, W, F0, by (try dsimp only); omega, by (try dsimp only); omega, by (try dsimp only); omega⟩
                        · have := li_62
                          have hq16 := i_ne hq16
                          refine wi (fun hq18 => ?_) (fun hq18 => ?_)
                          · have := li_63
                            have hq18 := i_eq hq18
                            exact ⟨_, rfl, W, F0, by (try dsimp only); omega, by (try dsimp only); omega, by (try dsimp only); omega⟩
                          · have := li_63
                            have hq18 := i_ne hq18
                            refine wi (fun hq19 => ?_) (fun hq19 => ?_)
                            · have := li_91
                              have hq19 := i_eq hq19
                              exact ⟨_, rfl, W, F0, by (try dsimp only); omega, by (try dsimp only); omega, by (try dsimp only); omega⟩
                            · have := li_91
                              have hq19 := i_ne hq19
                              refine wi (fun hq20 => ?_) (fun hq20 => ?_)
                              · have := li_93
                                have hq20 := i_eq hq20
                                exact ⟨_, rfl, W, F0, by (try dsimp only); omega, by (try dsimp only); omega, by (try dsimp only); omega⟩
                              · have := li_93
                                have hq20 := i_ne hq20
                                refine wi (fun hq21 => ?_) (fun hq21 => ?_)
                                · have := li_94
                                  have hq21 := i_eq hq21
                                  exact ⟨_, rfl, W, F0, by (try dsimp only); omega, by (try dsimp only); omega, by (try dsimp only); omega⟩
                                · have := li_94
                                  have hq21 := i_ne hq21
                                  refine wi (fun hq22 => ?_) (fun hq22 => ?_)
                                  · have := li_95
                                    have hq22 := i_eq hq22
                                    exact ⟨_, rfl, W, F0, by (try dsimp only); omega, by (try dsimp only); omega, by (try dsimp only); omega⟩
                                  · have := li_95
                                    have hq22 := i_ne hq22
                                    refine wi (fun hq23 => ?_) (fun hq23 => ?_)
                                    · have := li_124
                                      have hq23 := i_eq hq23
                                      exact ⟨_, rfl, W, F0, by (try dsimp only); omega, by (try dsimp only); omega, by (try dsimp only); omega⟩
                                    · have := li_124
                                      have hq23 := i_ne hq23
                                      have := li_1
                                      exact ⟨_, rfl, W, F0, by (try dsimp only); omega, by (try dsimp only); omega, by (try dsimp only); omega⟩

abbrev M_Mo_isIn : List (Nat × Nat) := []
set_option maxRecDepth 100000 in
set_option maxHeartbeats 400000 in
theorem p_Mo_isIn {nf : Nat} (hn : 8589934592 ≤ nf) {G : List Nat} {c : Zc} (W : Zwt zty G c) {a0 : Int32} {a1 : Int32}   : ∃ q, f_Mo_isIn nf a0 a1 c = some q ∧ Zwt zty G q.2 ∧ Zfr G M_Mo_isIn c q.2 ∧ (q.1.toInt = 0 ∨ (0 ≤ a0.toInt ∧ a0.toInt < a1.toInt)) ∧ (q.1.toInt = 1 ∨ ¬ (0 ≤ a0.toInt ∧ a0.toInt < a1.toInt)) ∧ 0 ≤ q.1.toInt ∧ q.1.toInt ≤ 1 := by
  have F0 : Zfr G M_Mo_isIn c c := Zfr.rf
  unfold f_Mo_isIn
  refine wi (fun hq1 => ?_) (fun hq1 => ?_)
  · have := li_0
    have := i_ge a0
    have := i_up a0
    have hq1 := i_lt hq1
    unfold f_Mo_isIn_13
    unfold f_Mo_isIn_14
    exact wz (rgi (by omega) (by omega)) ⟨W, F0, by (try dsimp only); omega, by (try dsimp only); omega, by (try dsimp only); omega, by (try dsimp only); omega⟩
  · have := li_0
    have := i_ge a0
    have := i_up a0
    have hq1 := i_nlt hq1
    refine wi (fun hq2 => ?_) (fun hq2 => ?_)
    · have := i_ge a1
      have := i_up a1
      have hq2 := i_le hq2
      unfold f_Mo_isIn_13
      unfold f_Mo_isIn_14
      exact wz (rgi (by omega) (by omega)) ⟨W, F0, by (try dsimp only); omega, by (try dsimp only); omega, by (try dsimp only); omega, by (try dsimp only); omega⟩
    · have := i_ge a1
      have := i_up a1
      have hq2 := i_nle hq2
      unfold f_Mo_isIn_14
      have := li_1
      exact wz (rgi (by omega) (by omega)) ⟨W, F0, by (try dsimp only); omega, by (try dsimp only); omega, by (try dsimp only); omega, by (try dsimp only); omega⟩

abbrev M_Mo_changed : List (Nat × Nat) := [(64, 10), (131, 0)]
set_option maxRecDepth 100000 in
set_option maxHeartbeats 400000 in
theorem p_Mo_changed {nf : Nat} (hn : 8589934592 ≤ nf) {G : List Nat} {c : Zc} (W : Zwt zty G c) {a0 : Nat}  (t_a0 : G[a0]? = some 64) : ∃ q, f_Mo_changed nf a0 c = some q ∧ Zwt zty G q ∧ Zfr G M_Mo_changed c q := by
  have F0 : Zfr G M_Mo_changed c c := Zfr.rf
  unfold f_Mo_changed
  have := li_1
  obtain ⟨c1, ec1, Wc1, fc1, gc1⟩ := pf_64_10 W t_a0 (x := 1) (rgi (by omega) (by omega))
  refine wb ec1 ?_
  have F1 := Zfr.tr F0 fc1 (by decide)
  unfold f_Mo_changed_7
  have := li_0
  have L2 : ∃ b, zlp (fun a : Nat × Int32 × Zc => g_Mo_changed_7 nf a.1 a.2.1 a.2.2) nf (a0, 0, c1) = some b ∧ (fun b : (Zc) => Zwt zty G b ∧ Zfr G ([(131, 0)] : List (Nat × Nat)) c1 b) b := by
    refine wlp (fun a : Nat × Int32 × Zc => a0 = a.1 ∧ Zwt zty G a.2.2 ∧ Zfr G ([(131, 0)] : List (Nat × Nat)) c1 a.2.2 ∧ 0 ≤ a.2.1.toInt ∧ a.2.1.toInt ≤ 4) (fun a => (4 - a.2.1.toInt).toNat) (fun b : (Zc) => Zwt zty G b ∧ Zfr G ([(131, 0)] : List (Nat × Nat)) c1 b) ?_ ?_ ?_
    · rintro ⟨x0_3, x1_3, c_3⟩ hI
      try dsimp only at hI ⊢
      obtain ⟨rfl, WLc_3, FLc_3, j4, j5⟩ := hI
      unfold g_Mo_changed_7
      refine wi (fun hq6 => ?_) (fun hq6 => ?_)
      · have := li_4
        have hq6 := i_le hq6
        exact lInr ⟨WLc_3, FLc_3⟩
      · have := li_4
        have hq6 := i_nle hq6
        obtain ⟨v3, ev3, tv3⟩ := gf_64_85 WLc_3 t_a0
        refine wb ev3 ?_
        have := nb_0
        obtain ⟨c4, ec4, Wc4, fc4, gc4⟩ := pa_131 WLc_3 tv3 (i := x1_3) (by omega) (by omega) (x := (vp_nar .boolean 0)) (rgi (by omega) (by omega))
        refine wb ec4 ?_
        have F7 := Zfr.tr FLc_3 fc4 (by decide)
        have := i_add (a := x1_3) (b := 1) (by omega) (by omega)
        exact lInl ⟨rfl, Wc4, F7, by (try dsimp only); omega, by (try dsimp only); omega⟩ (by (try dsimp only); omega)
    · exact ⟨rfl, Wc1, Zfr.rf, by (try dsimp only); omega, by (try dsimp only); omega⟩
    · (try dsimp only); omega
  obtain ⟨b, eb, hb⟩ := L2
  refine wb eb ?_
  clear eb
  obtain c_8 := b
  try dsimp only at hb ⊢
  obtain ⟨WXc_8, FXc_8⟩ := hb
  have F9 := Zfr.tr F1 FXc_8 (by decide)
  exact ⟨_, rfl, WXc_8, F9⟩

abbrev M_Mo_feedOne : List (Nat × Nat) := [(64, 13), (73, 0)]
set_option maxRecDepth 100000 in
set_option maxHeartbeats 400000 in
theorem p_Mo_feedOne {nf : Nat} (hn : 8589934592 ≤ nf) {G : List Nat} {c : Zc} (W : Zwt zty G c) {a0 : Nat} {a1 : Int32} {tp : Int32} (t_a0 : G[a0]? = some 64) (pl_tp : 0 ≤ tp.toInt) (pu_tp : tp.toInt ≤ 1496) (eh_tp : zgi c a0 12 13 = some tp) : ∃ q, f_Mo_feedOne nf a0 a1 c = some q ∧ Zwt zty G q ∧ Zfr G M_Mo_feedOne c q ∧ Zmt4 G q a0 tp := by
  have F0 : Zfr G M_Mo_feedOne c c := Zfr.rf
  unfold f_Mo_feedOne
  unfold f_Mo_feedOne_3
  have := li_24
  have L1 : ∃ b, zlp (fun a : Nat × Int32 × Int32 × Zc => g_Mo_feedOne_3 nf a.1 a.2.1 a.2.2.1 a.2.2.2) nf (a0, a1, 24, c) = some b ∧ (fun b : (Zc) => Zwt zty G b ∧ Zfr G ([(64, 13), (73, 0)] : List (Nat × Nat)) c b ∧ ∃ nH, zgi b a0 12 13 = some nH ∧ nH.toInt = tp.toInt + 4) b := by
    refine wlp (fun a : Nat × Int32 × Int32 × Zc => a0 = a.1 ∧ a1 = a.2.1 ∧ Zwt zty G a.2.2.2 ∧ Zfr G ([(64, 13), (73, 0)] : List (Nat × Nat)) c a.2.2.2 ∧ (-8) ≤ a.2.2.1.toInt ∧ a.2.2.1.toInt ≤ 24 ∧ ∃ nH, zgi a.2.2.2 a0 12 13 = some nH ∧ 8 * (nH.toInt - tp.toInt) + a.2.2.1.toInt = 24) (fun a => (a.2.2.1.toInt + 8).toNat) (fun b : (Zc) => Zwt zty G b ∧ Zfr G ([(64, 13), (73, 0)] : List (Nat × Nat)) c b ∧ ∃ nH, zgi b a0 12 13 = some nH ∧ nH.toInt = tp.toInt + 4) ?_ ?_ ?_
    · rintro ⟨x0_2, x1_2, x2_2, c_2⟩ hI
      try dsimp only at hI ⊢
      obtain ⟨rfl, rfl, WLc_2, FLc_2, j3, j4, n_2, ehn_2, j5⟩ := hI
      unfold g_Mo_feedOne_3
      refine wi (fun hq6 => ?_) (fun hq6 => ?_)
      · have := li_0
        have hq6 := i_lt hq6
        exact lInr ⟨WLc_2, FLc_2, n_2, ehn_2, by (try dsimp only); omega⟩
      · have := li_0
        have hq6 := i_nlt hq6
        obtain ⟨v2, ev2, tv2⟩ := gf_64_12 WLc_2 t_a0
        refine wb ev2 ?_
        refine wb ehn_2 ?_
        obtain ⟨c4, ec4, Wc4, fc4, gc4⟩ := pa_73 WLc_2 tv2 (i := n_2) (by omega) (by omega) (x := (vp_nar .byte (Int8.toInt32 (Int32.toInt8 ((Int32.toUInt32 a1 >>> (Int32.toUInt32 x2_2 &&& Int32.toUInt32 31))).toInt32)))) (trivial)
        refine wb ec4 ?_
        have e8 := (Zfr.gi fc4 t_a0 (by decide)).trans ehn_2
        have F9 := Zfr.tr FLc_2 fc4 (by decide)
        refine wb e8 ?_
        have := li_1
        have := i_add (a := n_2) (b := 1) (by omega) (by omega)
        obtain ⟨c6, ec6, Wc6, fc6, gc6⟩ := pf_64_13 Wc4 t_a0 (x := (n_2 + 1)) (rgi (by omega) (by omega))
        refine wb ec6 ?_
        have F10 := Zfr.tr F9 fc6 (by decide)
        have := li_m8
        have hg11 := i_add (a := x2_2) (b := (-8)) (by omega) (by omega)
        generalize (x2_2 + (-8)) = y12 at hg11 ⊢
        exact lInl ⟨rfl, rfl, Wc6, F10, by (try dsimp only); omega, by (try dsimp only); omega, (n_2 + 1), gc6, by (try dsimp only); omega⟩ (by (try dsimp only); omega)
    · exact ⟨rfl, rfl, W, Zfr.rf, by (try dsimp only); omega, by (try dsimp only); omega, tp, eh_tp, by (try dsimp only); omega⟩
    · (try dsimp only); omega
  obtain ⟨b, eb, hb⟩ := L1
  refine wb eb ?_
  clear eb
  obtain c_15 := b
  try dsimp only at hb ⊢
  obtain ⟨WXc_15, FXc_15, nXc_15, exnc_15, j16⟩ := hb
  have F17 := Zfr.tr F0 FXc_15 (by decide)
  obtain ⟨xq, xe, lw_18, uw_18⟩ := gf_64_13 WXc_15 t_a0
  rw [exnc_15] at xe; cases xe
  exact ⟨_, rfl, WXc_15, F17, ⟨nXc_15, exnc_15, by (try dsimp only); omega⟩⟩

abbrev M_Mo_feed : List (Nat × Nat) := [(64, 13), (73, 0)]
set_option maxRecDepth 100000 in
set_option maxHeartbeats 400000 in
theorem p_Mo_feed {nf : Nat} (hn : 8589934592 ≤ nf) {G : List Nat} {c : Zc} (W : Zwt zty G c) {a0 : Nat} {a1 : Int32} {a2 : Int32} {a3 : Int32} {a4 : Int32} {a5 : Int32} {tp : Int32} (t_a0 : G[a0]? = some 64) (pl_tp : 0 ≤ tp.toInt) (pu_tp : tp.toInt ≤ 1500) (eh_tp : zgi c a0 12 13 = some tp) : ∃ q, f_Mo_feed nf a0 a1 a2 a3 a4 a5 c = some q ∧ Zwt zty G q.2 ∧ Zfr G M_Mo_feed c q.2 ∧ Zmfd G q.2 a0 q.1 tp := by
  have F0 : Zfr G M_Mo_feed c c := Zfr.rf
  unfold f_Mo_feed
  refine wb eh_tp ?_
  refine wi (fun hq1 => ?_) (fun hq1 => ?_)
  · have := li_20
    have := i_add (a := tp) (b := 20) (by omega) (by omega)
    have := li_1500
    have hq1 := i_le hq1
    obtain ⟨w4, ew4⟩ := go_64 W t_a0
    refine wb ew4 ?_
    obtain ⟨q3, eq3, Wq3, fq3, pbZmt4q3⟩ := p_Mo_feedOne hn W (a1 := a1) t_a0 (by omega) (by omega) eh_tp
    refine wb eq3 ?_
    have F3 := Zfr.tr F0 fq3 (by decide)
    obtain ⟨bnq3, h0Zmt4q3, r0Zmt4q3⟩ := pbZmt4q3
    obtain ⟨w6, ew6⟩ := go_64 Wq3 t_a0
    refine wb ew6 ?_
    obtain ⟨q5, eq5, Wq5, fq5, pbZmt4q5⟩ := p_Mo_feedOne hn Wq3 (a1 := a2) t_a0 (by omega) (by omega) h0Zmt4q3
    refine wb eq5 ?_
    have F5 := Zfr.tr F3 fq5 (by decide)
    obtain ⟨bnq5, h0Zmt4q5, r0Zmt4q5⟩ := pbZmt4q5
    obtain ⟨w8, ew8⟩ := go_64 Wq5 t_a0
    refine wb ew8 ?_
    obtain ⟨q7, eq7, Wq7, fq7, pbZmt4q7⟩ := p_Mo_feedOne hn Wq5 (a1 := a3) t_a0 (by omega) (by omega) h0Zmt4q5
    refine wb eq7 ?_
    have F7 := Zfr.tr F5 fq7 (by decide)
    obtain ⟨bnq7, h0Zmt4q7, r0Zmt4q7⟩ := pbZmt4q7
    obtain ⟨w10, ew10⟩ := go_64 Wq7 t_a0
    refine wb ew10 ?_
    obtain ⟨q9, eq9, Wq9, fq9, pbZmt4q9⟩ := p_Mo_feedOne hn Wq7 (a1 := a4) t_a0 (by omega) (by omega) h0Zmt4q7
    refine wb eq9 ?_
    have F9 := Zfr.tr F7 fq9 (by decide)
    obtain ⟨bnq9, h0Zmt4q9, r0Zmt4q9⟩ := pbZmt4q9
    obtain ⟨w12, ew12⟩ := go_64 Wq9 t_a0
    refine wb ew12 ?_
    obtain ⟨q11, eq11, Wq11, fq11, pbZmt4q11⟩ := p_Mo_feedOne hn Wq9 (a1 := a5) t_a0 (by omega) (by omega) h0Zmt4q9
    refine wb eq11 ?_
    have F11 := Zfr.tr F9 fq11 (by decide)
    obtain ⟨bnq11, h0Zmt4q11, r0Zmt4q11⟩ := pbZmt4q11
    refine wb h0Zmt4q11 ?_
    exact ⟨_, rfl, Wq11, F11, ⟨bnq11, h0Zmt4q11, by (try dsimp only); omega⟩⟩
  · have := li_20
    have := i_add (a := tp) (b := 20) (by omega) (by omega)
    have := li_1500
    have hq1 := i_nle hq1
    have := li_m3
    exact ⟨_, rfl, W, F0, ⟨tp, eh_tp, by (try dsimp only); omega⟩⟩

abbrev M_Mo_cut : List (Nat × Nat) := [(64, 13)]
set_option maxRecDepth 100000 in
set_option maxHeartbeats 400000 in
theorem p_Mo_cut {nf : Nat} (hn : 8589934592 ≤ nf) {G : List Nat} {c : Zc} (W : Zwt zty G c) {a0 : Nat} {a1 : Int32} {tp : Int32} (t_a0 : G[a0]? = some 64) (pl_tp : 0 ≤ tp.toInt) (pu_tp : tp.toInt ≤ 1500) (eh_tp : zgi c a0 12 13 = some tp) : ∃ q, f_Mo_cut nf a0 a1 c = some q ∧ Zwt zty G q.2 ∧ Zfr G M_Mo_cut c q.2 ∧ Zmct G q.2 a0 q.1 tp a1 := by
  have F0 : Zfr G M_Mo_cut c c := Zfr.rf
  unfold f_Mo_cut
  refine wi (fun hq1 => ?_) (fun hq1 => ?_)
  · have := li_0
    have := i_ge a1
    have := i_up a1
    have hq1 := i_lt hq1
    unfold f_Mo_cut_12
    have := li_m1
    exact ⟨_, rfl, W, F0, ⟨tp, eh_tp, by (try dsimp only); omega⟩⟩
  · have := li_0
    have := i_ge a1
    have := i_up a1
    have hq1 := i_nlt hq1
    refine wb eh_tp ?_
    refine wi (fun hq3 => ?_) (fun hq3 => ?_)
    · have hq3 := i_le hq3
      refine wb eh_tp ?_
      have := i_sub (a := tp) (b := a1) (by omega) (by omega)
      obtain ⟨c5, ec5, Wc5, fc5, gc5⟩ := pf_64_13 W t_a0 (x := (tp - a1)) (rgi (by omega) (by omega))
      refine wb ec5 ?_
      have F4 := Zfr.tr F0 fc5 (by decide)
      refine wb gc5 ?_
      exact ⟨_, rfl, Wc5, F4, ⟨(tp - a1), gc5, by (try dsimp only); omega⟩⟩
    · have hq3 := i_nle hq3
      unfold f_Mo_cut_12
      have := li_m1
      exact ⟨_, rfl, W, F0, ⟨tp, eh_tp, by (try dsimp only); omega⟩⟩

abbrev M_Mo_node : List (Nat × Nat) := [(64, 0), (64, 10), (65, 0), (66, 0), (131, 0)]
set_option maxRecDepth 100000 in
set_option maxHeartbeats 400000 in
theorem p_Mo_node {nf : Nat} (hn : 8589934592 ≤ nf) {G : List Nat} {c : Zc} (W : Zwt zty G c) {a0 : Nat} {a1 : Int32}  (t_a0 : G[a0]? = some 64) : ∃ q, f_Mo_node nf a0 a1 c = some q ∧ Zwt zty G q.2 ∧ Zfr G M_Mo_node c q.2 := by
  have F0 : Zfr G M_Mo_node c c := Zfr.rf
  unfold f_Mo_node
  have := li_256
  obtain ⟨q1, eq1, Wq1, fq1, po0q1, po1q1, pl2q1, pu2q1⟩ := p_Mo_isIn hn W (a0 := a1) (a1 := 256) 
  refine wb eq1 ?_
  have F1 := Zfr.tr F0 fq1 (by decide)
  refine wi (fun hq2 => ?_) (fun hq2 => ?_)
  · have := li_0
    have hq2 := i_eq hq2
    have := li_m1
    exact ⟨_, rfl, Wq1, F1⟩
  · have := li_0
    have hq2 := i_ne hq2
    obtain ⟨v3, ev3, lv3, uv3⟩ := gf_64_0 Wq1 t_a0
    refine wb ev3 ?_
    refine wi (fun hq3 => ?_) (fun hq3 => ?_)
    · have := li_16
      have hq3 := i_eq hq3
      have := li_m3
      exact ⟨_, rfl, Wq1, F1⟩
    · have := li_16
      have hq3 := i_ne hq3
      obtain ⟨v5, ev5, tv5⟩ := gf_64_1 Wq1 t_a0
      refine wb ev5 ?_
      refine wb ev3 ?_
      obtain ⟨c7, ec7, Wc7, fc7, gc7⟩ := pa_65 Wq1 tv5 (i := v3) (by omega) (by omega) (x := a1) (rgi (by omega) (by omega))
      refine wb ec7 ?_
      have e4 := (Zfr.gi fc7 t_a0 (by decide)).trans ev3
      have F5 := Zfr.tr F1 fc7 (by decide)
      unfold f_Mo_node_36
      have L6 : ∃ b, zlp (fun a : Nat × Int32 × Zc => g_Mo_node_36 nf a.1 a.2.1 a.2.2) nf (a0, 0, c7) = some b ∧ (fun b : (Nat × Zc) => a0 = b.1 ∧ Zwt zty G b.2 ∧ Zfr G ([(66, 0)] : List (Nat × Nat)) c7 b.2) b := by
        refine wlp (fun a : Nat × Int32 × Zc => a0 = a.1 ∧ Zwt zty G a.2.2 ∧ Zfr G ([(66, 0)] : List (Nat × Nat)) c7 a.2.2 ∧ 0 ≤ a.2.1.toInt ∧ a.2.1.toInt ≤ 4) (fun a => (4 - a.2.1.toInt).toNat) (fun b : (Nat × Zc) => a0 = b.1 ∧ Zwt zty G b.2 ∧ Zfr G ([(66, 0)] : List (Nat × Nat)) c7 b.2) ?_ ?_ ?_
        · rintro ⟨x0_7, x2_7, c_7⟩ hI
          try dsimp only at hI ⊢
          obtain ⟨rfl, WLc_7, FLc_7, j8, j9⟩ := hI
          have e10 := (Zfr.gi FLc_7 t_a0 (by decide)).trans e4
          unfold g_Mo_node_36
          refine wi (fun hq11 => ?_) (fun hq11 => ?_)
          · have := li_4
            have hq11 := i_le hq11
            exact lInr ⟨rfl, WLc_7, FLc_7⟩
          · have := li_4
            have hq11 := i_nle hq11
            obtain ⟨v9, ev9, tv9⟩ := gf_64_2 WLc_7 t_a0
            refine wb ev9 ?_
            refine wb e10 ?_
            have := i_mull (a := 4) (b := v3) (n := 4) li_4 (by omega) (by omega)
            have := i_add (a := (4 * v3)) (b := x2_7) (by omega) (by omega)
            obtain ⟨c11, ec11, Wc11, fc11, gc11⟩ := pa_66 WLc_7 tv9 (i := ((4 * v3) + x2_7)) (by omega) (by omega) (x := 0) (rgi (by omega) (by omega))
            refine wb ec11 ?_
            have F12 := Zfr.tr FLc_7 fc11 (by decide)
            have := li_1
            have := i_add (a := x2_7) (b := 1) (by omega) (by omega)
            exact lInl ⟨rfl, Wc11, F12, by (try dsimp only); omega, by (try dsimp only); omega⟩ (by (try dsimp only); omega)
        · exact ⟨rfl, Wc7, Zfr.rf, by (try dsimp only); omega, by (try dsimp only); omega⟩
        · (try dsimp only); omega
      obtain ⟨b, eb, hb⟩ := L6
      refine wb eb ?_
      clear eb
      obtain ⟨z0_13, c_13⟩ := b
      try dsimp only at hb ⊢
      obtain ⟨rfl, WXc_13, FXc_13⟩ := hb
      have e14 := (Zfr.gi FXc_13 t_a0 (by decide)).trans e4
      have F15 := Zfr.tr F5 FXc_13 (by decide)
      refine wb e14 ?_
      have := li_1
      have := i_add (a := v3) (b := 1) (by omega) (by omega)
      obtain ⟨c13, ec13, Wc13, fc13, gc13⟩ := pf_64_0 WXc_13 t_a0 (x := (v3 + 1)) (rgi (by omega) (by omega))
      refine wb ec13 ?_
      have F16 := Zfr.tr F15 fc13 (by decide)
      obtain ⟨w15, ew15⟩ := go_64 Wc13 t_a0
      refine wb ew15 ?_
      obtain ⟨q14, eq14, Wq14, fq14⟩ := p_Mo_changed hn Wc13  t_a0
      refine wb eq14 ?_
      have e17 := (Zfr.gi fq14 t_a0 (by decide)).trans gc13
      have F18 := Zfr.tr F16 fq14 (by decide)
      refine wb e17 ?_
      have := i_sub (a := (v3 + 1)) (b := 1) (by omega) (by omega)
      exact ⟨_, rfl, Wq14, F18⟩

abbrev M_Mo_mark : List (Nat × Nat) := [(64, 10), (65, 0), (131, 0)]
set_option maxRecDepth 100000 in
set_option maxHeartbeats 400000 in
theorem p_Mo_mark {nf : Nat} (hn : 8589934592 ≤ nf) {G : List Nat} {c : Zc} (W : Zwt zty G c) {a0 : Nat} {a1 : Int32} {a2 : Int32}  (t_a0 : G[a0]? = some 64) : ∃ q, f_Mo_mark nf a0 a1 a2 c = some q ∧ Zwt zty G q.2 ∧ Zfr G M_Mo_mark c q.2 := by
  have F0 : Zfr G M_Mo_mark c c := Zfr.rf
  unfold f_Mo_mark
  obtain ⟨v1, ev1, lv1, uv1⟩ := gf_64_0 W t_a0
  refine wb ev1 ?_
  obtain ⟨q2, eq2, Wq2, fq2, po0q2, po1q2, pl2q2, pu2q2⟩ := p_Mo_isIn hn W (a0 := a1) (a1 := v1) 
  refine wb eq2 ?_
  have F1 := Zfr.tr F0 fq2 (by decide)
  refine wi (fun hq2 => ?_) (fun hq2 => ?_)
  · have := li_0
    have hq2 := i_eq hq2
    unfold f_Mo_mark_21
    have := li_m1
    exact ⟨_, rfl, Wq2, F1⟩
  · have := li_0
    have hq2 := i_ne hq2
    have := li_256
    obtain ⟨q4, eq4, Wq4, fq4, po0q4, po1q4, pl2q4, pu2q4⟩ := p_Mo_isIn hn Wq2 (a0 := a2) (a1 := 256) 
    refine wb eq4 ?_
    have F3 := Zfr.tr F1 fq4 (by decide)
    refine wi (fun hq4 => ?_) (fun hq4 => ?_)
    · have hq4 := i_eq hq4
      unfold f_Mo_mark_21
      have := li_m1
      exact ⟨_, rfl, Wq4, F3⟩
    · have hq4 := i_ne hq4
      obtain ⟨v6, ev6, tv6⟩ := gf_64_1 Wq4 t_a0
      refine wb ev6 ?_
      obtain ⟨v7, ev7, lv7, uv7⟩ := ga_65 Wq4 tv6 (i := a1) (by omega) (by omega)
      refine wb ev7 ?_
      refine wb ev6 ?_
      obtain ⟨c9, ec9, Wc9, fc9, gc9⟩ := pa_65 Wq4 tv6 (i := a1) (by omega) (by omega) (x := a2) (rgi (by omega) (by omega))
      refine wb ec9 ?_
      have F5 := Zfr.tr F3 fc9 (by decide)
      obtain ⟨w11, ew11⟩ := go_64 Wc9 t_a0
      refine wb ew11 ?_
      obtain ⟨q10, eq10, Wq10, fq10⟩ := p_Mo_changed hn Wc9  t_a0
      refine wb eq10 ?_
      have F6 := Zfr.tr F5 fq10 (by decide)
      exact ⟨_, rfl, Wq10, F6⟩

abbrev M_Mo_put : List (Nat × Nat) := [(64, 10), (66, 0), (131, 0)]
set_option maxRecDepth 100000 in
set_option maxHeartbeats 400000 in
theorem p_Mo_put {nf : Nat} (hn : 8589934592 ≤ nf) {G : List Nat} {c : Zc} (W : Zwt zty G c) {a0 : Nat} {a1 : Int32} {a2 : Int32} {a3 : Int32}  (t_a0 : G[a0]? = some 64) : ∃ q, f_Mo_put nf a0 a1 a2 a3 c = some q ∧ Zwt zty G q.2 ∧ Zfr G M_Mo_put c q.2 := by
  have F0 : Zfr G M_Mo_put c c := Zfr.rf
  unfold f_Mo_put
  obtain ⟨v1, ev1, lv1, uv1⟩ := gf_64_0 W t_a0
  refine wb ev1 ?_
  obtain ⟨q2, eq2, Wq2, fq2, po0q2, po1q2, pl2q2, pu2q2⟩ := p_Mo_isIn hn W (a0 := a1) (a1 := v1) 
  refine wb eq2 ?_
  have F1 := Zfr.tr F0 fq2 (by decide)
  refine wi (fun hq2 => ?_) (fun hq2 => ?_)
  · have := li_0
    have hq2 := i_eq hq2
    unfold f_Mo_put_33
    have := li_10000
    exact ⟨_, rfl, Wq2, F1⟩
  · have := li_0
    have hq2 := i_ne hq2
    have := li_4
    obtain ⟨q4, eq4, Wq4, fq4, po0q4, po1q4, pl2q4, pu2q4⟩ := p_Mo_isIn hn Wq2 (a0 := a2) (a1 := 4) 
    refine wb eq4 ?_
    have F3 := Zfr.tr F1 fq4 (by decide)
    refine wi (fun hq4 => ?_) (fun hq4 => ?_)
    · have hq4 := i_eq hq4
      unfold f_Mo_put_33
      have := li_10000
      exact ⟨_, rfl, Wq4, F3⟩
    · have hq4 := i_ne hq4
      refine wi (fun hq5 => ?_) (fun hq5 => ?_)
      · have := li_m9999
        have := i_ge a3
        have := i_up a3
        have hq5 := i_lt hq5
        unfold f_Mo_put_33
        have := li_10000
        exact ⟨_, rfl, Wq4, F3⟩
      · have := li_m9999
        have := i_ge a3
        have := i_up a3
        have hq5 := i_nlt hq5
        refine wi (fun hq6 => ?_) (fun hq6 => ?_)
        · have := li_9999
          have hq6 := i_le hq6
          obtain ⟨v8, ev8, tv8⟩ := gf_64_2 Wq4 t_a0
          refine wb ev8 ?_
          have := i_mull (a := 4) (b := a1) (n := 4) li_4 (by omega) (by omega)
          have := i_add (a := (4 * a1)) (b := a2) (by omega) (by omega)
          obtain ⟨v9, ev9, lv9, uv9⟩ := ga_66 Wq4 tv8 (i := ((4 * a1) + a2)) (by omega) (by omega)
          refine wb ev9 ?_
          refine wb ev8 ?_
          obtain ⟨c11, ec11, Wc11, fc11, gc11⟩ := pa_66 Wq4 tv8 (i := ((4 * a1) + a2)) (by omega) (by omega) (x := a3) (rgi (by omega) (by omega))
          refine wb ec11 ?_
          have F7 := Zfr.tr F3 fc11 (by decide)
          obtain ⟨w13, ew13⟩ := go_64 Wc11 t_a0
          refine wb ew13 ?_
          obtain ⟨q12, eq12, Wq12, fq12⟩ := p_Mo_changed hn Wc11  t_a0
          refine wb eq12 ?_
          have F8 := Zfr.tr F7 fq12 (by decide)
          exact ⟨_, rfl, Wq12, F8⟩
        · have := li_9999
          have hq6 := i_nle hq6
          unfold f_Mo_put_33
          have := li_10000
          exact ⟨_, rfl, Wq4, F3⟩

abbrev M_Mo_ruleCount : List (Nat × Nat) := []
set_option maxRecDepth 100000 in
set_option maxHeartbeats 400000 in
theorem p_Mo_ruleCount {nf : Nat} (hn : 8589934592 ≤ nf) {G : List Nat} {c : Zc} (W : Zwt zty G c) {a0 : Nat}  (t_a0 : G[a0]? = some 64) : ∃ q, f_Mo_ruleCount nf a0 c = some q ∧ Zwt zty G q.2 ∧ Zfr G M_Mo_ruleCount c q.2 := by
  have F0 : Zfr G M_Mo_ruleCount c c := Zfr.rf
  unfold f_Mo_ruleCount
  unfold f_Mo_ruleCount_4
  have := li_0
  have := li_4
  have L1 : ∃ b, zlp (fun a : Nat × Int32 × Int32 × Zc => g_Mo_ruleCount_4 nf a.1 a.2.1 a.2.2.1 a.2.2.2) nf (a0, 0, 4, c) = some b ∧ (fun b : (Int32 × Zc) => Zwt zty G b.2 ∧ Zfr G ([] : List (Nat × Nat)) c b.2) b := by
    refine wlp (fun a : Nat × Int32 × Int32 × Zc => a0 = a.1 ∧ Zwt zty G a.2.2.2 ∧ Zfr G ([] : List (Nat × Nat)) c a.2.2.2 ∧ 4 ≤ a.2.2.1.toInt ∧ a.2.2.1.toInt ≤ 8) (fun a => (8 - a.2.2.1.toInt).toNat) (fun b : (Int32 × Zc) => Zwt zty G b.2 ∧ Zfr G ([] : List (Nat × Nat)) c b.2) ?_ ?_ ?_
    · rintro ⟨x0_2, x1_2, x2_2, c_2⟩ hI
      try dsimp only at hI ⊢
      obtain ⟨rfl, WLc_2, FLc_2, j3, j4⟩ := hI
      unfold g_Mo_ruleCount_4
      refine wi (fun hq5 => ?_) (fun hq5 => ?_)
      · have := li_8
        have hq5 := i_le hq5
        exact lInr ⟨WLc_2, FLc_2⟩
      · have := li_8
        have hq5 := i_nle hq5
        obtain ⟨v2, ev2, tv2⟩ := gf_64_23 WLc_2 t_a0
        refine wb ev2 ?_
        obtain ⟨v3, ev3, lv3, uv3⟩ := ga_78 WLc_2 tv2 (i := x2_2) (by omega) (by omega)
        refine wb ev3 ?_
        refine wi (fun hq6 => ?_) (fun hq6 => ?_)
        · have hq6 := i_eq hq6
          unfold f_Mo_ruleCount_25
          have := i_ge x1_2
          have := i_up x1_2
          have := i_add (a := x1_2) (b := 0) (by omega) (by omega)
          have := li_1
          have := i_add (a := x2_2) (b := 1) (by omega) (by omega)
          exact lInl ⟨rfl, WLc_2, FLc_2, by (try dsimp only); omega, by (try dsimp only); omega⟩ (by (try dsimp only); omega)
        · have hq6 := i_ne hq6
          unfold f_Mo_ruleCount_25
          have := li_1
          have := i_add (a := x2_2) (b := 1) (by omega) (by omega)
          exact lInl ⟨rfl, WLc_2, FLc_2, by (try dsimp only); omega, by (try dsimp only); omega⟩ (by (try dsimp only); omega)
    · exact ⟨rfl, W, Zfr.rf, by (try dsimp only); omega, by (try dsimp only); omega⟩
    · (try dsimp only); omega
  obtain ⟨b, eb, hb⟩ := L1
  refine wb eb ?_
  clear eb
  obtain ⟨z0_7, c_7⟩ := b
  try dsimp only at hb ⊢
  obtain ⟨WXc_7, FXc_7⟩ := hb
  have F8 := Zfr.tr F0 FXc_7 (by decide)
  exact ⟨_, rfl, WXc_7, F8⟩

abbrev M_Mo_told : List (Nat × Nat) := []
set_option maxRecDepth 100000 in
set_option maxHeartbeats 400000 in
theorem p_Mo_told {nf : Nat} (hn : 8589934592 ≤ nf) {G : List Nat} {c : Zc} (W : Zwt zty G c) {a0 : Nat} {a1 : Int32} {a2 : Int32}  (t_a0 : G[a0]? = some 64) : ∃ q, f_Mo_told nf a0 a1 a2 c = some q ∧ Zwt zty G q.2 ∧ Zfr G M_Mo_told c q.2 := by
  have F0 : Zfr G M_Mo_told c c := Zfr.rf
  unfold f_Mo_told
  have J1 : ∃ q, f_Mo_told_150 nf c = some q ∧ Zwt zty G q.2 ∧ Zfr G M_Mo_told c q.2 := by
    unfold f_Mo_told_150
    have := li_10000
    exact ⟨_, rfl, W, F0⟩
  have J2 : ∃ q, f_Mo_told_14 nf a0 a1 c = some q ∧ Zwt zty G q.2 ∧ Zfr G M_Mo_told c q.2 := by
    unfold f_Mo_told_14
    refine wi (fun hq3 => ?_) (fun hq3 => ?_)
    · have := li_0
      have := i_ge a1
      have := i_up a1
      have hq3 := i_eq hq3
      obtain ⟨v7, ev7, lv7, uv7⟩ := gf_64_0 W t_a0
      refine wb ev7 ?_
      unfold f_Mo_told_41
      exact ⟨_, rfl, W, F0⟩
    · have := li_0
      have := i_ge a1
      have := i_up a1
      have hq3 := i_ne hq3
      refine wi (fun hq4 => ?_) (fun hq4 => ?_)
      · have := li_1
        have hq4 := i_eq hq4
        obtain ⟨v6, ev6, lv6, uv6⟩ := gf_64_8 W t_a0
        refine wb ev6 ?_
        unfold f_Mo_told_41
        exact ⟨_, rfl, W, F0⟩
      · have := li_1
        have hq4 := i_ne hq4
        obtain ⟨w5, ew5⟩ := go_64 W t_a0
        refine wb ew5 ?_
        obtain ⟨q4, eq4, Wq4, fq4⟩ := p_Mo_ruleCount hn W  t_a0
        refine wb eq4 ?_
        have F5 := Zfr.tr F0 fq4 (by decide)
        unfold f_Mo_told_41
        exact ⟨_, rfl, Wq4, F5⟩
  have J6 : ∃ q, f_Mo_told_128 nf a0 a1 a2 c = some q ∧ Zwt zty G q.2 ∧ Zfr G M_Mo_told c q.2 := by
    unfold f_Mo_told_128
    refine wi (fun hq7 => ?_) (fun hq7 => ?_)
    · have := li_3
      have := i_ge a1
      have := i_up a1
      have hq7 := i_lt hq7
      exact J1
    · have := li_3
      have := i_ge a1
      have := i_up a1
      have hq7 := i_nlt hq7
      refine wi (fun hq8 => ?_) (fun hq8 => ?_)
      · have := li_9
        have hq8 := i_lt hq8
        exact J1
      · have := li_9
        have hq8 := i_nlt hq8
        obtain ⟨v13, ev13, lv13, uv13⟩ := gf_64_0 W t_a0
        refine wb ev13 ?_
        obtain ⟨q14, eq14, Wq14, fq14, po0q14, po1q14, pl2q14, pu2q14⟩ := p_Mo_isIn hn W (a0 := a2) (a1 := v13) 
        refine wb eq14 ?_
        have F9 := Zfr.tr F0 fq14 (by decide)
        refine wi (fun hq10 => ?_) (fun hq10 => ?_)
        · have := li_0
          have hq10 := i_eq hq10
          unfold f_Mo_told_150
          have := li_10000
          exact ⟨_, rfl, Wq14, F9⟩
        · have := li_0
          have hq10 := i_ne hq10
          refine wi (fun hq11 => ?_) (fun hq11 => ?_)
          · have hq11 := i_eq hq11
            obtain ⟨v30, ev30, tv30⟩ := gf_64_1 Wq14 t_a0
            refine wb ev30 ?_
            obtain ⟨v31, ev31, lv31, uv31⟩ := ga_65 Wq14 tv30 (i := a2) (by omega) (by omega)
            refine wb ev31 ?_
            exact ⟨_, rfl, Wq14, F9⟩
          · have hq11 := i_ne hq11
            refine wi (fun hq12 => ?_) (fun hq12 => ?_)
            · have := li_8
              have hq12 := i_le hq12
              unfold f_Mo_told_190
              have L13 : ∃ b, zlp (fun a : Nat × Int32 × Int32 × Int32 × Int32 × Zc => g_Mo_told_190 nf a.1 a.2.1 a.2.2.1 a.2.2.2.1 a.2.2.2.2.1 a.2.2.2.2.2) nf (a0, a1, a2, 0, 0, q14.2) = some b ∧ (fun b : (Int32 × Zc) => Zwt zty G b.2 ∧ Zfr G ([] : List (Nat × Nat)) q14.2 b.2) b := by
                refine wlp (fun a : Nat × Int32 × Int32 × Int32 × Int32 × Zc => a0 = a.1 ∧ a1 = a.2.1 ∧ a2 = a.2.2.1 ∧ Zwt zty G a.2.2.2.2.2 ∧ Zfr G ([] : List (Nat × Nat)) q14.2 a.2.2.2.2.2 ∧ 0 ≤ a.2.2.2.2.1.toInt ∧ a.2.2.2.2.1.toInt ≤ 100) (fun a => (100 - a.2.2.2.2.1.toInt).toNat) (fun b : (Int32 × Zc) => Zwt zty G b.2 ∧ Zfr G ([] : List (Nat × Nat)) q14.2 b.2) ?_ ?_ ?_
                · rintro ⟨x0_14, x1_14, x2_14, x3_14, x4_14, c_14⟩ hI
                  try dsimp only at hI ⊢
                  obtain ⟨rfl, rfl, rfl, WLc_14, FLc_14, j15, j16⟩ := hI
                  unfold g_Mo_told_190
                  refine wi (fun hq17 => ?_) (fun hq17 => ?_)
                  · have := li_100
                    have hq17 := i_le hq17
                    exact lInr ⟨WLc_14, FLc_14⟩
                  · have := li_100
                    have hq17 := i_nle hq17
                    obtain ⟨v19, ev19, tv19⟩ := gf_64_3 WLc_14 t_a0
                    refine wb ev19 ?_
                    obtain ⟨v20, ev20, lv20, uv20⟩ := ga_67 WLc_14 tv19 (i := x4_14) (by omega) (by omega)
                    refine wb ev20 ?_
                    refine wi (fun hq18 => ?_) (fun hq18 => ?_)
                    · have hq18 := i_eq hq18
                      unfold f_Mo_told_239
                      unfold f_Mo_told_240
                      have := i_ge x3_14
                      have := i_up x3_14
                      have := i_add (a := x3_14) (b := 0) (by omega) (by omega)
                      have := li_1
                      have := i_add (a := x4_14) (b := 1) (by omega) (by omega)
                      exact lInl ⟨rfl, rfl, rfl, WLc_14, FLc_14, by (try dsimp only); omega, by (try dsimp only); omega⟩ (by (try dsimp only); omega)
                    · have hq18 := i_ne hq18
                      refine wi (fun hq19 => ?_) (fun hq19 => ?_)
                      · have hq19 := i_eq hq19
                        obtain ⟨v26, ev26, tv26⟩ := gf_64_4 WLc_14 t_a0
                        refine wb ev26 ?_
                        obtain ⟨v27, ev27, lv27, uv27⟩ := ga_68 WLc_14 tv26 (i := x4_14) (by omega) (by omega)
                        refine wb ev27 ?_
                        unfold f_Mo_told_231
                        refine wi (fun hq20 => ?_) (fun hq20 => ?_)
                        · have hq20 := i_eq hq20
                          unfold f_Mo_told_240
                          have := li_1
                          have := i_add (a := x4_14) (b := 1) (by omega) (by omega)
                          exact lInl ⟨rfl, rfl, rfl, WLc_14, FLc_14, by (try dsimp only); omega, by (try dsimp only); omega⟩ (by (try dsimp only); omega)
                        · have hq20 := i_ne hq20
                          unfold f_Mo_told_239
                          unfold f_Mo_told_240
                          have := i_ge x3_14
                          have := i_up x3_14
                          have := i_add (a := x3_14) (b := 0) (by omega) (by omega)
                          have := li_1
                          have := i_add (a := x4_14) (b := 1) (by omega) (by omega)
                          exact lInl ⟨rfl, rfl, rfl, WLc_14, FLc_14, by (try dsimp only); omega, by (try dsimp only); omega⟩ (by (try dsimp only); omega)
                      · have hq19 := i_ne hq19
                        obtain ⟨v23, ev23, tv23⟩ := gf_64_5 WLc_14 t_a0
                        refine wb ev23 ?_
                        obtain ⟨v24, ev24, lv24, uv24⟩ := ga_69 WLc_14 tv23 (i := x4_14) (by omega) (by omega)
                        refine wb ev24 ?_
                        unfold f_Mo_told_231
                        refine wi (fun hq21 => ?_) (fun hq21 => ?_)
                        · have hq21 := i_eq hq21
                          unfold f_Mo_told_240
                          have := li_1
                          have := i_add (a := x4_14) (b := 1) (by omega) (by omega)
                          exact lInl ⟨rfl, rfl, rfl, WLc_14, FLc_14, by (try dsimp only); omega, by (try dsimp only); omega⟩ (by (try dsimp only); omega)
                        · have hq21 := i_ne hq21
                          unfold f_Mo_told_239
                          unfold f_Mo_told_240
                          have := i_ge x3_14
                          have := i_up x3_14
                          have := i_add (a := x3_14) (b := 0) (by omega) (by omega)
                          have := li_1
                          have := i_add (a := x4_14) (b := 1) (by omega) (by omega)
                          exact lInl ⟨rfl, rfl, rfl, WLc_14, FLc_14, by (try dsimp only); omega, by (try dsimp only); omega⟩ (by (try dsimp only); omega)
                · exact ⟨rfl, rfl, rfl, Wq14, Zfr.rf, by (try dsimp only); omega, by (try dsimp only); omega⟩
                · (try dsimp only); omega
              obtain ⟨b, eb, hb⟩ := L13
              refine wb eb ?_
              clear eb
              obtain ⟨z0_22, c_22⟩ := b
              try dsimp only at hb ⊢
              obtain ⟨WXc_22, FXc_22⟩ := hb
              have F23 := Zfr.tr F9 FXc_22 (by decide)
              exact ⟨_, rfl, WXc_22, F23⟩
            · have := li_8
              have hq12 := i_nle hq12
              obtain ⟨v28, ev28, tv28⟩ := gf_64_2 Wq14 t_a0
              refine wb ev28 ?_
              have := li_4
              have := i_mull (a := 4) (b := a2) (n := 4) li_4 (by omega) (by omega)
              have := i_add (a := (4 * a2)) (b := a1) (by omega) (by omega)
              have := i_sub (a := ((4 * a2) + a1)) (b := 4) (by omega) (by omega)
              obtain ⟨v29, ev29, lv29, uv29⟩ := ga_66 Wq14 tv28 (i := (((4 * a2) + a1) - 4)) (by omega) (by omega)
              refine wb ev29 ?_
              exact ⟨_, rfl, Wq14, F9⟩
  refine wi (fun hq24 => ?_) (fun hq24 => ?_)
  · have := li_0
    have := i_ge a1
    have := i_up a1
    have hq24 := i_eq hq24
    exact J2
  · have := li_0
    have := i_ge a1
    have := i_up a1
    have hq24 := i_ne hq24
    refine wi (fun hq25 => ?_) (fun hq25 => ?_)
    · have := li_1
      have hq25 := i_eq hq25
      exact J2
    · have := li_1
      have hq25 := i_ne hq25
      refine wi (fun hq26 => ?_) (fun hq26 => ?_)
      · have := li_2
        have hq26 := i_eq hq26
        exact J2
      · have := li_2
        have hq26 := i_ne hq26
        refine wi (fun hq27 => ?_) (fun hq27 => ?_)
        · have := li_10
          have hq27 := i_lt hq27
          exact J6
        · have := li_10
          have hq27 := i_nlt hq27
          refine wi (fun hq28 => ?_) (fun hq28 => ?_)
          · have := li_13
            have hq28 := i_lt hq28
            exact J6
          · have := li_13
            have hq28 := i_nlt hq28
            have := li_100
            obtain ⟨q33, eq33, Wq33, fq33, po0q33, po1q33, pl2q33, pu2q33⟩ := p_Mo_isIn hn W (a0 := a2) (a1 := 100) 
            refine wb eq33 ?_
            have F29 := Zfr.tr F0 fq33 (by decide)
            refine wi (fun hq30 => ?_) (fun hq30 => ?_)
            · have hq30 := i_eq hq30
              unfold f_Mo_told_72
              have := li_10000
              exact ⟨_, rfl, Wq33, F29⟩
            · have hq30 := i_ne hq30
              obtain ⟨v35, ev35, tv35⟩ := gf_64_3 Wq33 t_a0
              refine wb ev35 ?_
              obtain ⟨v36, ev36, lv36, uv36⟩ := ga_67 Wq33 tv35 (i := a2) (by omega) (by omega)
              refine wb ev36 ?_
              refine wi (fun hq31 => ?_) (fun hq31 => ?_)
              · have hq31 := i_eq hq31
                unfold f_Mo_told_72
                have := li_10000
                exact ⟨_, rfl, Wq33, F29⟩
              · have hq31 := i_ne hq31
                refine wi (fun hq32 => ?_) (fun hq32 => ?_)
                · have hq32 := i_eq hq32
                  obtain ⟨v47, ev47, tv47⟩ := gf_64_4 Wq33 t_a0
                  refine wb ev47 ?_
                  obtain ⟨v48, ev48, lv48, uv48⟩ := ga_68 Wq33 tv47 (i := a2) (by omega) (by omega)
                  refine wb ev48 ?_
                  unfold f_Mo_told_127
                  exact ⟨_, rfl, Wq33, F29⟩
                · have hq32 := i_ne hq32
                  refine wi (fun hq33 => ?_) (fun hq33 => ?_)
                  · have := li_11
                    have hq33 := i_eq hq33
                    obtain ⟨v45, ev45, tv45⟩ := gf_64_5 Wq33 t_a0
                    refine wb ev45 ?_
                    obtain ⟨v46, ev46, lv46, uv46⟩ := ga_69 Wq33 tv45 (i := a2) (by omega) (by omega)
                    refine wb ev46 ?_
                    unfold f_Mo_told_127
                    exact ⟨_, rfl, Wq33, F29⟩
                  · have := li_11
                    have hq33 := i_ne hq33
                    refine wi (fun hq34 => ?_) (fun hq34 => ?_)
                    · have := li_12
                      have hq34 := i_eq hq34
                      obtain ⟨v43, ev43, tv43⟩ := gf_64_6 Wq33 t_a0
                      refine wb ev43 ?_
                      obtain ⟨v44, ev44, lv44, uv44⟩ := ga_70 Wq33 tv43 (i := a2) (by omega) (by omega)
                      refine wb ev44 ?_
                      unfold f_Mo_told_127
                      exact ⟨_, rfl, Wq33, F29⟩
                    · have := li_12
                      have hq34 := i_ne hq34
                      obtain ⟨v41, ev41, tv41⟩ := gf_64_7 Wq33 t_a0
                      refine wb ev41 ?_
                      obtain ⟨v42, ev42, lv42, uv42⟩ := ga_71 Wq33 tv41 (i := a2) (by omega) (by omega)
                      refine wb ev42 ?_
                      unfold f_Mo_told_127
                      exact ⟨_, rfl, Wq33, F29⟩

abbrev M_Mo_place : List (Nat × Nat) := []
set_option maxRecDepth 100000 in
set_option maxHeartbeats 400000 in
theorem p_Mo_place {nf : Nat} (hn : 8589934592 ≤ nf) {G : List Nat} {c : Zc} (W : Zwt zty G c) {a0 : Nat}  (t_a0 : G[a0]? = some 64) : ∃ q, f_Mo_place nf a0 c = some q ∧ Zwt zty G q.2 ∧ Zfr G M_Mo_place c q.2 := by
  have F0 : Zfr G M_Mo_place c c := Zfr.rf
  unfold f_Mo_place
  obtain ⟨v1, ev1, _⟩ := gf_64_21 W t_a0
  refine wb ev1 ?_
  exact ⟨_, rfl, W, F0⟩

abbrev M_Mo_answer : List (Nat × Nat) := []
set_option maxRecDepth 100000 in
set_option maxHeartbeats 400000 in
theorem p_Mo_answer {nf : Nat} (hn : 8589934592 ≤ nf) {G : List Nat} {c : Zc} (W : Zwt zty G c) {a0 : Nat} {a1 : Int32} {a2 : Int32} {a3 : Int32}  (t_a0 : G[a0]? = some 64) : ∃ q, f_Mo_answer nf a0 a1 a2 a3 c = some q ∧ Zwt zty G q.2 ∧ Zfr G M_Mo_answer c q.2 := by
  have F0 : Zfr G M_Mo_answer c c := Zfr.rf
  unfold f_Mo_answer
  have := li_4
  obtain ⟨q1, eq1, Wq1, fq1, po0q1, po1q1, pl2q1, pu2q1⟩ := p_Mo_isIn hn W (a0 := a1) (a1 := 4) 
  refine wb eq1 ?_
  have F1 := Zfr.tr F0 fq1 (by decide)
  refine wi (fun hq2 => ?_) (fun hq2 => ?_)
  · have := li_0
    have hq2 := i_eq hq2
    unfold f_Mo_answer_43
    have := li_2000000000
    exact ⟨_, rfl, Wq1, F1⟩
  · have := li_0
    have hq2 := i_ne hq2
    obtain ⟨v3, ev3, tv3⟩ := gf_64_85 Wq1 t_a0
    refine wb ev3 ?_
    obtain ⟨v4, ev4, lv4, uv4⟩ := ga_131 Wq1 tv3 (i := a1) (by omega) (by omega)
    refine wb ev4 ?_
    refine wi (fun hq3 => ?_) (fun hq3 => ?_)
    · have hq3 := i_eq hq3
      unfold f_Mo_answer_43
      have := li_2000000000
      exact ⟨_, rfl, Wq1, F1⟩
    · have hq3 := i_ne hq3
      obtain ⟨v6, ev6, tv6⟩ := gf_64_83 Wq1 t_a0
      refine wb ev6 ?_
      obtain ⟨v7, ev7, lv7, uv7⟩ := ga_129 Wq1 tv6 (i := a1) (by omega) (by omega)
      refine wb ev7 ?_
      obtain ⟨q8, eq8, Wq8, fq8, po0q8, po1q8, pl2q8, pu2q8⟩ := p_Mo_isIn hn Wq1 (a0 := a2) (a1 := v7) 
      refine wb eq8 ?_
      have e4 := (Zfr.ai fq8 tv3 (by decide)).trans ev4
      have e5 := (Zfr.ai fq8 tv6 (by decide)).trans ev7
      have F6 := Zfr.tr F1 fq8 (by decide)
      refine wi (fun hq7 => ?_) (fun hq7 => ?_)
      · have hq7 := i_eq hq7
        unfold f_Mo_answer_43
        have := li_2000000000
        exact ⟨_, rfl, Wq8, F6⟩
      · have hq7 := i_ne hq7
        obtain ⟨v10, ev10, tv10⟩ := gf_64_84 Wq8 t_a0
        refine wb ev10 ?_
        obtain ⟨v11, ev11, lv11, uv11⟩ := ga_130 Wq8 tv10 (i := a1) (by omega) (by omega)
        refine wb ev11 ?_
        obtain ⟨q12, eq12, Wq12, fq12, po0q12, po1q12, pl2q12, pu2q12⟩ := p_Mo_isIn hn Wq8 (a0 := a3) (a1 := v11) 
        refine wb eq12 ?_
        have e8 := (Zfr.ai fq12 tv3 (by decide)).trans e4
        have e9 := (Zfr.ai fq12 tv6 (by decide)).trans e5
        have e10 := (Zfr.ai fq12 tv10 (by decide)).trans ev11
        have F11 := Zfr.tr F6 fq12 (by decide)
        refine wi (fun hq12 => ?_) (fun hq12 => ?_)
        · have hq12 := i_eq hq12
          unfold f_Mo_answer_43
          have := li_2000000000
          exact ⟨_, rfl, Wq12, F11⟩
        · have hq12 := i_ne hq12
          obtain ⟨v14, ev14, tv14⟩ := gf_64_82 Wq12 t_a0
          refine wb ev14 ?_
          have := li_160000
          have := i_mull (a := 160000) (b := a1) (n := 160000) li_160000 (by omega) (by omega)
          have := li_8
          have := i_mull (a := 8) (b := a2) (n := 8) li_8 (by omega) (by omega)
          have := i_add (a := (160000 * a1)) (b := (8 * a2)) (by omega) (by omega)
          have := i_add (a := ((160000 * a1) + (8 * a2))) (b := a3) (by omega) (by omega)
          obtain ⟨v15, ev15, _⟩ := ga_128 Wq12 tv14 (i := (((160000 * a1) + (8 * a2)) + a3)) (by omega) (by omega)
          refine wb ev15 ?_
          exact ⟨_, rfl, Wq12, F11⟩

abbrev M_Mo_leadsBy : List (Nat × Nat) := []
set_option maxRecDepth 100000 in
set_option maxHeartbeats 400000 in
theorem p_Mo_leadsBy {nf : Nat} (hn : 8589934592 ≤ nf) {G : List Nat} {c : Zc} (W : Zwt zty G c) {a0 : Nat} {a1 : Int32} {a2 : Int32} {a3 : Int32}  (t_a0 : G[a0]? = some 64) (pl_a1 : 0 ≤ a1.toInt) (pu_a1 : a1.toInt ≤ 1583) (pl_a2 : 0 ≤ a2.toInt) (pu_a2 : a2.toInt ≤ 15) (pl_a3 : 0 ≤ a3.toInt) (pu_a3 : a3.toInt ≤ 15) : ∃ q, f_Mo_leadsBy nf a0 a1 a2 a3 c = some q ∧ Zwt zty G q.2 ∧ Zfr G M_Mo_leadsBy c q.2 ∧ 0 ≤ q.1.toInt ∧ q.1.toInt ≤ 1 := by
  have F0 : Zfr G M_Mo_leadsBy c c := Zfr.rf
  unfold f_Mo_leadsBy
  have J1 : ∃ q, f_Mo_leadsBy_52 nf 0 c = some q ∧ Zwt zty G q.2 ∧ Zfr G M_Mo_leadsBy c q.2 ∧ 0 ≤ q.1.toInt ∧ q.1.toInt ≤ 1 := by
    unfold f_Mo_leadsBy_52
    have := li_0
    exact wz (rgi (by omega) (by omega)) ⟨W, F0, by (try dsimp only); omega, by (try dsimp only); omega⟩
  have J2 : ∃ q, f_Mo_leadsBy_52 nf 1 c = some q ∧ Zwt zty G q.2 ∧ Zfr G M_Mo_leadsBy c q.2 ∧ 0 ≤ q.1.toInt ∧ q.1.toInt ≤ 1 := by
    unfold f_Mo_leadsBy_52
    have := li_1
    exact wz (rgi (by omega) (by omega)) ⟨W, F0, by (try dsimp only); omega, by (try dsimp only); omega⟩
  obtain ⟨v1, ev1, tv1⟩ := gf_64_40 W t_a0
  refine wb ev1 ?_
  obtain ⟨v2, ev2, lv2, uv2⟩ := ga_93 W tv1 (i := a1) (by omega) (by omega)
  refine wb ev2 ?_
  obtain ⟨v3, ev3, tv3⟩ := gf_64_9 W t_a0
  refine wb ev3 ?_
  obtain ⟨v4, ev4, tv4⟩ := gf_64_41 W t_a0
  refine wb ev4 ?_
  obtain ⟨v5, ev5, lv5, uv5⟩ := ga_94 W tv4 (i := a1) (by omega) (by omega)
  refine wb ev5 ?_
  refine wi (fun hq3 => ?_) (fun hq3 => ?_)
  · have := li_0
    have hq3 := i_eq hq3
    unfold f_Mo_leadsBy_42
    have := li_256
    have := i_mull (a := 256) (b := v2) (n := 256) li_256 (by omega) (by omega)
    have := li_16
    have := i_mull (a := 16) (b := a2) (n := 16) li_16 (by omega) (by omega)
    have := i_add (a := (16 * a2)) (b := a3) (by omega) (by omega)
    have := i_add (a := (256 * v2)) (b := ((16 * a2) + a3)) (by omega) (by omega)
    obtain ⟨v7, ev7, _⟩ := ga_72 W tv3 (i := ((256 * v2) + ((16 * a2) + a3))) (by omega) (by omega)
    refine wb ev7 ?_
    refine wi (fun hq4 => ?_) (fun hq4 => ?_)
    · have := i_ge v7
      have := i_up v7
      have hq4 := i_le hq4
      exact J1
    · have := i_ge v7
      have := i_up v7
      have hq4 := i_nle hq4
      exact J2
  · have := li_0
    have hq3 := i_ne hq3
    unfold f_Mo_leadsBy_42
    have := li_256
    have := i_mull (a := 256) (b := v2) (n := 256) li_256 (by omega) (by omega)
    have := li_16
    have := i_mull (a := 16) (b := a3) (n := 16) li_16 (by omega) (by omega)
    have := i_add (a := (16 * a3)) (b := a2) (by omega) (by omega)
    have := i_add (a := (256 * v2)) (b := ((16 * a3) + a2)) (by omega) (by omega)
    obtain ⟨v7, ev7, _⟩ := ga_72 W tv3 (i := ((256 * v2) + ((16 * a3) + a2))) (by omega) (by omega)
    refine wb ev7 ?_
    refine wi (fun hq5 => ?_) (fun hq5 => ?_)
    · have := i_ge v7
      have := i_up v7
      have hq5 := i_le hq5
      exact J1
    · have := i_ge v7
      have := i_up v7
      have hq5 := i_nle hq5
      exact J2

abbrev M_Mo_distance : List (Nat × Nat) := []
set_option maxRecDepth 100000 in
set_option maxHeartbeats 400000 in
theorem p_Mo_distance {nf : Nat} (hn : 8589934592 ≤ nf) {G : List Nat} {c : Zc} (W : Zwt zty G c) {a0 : Nat} {a1 : Int32} {kf : Nat} {va : Int32} {kt : Nat} {vb : Int32} (t_a0 : G[a0]? = some 64) (pl_a1 : 0 ≤ a1.toInt) (pu_a1 : a1.toInt ≤ 98) (pl_va : 0 ≤ va.toInt) (pu_va : va.toInt ≤ 7) (pl_vb : 0 ≤ vb.toInt) (pu_vb : vb.toInt ≤ 7) (eh_kf : zgr c a0 12 33 = some kf) (eh_va : zai c kf 0 a1 = some va) (eh_kt : zgr c a0 12 34 = some kt) (eh_vb : zai c kt 0 a1 = some vb) (pp_3 : a1.toInt % 11 ≤ 9) : ∃ q, f_Mo_distance nf a0 a1 c = some q ∧ Zwt zty G q.2 ∧ Zfr G M_Mo_distance c q.2 := by
  have F0 : Zfr G M_Mo_distance c c := Zfr.rf
  unfold f_Mo_distance
  obtain ⟨v1, ev1, tv1⟩ := gf_64_70 W t_a0
  refine wb ev1 ?_
  obtain ⟨v3, ev3, tv3⟩ := gf_64_74 W t_a0
  refine wb ev3 ?_
  obtain ⟨xq, xe, tqv4⟩ := gf_64_33 W t_a0
  rw [eh_kf] at xe; cases xe
  refine wb eh_kf ?_
  refine wb eh_va ?_
  obtain ⟨v6, ev6, lv6, uv6⟩ := ga_121 W tv3 (i := va) (by omega) (by omega)
  refine wb ev6 ?_
  refine wb ev3 ?_
  obtain ⟨xq, xe, tqv8⟩ := gf_64_34 W t_a0
  rw [eh_kt] at xe; cases xe
  refine wb eh_kt ?_
  refine wb eh_vb ?_
  obtain ⟨v10, ev10, lv10, uv10⟩ := ga_121 W tv3 (i := vb) (by omega) (by omega)
  refine wb ev10 ?_
  have hg1 := i_rem (a := a1) (b := 11) (n := 11) li_11 (by decide) (by omega)
  generalize a1 - a1 / 11 * 11 = y2 at hg1 ⊢
  have := li_256
  have := i_mull (a := 256) (b := y2) (n := 256) li_256 (by omega) (by omega)
  have := li_16
  have := i_mull (a := 16) (b := v6) (n := 16) li_16 (by omega) (by omega)
  have := i_add (a := (256 * y2)) (b := (16 * v6)) (by omega) (by omega)
  have := i_add (a := ((256 * y2) + (16 * v6))) (b := v10) (by omega) (by omega)
  obtain ⟨v11, ev11, _⟩ := ga_117 W tv1 (i := (((256 * y2) + (16 * v6)) + v10)) (by omega) (by omega)
  refine wb ev11 ?_
  exact ⟨_, rfl, W, F0⟩

abbrev M_Mo_bounded : List (Nat × Nat) := []
set_option maxRecDepth 100000 in
set_option maxHeartbeats 400000 in
theorem p_Mo_bounded {nf : Nat} (hn : 8589934592 ≤ nf) {G : List Nat} {c : Zc} (W : Zwt zty G c) {a0 : Int64}   : ∃ q, f_Mo_bounded nf a0 c = some q ∧ Zwt zty G q.2 ∧ Zfr G M_Mo_bounded c q.2 := by
  have F0 : Zfr G M_Mo_bounded c c := Zfr.rf
  unfold f_Mo_bounded
  refine wi (fun hq1 => ?_) (fun hq1 => ?_)
  · have := li_0
    have hq1 := i_le hq1
    refine wi (fun hq2 => ?_) (fun hq2 => ?_)
    · have hq2 := i_le hq2
      unfold f_Mo_bounded_30
      exact ⟨_, rfl, W, F0⟩
    · have hq2 := i_nle hq2
      unfold f_Mo_bounded_30
      have := li_m1000000000
      exact ⟨_, rfl, W, F0⟩
  · have := li_0
    have hq1 := i_nle hq1
    unfold f_Mo_bounded_30
    have := li_1000000000
    exact ⟨_, rfl, W, F0⟩

abbrev M_Mo_both : List (Nat × Nat) := []
set_option maxRecDepth 100000 in
set_option maxHeartbeats 400000 in
theorem p_Mo_both {nf : Nat} (hn : 8589934592 ≤ nf) {G : List Nat} {c : Zc} (W : Zwt zty G c) {a0 : Int32} {a1 : Int32} {a2 : Int32}   : ∃ q, f_Mo_both nf a0 a1 a2 c = some q ∧ Zwt zty G q.2 ∧ Zfr G M_Mo_both c q.2 := by
  have F0 : Zfr G M_Mo_both c c := Zfr.rf
  unfold f_Mo_both
  refine wi (fun hq1 => ?_) (fun hq1 => ?_)
  · have := li_4
    have := i_ge a0
    have := i_up a0
    have hq1 := i_eq hq1
    obtain ⟨q2, eq2, Wq2, fq2⟩ := p_Mo_bounded hn W (a0 := ((Int32.toInt64 a1) + (Int32.toInt64 a2))) 
    refine wb eq2 ?_
    have F2 := Zfr.tr F0 fq2 (by decide)
    exact ⟨_, rfl, Wq2, F2⟩
  · have := li_4
    have := i_ge a0
    have := i_up a0
    have hq1 := i_ne hq1
    refine wi (fun hq3 => ?_) (fun hq3 => ?_)
    · have := li_5
      have hq3 := i_eq hq3
      obtain ⟨q4, eq4, Wq4, fq4⟩ := p_Mo_bounded hn W (a0 := ((Int32.toInt64 a1) - (Int32.toInt64 a2))) 
      refine wb eq4 ?_
      have F4 := Zfr.tr F0 fq4 (by decide)
      exact ⟨_, rfl, Wq4, F4⟩
    · have := li_5
      have hq3 := i_ne hq3
      refine wi (fun hq5 => ?_) (fun hq5 => ?_)
      · have := li_6
        have hq5 := i_eq hq5
        obtain ⟨q6, eq6, Wq6, fq6⟩ := p_Mo_bounded hn W (a0 := ((Int32.toInt64 a1) * (Int32.toInt64 a2))) 
        refine wb eq6 ?_
        have F6 := Zfr.tr F0 fq6 (by decide)
        exact ⟨_, rfl, Wq6, F6⟩
      · have := li_6
        have hq5 := i_ne hq5
        refine wi (fun hq7 => ?_) (fun hq7 => ?_)
        · have := li_7
          have hq7 := i_eq hq7
          exact ⟨_, rfl, W, F0⟩
        · have := li_7
          have hq7 := i_ne hq7
          refine wi (fun hq8 => ?_) (fun hq8 => ?_)
          · have := li_8
            have hq8 := i_eq hq8
            exact ⟨_, rfl, W, F0⟩
          · have := li_8
            have hq8 := i_ne hq8
            refine wi (fun hq9 => ?_) (fun hq9 => ?_)
            · have := li_9
              have hq9 := i_eq hq9
              exact ⟨_, rfl, W, F0⟩
            · have := li_9
              have hq9 := i_ne hq9
              refine wi (fun hq10 => ?_) (fun hq10 => ?_)
              · have := li_10
                have hq10 := i_eq hq10
                refine wi (fun hq11 => ?_) (fun hq11 => ?_)
                · have := i_ge a1
                  have := i_up a1
                  have := i_ge a2
                  have := i_up a2
                  have hq11 := i_eq hq11
                  unfold f_Mo_both_105
                  have := li_1
                  exact ⟨_, rfl, W, F0⟩
                · have := i_ge a1
                  have := i_up a1
                  have := i_ge a2
                  have := i_up a2
                  have hq11 := i_ne hq11
                  unfold f_Mo_both_105
                  have := li_0
                  exact ⟨_, rfl, W, F0⟩
              · have := li_10
                have hq10 := i_ne hq10
                refine wi (fun hq12 => ?_) (fun hq12 => ?_)
                · have := li_11
                  have hq12 := i_eq hq12
                  refine wi (fun hq13 => ?_) (fun hq13 => ?_)
                  · have := i_ge a1
                    have := i_up a1
                    have := i_ge a2
                    have := i_up a2
                    have hq13 := i_eq hq13
                    unfold f_Mo_both_116
                    have := li_0
                    exact ⟨_, rfl, W, F0⟩
                  · have := i_ge a1
                    have := i_up a1
                    have := i_ge a2
                    have := i_up a2
                    have hq13 := i_ne hq13
                    unfold f_Mo_both_116
                    have := li_1
                    exact ⟨_, rfl, W, F0⟩
                · have := li_11
                  have hq12 := i_ne hq12
                  refine wi (fun hq14 => ?_) (fun hq14 => ?_)
                  · have := li_12
                    have hq14 := i_eq hq14
                    refine wi (fun hq15 => ?_) (fun hq15 => ?_)
                    · have := i_ge a2
                      have := i_up a2
                      have := i_ge a1
                      have := i_up a1
                      have hq15 := i_le hq15
                      unfold f_Mo_both_127
                      have := li_0
                      exact ⟨_, rfl, W, F0⟩
                    · have := i_ge a2
                      have := i_up a2
                      have := i_ge a1
                      have := i_up a1
                      have hq15 := i_nle hq15
                      unfold f_Mo_both_127
                      have := li_1
                      exact ⟨_, rfl, W, F0⟩
                  · have := li_12
                    have hq14 := i_ne hq14
                    refine wi (fun hq16 => ?_) (fun hq16 => ?_)
                    · have := li_13
                      have hq16 := i_eq hq16
                      refine wi (fun hq17 => ?_) (fun hq17 => ?_)
                      · have := i_ge a2
                        have := i_up a2
                        have := i_ge a1
                        have := i_up a1
                        have hq17 := i_lt hq17
                        unfold f_Mo_both_138
                        have := li_0
                        exact ⟨_, rfl, W, F0⟩
                      · have := i_ge a2
                        have := i_up a2
                        have := i_ge a1
                        have := i_up a1
                        have hq17 := i_nlt hq17
                        unfold f_Mo_both_138
                        have := li_1
                        exact ⟨_, rfl, W, F0⟩
                    · have := li_13
                      have hq16 := i_ne hq16
                      refine wi (fun hq18 => ?_) (fun hq18 => ?_)
                      · have := li_14
                        have hq18 := i_eq hq18
                        refine wi (fun hq19 => ?_) (fun hq19 => ?_)
                        · have := i_ge a1
                          have := i_up a1
                          have := i_ge a2
                          have := i_up a2
                          have hq19 := i_le hq19
                          unfold f_Mo_both_149
                          have := li_0
                          exact ⟨_, rfl, W, F0⟩
                        · have := i_ge a1
                          have := i_up a1
                          have := i_ge a2
                          have := i_up a2
                          have hq19 := i_nle hq19
                          unfold f_Mo_both_149
                          have := li_1
                          exact ⟨_, rfl, W, F0⟩
                      · have := li_14
                        have hq18 := i_ne hq18
                        refine wi (fun hq20 => ?_) (fun hq20 => ?_)
                        · have := li_15
                          have hq20 := i_eq hq20
                          refine wi (fun hq21 => ?_) (fun hq21 => ?_)
                          · have := i_ge a1
                            have := i_up a1
                            have := i_ge a2
                            have := i_up a2
                            have hq21 := i_lt hq21
                            unfold f_Mo_both_160
                            have := li_0
                            exact ⟨_, rfl, W, F0⟩
                          · have := i_ge a1
                            have := i_up a1
                            have := i_ge a2
                            have := i_up a2
                            have hq21 := i_nlt hq21
                            unfold f_Mo_both_160
                            have := li_1
                            exact ⟨_, rfl, W, F0⟩
                        · have := li_15
                          have hq20 := i_ne hq20
                          refine wi (fun hq22 => ?_) (fun hq22 => ?_)
                          · have := li_16
                            have hq22 := i_eq hq22
                            exact ⟨_, rfl, W, F0⟩
                          · have := li_16
                            have hq22 := i_ne hq22
                            exact ⟨_, rfl, W, F0⟩

abbrev M_Mo_compareRows : List (Nat × Nat) := []
set_option maxRecDepth 100000 in
set_option maxHeartbeats 400000 in
theorem p_Mo_compareRows {nf : Nat} (hn : 8589934592 ≤ nf) {G : List Nat} {c : Zc} (W : Zwt zty G c) {a0 : Nat} {a1 : Int32} {a2 : Int32}  (t_a0 : G[a0]? = some 64) (pl_a1 : 0 ≤ a1.toInt) (pu_a1 : a1.toInt ≤ 19999) (pl_a2 : 0 ≤ a2.toInt) (pu_a2 : a2.toInt ≤ 19999) : ∃ q, f_Mo_compareRows nf a0 a1 a2 c = some q ∧ Zwt zty G q.2 ∧ Zfr G M_Mo_compareRows c q.2 ∧ (q.1.toInt = 0 ∨ ¬ a1.toInt = a2.toInt) := by
  have F0 : Zfr G M_Mo_compareRows c c := Zfr.rf
  unfold f_Mo_compareRows
  unfold f_Mo_compareRows_2
  have := li_0
  have L1 : ∃ b, zlp (fun a : Nat × Int32 × Int32 × Int32 × Zc => g_Mo_compareRows_2 nf a.1 a.2.1 a.2.2.1 a.2.2.2.1 a.2.2.2.2) nf (a0, a1, a2, 0, c) = some b ∧ (fun b : ((Int32 × Int32 × Zc) ⊕ (Zc)) => (match b with | .inl b => Zwt zty G b.2.2 ∧ Zfr G ([] : List (Nat × Nat)) c b.2.2 ∧ ¬ a1.toInt = a2.toInt | .inr b => Zwt zty G b ∧ Zfr G ([] : List (Nat × Nat)) c b)) b := by
    refine wlp (fun a : Nat × Int32 × Int32 × Int32 × Zc => a0 = a.1 ∧ a1 = a.2.1 ∧ a2 = a.2.2.1 ∧ Zwt zty G a.2.2.2.2 ∧ Zfr G ([] : List (Nat × Nat)) c a.2.2.2.2 ∧ 0 ≤ a.2.2.2.1.toInt ∧ a.2.2.2.1.toInt ≤ 8) (fun a => (8 - a.2.2.2.1.toInt).toNat) (fun b : ((Int32 × Int32 × Zc) ⊕ (Zc)) => (match b with | .inl b => Zwt zty G b.2.2 ∧ Zfr G ([] : List (Nat × Nat)) c b.2.2 ∧ ¬ a1.toInt = a2.toInt | .inr b => Zwt zty G b ∧ Zfr G ([] : List (Nat × Nat)) c b)) ?_ ?_ ?_
    · rintro ⟨x0_2, x1_2, x2_2, x3_2, c_2⟩ hI
      try dsimp only at hI ⊢
      obtain ⟨rfl, rfl, rfl, WLc_2, FLc_2, j3, j4⟩ := hI
      unfold g_Mo_compareRows_2
      obtain ⟨v1, ev1, lv1, uv1⟩ := gf_64_87 WLc_2 t_a0
      refine wb ev1 ?_
      refine wi (fun hq5 => ?_) (fun hq5 => ?_)
      · have hq5 := i_le hq5
        exact lInr ⟨WLc_2, FLc_2⟩
      · have hq5 := i_nle hq5
        obtain ⟨v3, ev3, tv3⟩ := gf_64_78 WLc_2 t_a0
        refine wb ev3 ?_
        obtain ⟨v4, ev4, tv4⟩ := gf_64_86 WLc_2 t_a0
        refine wb ev4 ?_
        obtain ⟨v5, ev5, lv5, uv5⟩ := ga_132 WLc_2 tv4 (i := x3_2) (by omega) (by omega)
        refine wb ev5 ?_
        have := li_8
        have := i_mull (a := 8) (b := a1) (n := 8) li_8 (by omega) (by omega)
        have := i_add (a := (8 * a1)) (b := v5) (by omega) (by omega)
        obtain ⟨v6, ev6, _⟩ := ga_125 WLc_2 tv3 (i := ((8 * a1) + v5)) (by omega) (by omega)
        refine wb ev6 ?_
        refine wb ev3 ?_
        refine wb ev4 ?_
        refine wb ev5 ?_
        have := i_mull (a := 8) (b := a2) (n := 8) li_8 (by omega) (by omega)
        have := i_add (a := (8 * a2)) (b := v5) (by omega) (by omega)
        obtain ⟨v10, ev10, _⟩ := ga_125 WLc_2 tv3 (i := ((8 * a2) + v5)) (by omega) (by omega)
        refine wb ev10 ?_
        have := rd_same ev6 ev10
        refine wi (fun hq6 => ?_) (fun hq6 => ?_)
        · have := i_ge v6
          have := i_up v6
          have := i_ge v10
          have := i_up v10
          have hq6 := i_eq hq6
          have := li_1
          have := i_add (a := x3_2) (b := 1) (by omega) (by omega)
          exact lInl ⟨rfl, rfl, rfl, WLc_2, FLc_2, by (try dsimp only); omega, by (try dsimp only); omega⟩ (by (try dsimp only); omega)
        · have := i_ge v6
          have := i_up v6
          have := i_ge v10
          have := i_up v10
          have hq6 := i_ne hq6
          exact lInr ⟨WLc_2, FLc_2, by (try dsimp only); omega⟩
    · exact ⟨rfl, rfl, rfl, W, Zfr.rf, by (try dsimp only); omega, by (try dsimp only); omega⟩
    · (try dsimp only); omega
  obtain ⟨b, eb, hb⟩ := L1
  refine wb eb ?_
  clear eb
  rcases b with b | b
  · obtain ⟨z0_7, z1_7, c_7⟩ := b
    try dsimp only at hb ⊢
    obtain ⟨WXc_7, FXc_7, j8⟩ := hb
    have F9 := Zfr.tr F0 FXc_7 (by decide)
    refine wi (fun hq10 => ?_) (fun hq10 => ?_)
    · have := i_ge z1_7
      have := i_up z1_7
      have := i_ge z0_7
      have := i_up z0_7
      have hq10 := i_le hq10
      unfold f_Mo_compareRows_65
      have := li_1
      exact ⟨_, rfl, WXc_7, F9, by (try dsimp only); omega⟩
    · have := i_ge z1_7
      have := i_up z1_7
      have := i_ge z0_7
      have := i_up z0_7
      have hq10 := i_nle hq10
      unfold f_Mo_compareRows_65
      have := li_m1
      exact ⟨_, rfl, WXc_7, F9, by (try dsimp only); omega⟩
  · obtain c_11 := b
    try dsimp only at hb ⊢
    obtain ⟨WXc_11, FXc_11⟩ := hb
    have F12 := Zfr.tr F0 FXc_11 (by decide)
    exact ⟨_, rfl, WXc_11, F12, by (try dsimp only); omega⟩

end ZzT
