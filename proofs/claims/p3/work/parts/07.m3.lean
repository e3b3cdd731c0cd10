section ZzM
variable {p : Program} {l : Launch} {e : Env} {s : State} {m : MethodId} {args : Array Value} {below : List Frame} {meth : Method} {cd : Code} {Q : State → Prop} {D : va_G} {cid : Nat → ClassId} {B n0 : Nat}
theorem dd_Math_min_0_0 : decode bb_Math_min_0 0 = .ok (.iload_n 0, 1) := by decide +kernel
theorem dd_Math_min_0_1 : decode bb_Math_min_0 1 = .ok (.iload_n 1, 1) := by decide +kernel
theorem dd_Math_min_0_2 : decode bb_Math_min_0 2 = .ok (.if_icmp .gt 7, 3) := by decide +kernel
theorem dd_Math_min_0_5 : decode bb_Math_min_0 5 = .ok (.iload_n 0, 1) := by decide +kernel
theorem dd_Math_min_0_6 : decode bb_Math_min_0 6 = .ok (.goto 4, 3) := by decide +kernel
theorem dd_Math_min_0_9 : decode bb_Math_min_0 9 = .ok (.iload_n 1, 1) := by decide +kernel
theorem dd_Math_min_0_10 : decode bb_Math_min_0 10 = .ok (.ireturn, 1) := by decide +kernel
def f_Math_min_0_10 (nf : Nat) (s0 : Int32) (c : Zc) : Option (Int32 × Zc) :=
  some (s0, c)
def f_Math_min_0 (nf : Nat) (a0 : Int32) (a1 : Int32) (c : Zc) : Option (Int32 × Zc) :=
  if a1 < a0 then (f_Math_min_0_10 nf a1 c) else (f_Math_min_0_10 nf a0 c)
set_option maxRecDepth 100000 in
set_option maxHeartbeats 4000000 in
theorem t_Math_min_0_10  (X : zX p s m args cd D cid B bb_Math_min_0 2 rr_Math zT) (H : zH s meth B n0 (some (.int)) "min") {nf : Nat} {s0 : Int32} {c : Zc} {res : Int32 × Zc} (h : f_Math_min_0_10 nf s0 c = some res) : Zz p l e (zRm 0 0 0 0) s m args below meth cd (MQ below (zQi D cid B res.1 res.2 n0 0) args s 0 0 (fun q => B ≤ q)) D cid B 2 0 0 c 10 [] [.int s0] := by
  unfold f_Math_min_0_10 at h
  obtain rfl := Option.some.inj h
  exact z_iret X H.1 H.2.1 H.2.2.1 dd_Math_min_0_10
set_option maxRecDepth 100000 in
set_option maxHeartbeats 4000000 in
theorem c_Math_min_0 (l : Launch) {nf : Nat} {a0 : Int32} {a1 : Int32} {c : Zc} {res : Int32 × Zc} (h : f_Math_min_0 nf a0 a1 c = some res) : zM l yy_Math_min_0 ww_Math_min_0 0 0 0 0 [.int a0, .int a1] c (fun D cid B => zQi D cid B res.1 res.2 c.length 0) := by
  refine z_metF (cc := bb_Math_min_0) (maxL := 2) (ret := (some (.int))) (by decide +kernel) rfl (Nat.le_of_ble_eq_true rfl) ?_
  intro p e s m args below meth cd D cid B X h1 h2 h3 h4
  have X : zX p s m args cd D cid B bb_Math_min_0 2 rr_Math zT := X
  have H : zH s meth B c.length (some (.int)) "min" := ⟨h1, h2, h4, h3⟩
  unfold f_Math_min_0 at h
  show Zz p l e (zRm 0 0 0 0) s m args below meth cd _ D cid B 2 0 0 c 0 [(0, .int a0), (1, .int a1)] []
  refine z_iload_n X dd_Math_min_0_0 rfl 0 rfl ?_
  refine z_iload_n X dd_Math_min_0_1 rfl 1 rfl ?_
  refine z_icmp_gt (tgt := 9) X dd_Math_min_0_2 (by decide) (fun q1 => ?_) (fun q1 => ?_)
  · rw [if_pos q1] at h
    refine z_iload_n X dd_Math_min_0_9 rfl 1 rfl ?_
    refine z_sub [] rfl ?_
    exact t_Math_min_0_10 X H h
  · rw [if_neg q1] at h
    refine z_iload_n X dd_Math_min_0_5 rfl 0 rfl ?_
    refine z_goto (tgt := 10) X dd_Math_min_0_6 (by decide) ?_
    refine z_sub [] rfl ?_
    exact t_Math_min_0_10 X H h
theorem dd_Tokens_isBlank_0 : decode bb_Tokens_isBlank 0 = .ok (.iload_n 0, 1) := by decide +kernel
theorem dd_Tokens_isBlank_1 : decode bb_Tokens_isBlank 1 = .ok (.bipush 9, 2) := by decide +kernel
theorem dd_Tokens_isBlank_3 : decode bb_Tokens_isBlank 3 = .ok (.if_icmp .eq 21, 3) := by decide +kernel
theorem dd_Tokens_isBlank_6 : decode bb_Tokens_isBlank 6 = .ok (.iload_n 0, 1) := by decide +kernel
theorem dd_Tokens_isBlank_7 : decode bb_Tokens_isBlank 7 = .ok (.bipush 10, 2) := by decide +kernel
theorem dd_Tokens_isBlank_9 : decode bb_Tokens_isBlank 9 = .ok (.if_icmp .eq 15, 3) := by decide +kernel
theorem dd_Tokens_isBlank_12 : decode bb_Tokens_isBlank 12 = .ok (.iload_n 0, 1) := by decide +kernel
theorem dd_Tokens_isBlank_13 : decode bb_Tokens_isBlank 13 = .ok (.bipush 13, 2) := by decide +kernel
theorem dd_Tokens_isBlank_15 : decode bb_Tokens_isBlank 15 = .ok (.if_icmp .eq 9, 3) := by decide +kernel
theorem dd_Tokens_isBlank_18 : decode bb_Tokens_isBlank 18 = .ok (.iload_n 0, 1) := by decide +kernel
theorem dd_Tokens_isBlank_19 : decode bb_Tokens_isBlank 19 = .ok (.bipush 32, 2) := by decide +kernel
theorem dd_Tokens_isBlank_21 : decode bb_Tokens_isBlank 21 = .ok (.if_icmp .ne 7, 3) := by decide +kernel
theorem dd_Tokens_isBlank_24 : decode bb_Tokens_isBlank 24 = .ok (.iconst 1, 1) := by decide +kernel
theorem dd_Tokens_isBlank_25 : decode bb_Tokens_isBlank 25 = .ok (.goto 4, 3) := by decide +kernel
theorem dd_Tokens_isBlank_28 : decode bb_Tokens_isBlank 28 = .ok (.iconst 0, 1) := by decide +kernel
theorem dd_Tokens_isBlank_29 : decode bb_Tokens_isBlank 29 = .ok (.ireturn, 1) := by decide +kernel
def f_Tokens_isBlank_29 (nf : Nat) (s0 : Int32) (c : Zc) : Option (Int32 × Zc) :=
  zrz s0 c
def f_Tokens_isBlank_24 (nf : Nat)  (c : Zc) : Option (Int32 × Zc) :=
  f_Tokens_isBlank_29 nf 1 c
def f_Tokens_isBlank (nf : Nat) (a0 : Int32) (c : Zc) : Option (Int32 × Zc) :=
  if a0 = 9 then (f_Tokens_isBlank_24 nf  c) else (if a0 = 10 then (f_Tokens_isBlank_24 nf  c) else (if a0 = 13 then (f_Tokens_isBlank_24 nf  c) else (if a0 = 32 then (f_Tokens_isBlank_24 nf  c) else (f_Tokens_isBlank_29 nf 0 c))))
set_option maxRecDepth 100000 in
set_option maxHeartbeats 4000000 in
theorem t_Tokens_isBlank_29  (X : zX p s m args cd D cid B bb_Tokens_isBlank 1 rr_Tokens zT) (H : zH s meth B n0 (some (.boolean)) "isBlank") {nf : Nat} {s0 : Int32} {c : Zc} {res : Int32 × Zc} (h : f_Tokens_isBlank_29 nf s0 c = some res) : Zz p l e (zRm 0 0 0 0) s m args below meth cd (MQ below (zQi D cid B res.1 res.2 n0 0) args s 0 0 (fun q => B ≤ q)) D cid B 1 0 0 c 29 [] [.int s0] := by
  unfold f_Tokens_isBlank_29 at h
  obtain ⟨hz, h⟩ := zrz_s h
  obtain rfl := h
  exact z_zret X H.1 (zn_z hz) H.2.1 H.2.2.1 dd_Tokens_isBlank_29
set_option maxRecDepth 100000 in
set_option maxHeartbeats 4000000 in
theorem t_Tokens_isBlank_24  (X : zX p s m args cd D cid B bb_Tokens_isBlank 1 rr_Tokens zT) (H : zH s meth B n0 (some (.boolean)) "isBlank") {nf : Nat}  {c : Zc} {res : Int32 × Zc} (h : f_Tokens_isBlank_24 nf  c = some res) : Zz p l e (zRm 0 0 0 0) s m args below meth cd (MQ below (zQi D cid B res.1 res.2 n0 0) args s 0 0 (fun q => B ≤ q)) D cid B 1 0 0 c 24 [] [] := by
  unfold f_Tokens_isBlank_24 at h
  refine z_iconst (v := 1) X dd_Tokens_isBlank_24 (by decide) ?_
  refine z_goto (tgt := 29) X dd_Tokens_isBlank_25 (by decide) ?_
  exact t_Tokens_isBlank_29 X H h
set_option maxRecDepth 100000 in
set_option maxHeartbeats 4000000 in
theorem c_Tokens_isBlank (l : Launch) {nf : Nat} {a0 : Int32} {c : Zc} {res : Int32 × Zc} (h : f_Tokens_isBlank nf a0 c = some res) : zM l yy_Tokens_isBlank ww_Tokens_isBlank 0 0 0 0 [.int a0] c (fun D cid B => zQi D cid B res.1 res.2 c.length 0) := by
  refine z_met (cc := bb_Tokens_isBlank) (maxL := 1) (ret := (some (.boolean))) (by decide +kernel) rfl (Nat.le_of_ble_eq_true rfl) ?_
  intro p e s m args below meth cd D cid B X h1 h2 h3 h4
  have X : zX p s m args cd D cid B bb_Tokens_isBlank 1 rr_Tokens zT := X
  have H : zH s meth B c.length (some (.boolean)) "isBlank" := ⟨h1, h2, h4, h3⟩
  unfold f_Tokens_isBlank at h
  show Zz p l e (zRm 0 0 0 0) s m args below meth cd _ D cid B 1 0 0 c 0 [(0, .int a0)] []
  refine z_iload_n X dd_Tokens_isBlank_0 rfl 0 rfl ?_
  refine z_bipush (v := 9) X dd_Tokens_isBlank_1 (by decide) ?_
  refine z_icmp_eq (tgt := 24) X dd_Tokens_isBlank_3 (by decide) (fun q1 => ?_) (fun q1 => ?_)
  · rw [if_pos q1] at h
    refine z_sub [] rfl ?_
    exact t_Tokens_isBlank_24 X H h
  · rw [if_neg q1] at h
    refine z_iload_n X dd_Tokens_isBlank_6 rfl 0 rfl ?_
    refine z_bipush (v := 10) X dd_Tokens_isBlank_7 (by decide) ?_
    refine z_icmp_eq (tgt := 24) X dd_Tokens_isBlank_9 (by decide) (fun q2 => ?_) (fun q2 => ?_)
    · rw [if_pos q2] at h
      refine z_sub [] rfl ?_
      exact t_Tokens_isBlank_24 X H h
    · rw [if_neg q2] at h
      refine z_iload_n X dd_Tokens_isBlank_12 rfl 0 rfl ?_
      refine z_bipush (v := 13) X dd_Tokens_isBlank_13 (by decide) ?_
      refine z_icmp_eq (tgt := 24) X dd_Tokens_isBlank_15 (by decide) (fun q3 => ?_) (fun q3 => ?_)
      · rw [if_pos q3] at h
        refine z_sub [] rfl ?_
        exact t_Tokens_isBlank_24 X H h
      · rw [if_neg q3] at h
        refine z_iload_n X dd_Tokens_isBlank_18 rfl 0 rfl ?_
        refine z_bipush (v := 32) X dd_Tokens_isBlank_19 (by decide) ?_
        refine z_icmp_ne (tgt := 28) X dd_Tokens_isBlank_21 (by decide) (fun q4 => ?_) (fun q4 => ?_)
        · rw [if_neg q4] at h
          refine z_iconst (v := 0) X dd_Tokens_isBlank_28 (by decide) ?_
          refine z_sub [] rfl ?_
          exact t_Tokens_isBlank_29 X H h
        · rw [if_pos q4] at h
          refine z_sub [] rfl ?_
          exact t_Tokens_isBlank_24 X H h
theorem dd_Tokens_isLetter_0 : decode bb_Tokens_isLetter 0 = .ok (.iload_n 0, 1) := by decide +kernel
theorem dd_Tokens_isLetter_1 : decode bb_Tokens_isLetter 1 = .ok (.bipush 97, 2) := by decide +kernel
theorem dd_Tokens_isLetter_3 : decode bb_Tokens_isLetter 3 = .ok (.if_icmp .lt 9, 3) := by decide +kernel
theorem dd_Tokens_isLetter_6 : decode bb_Tokens_isLetter 6 = .ok (.iload_n 0, 1) := by decide +kernel
theorem dd_Tokens_isLetter_7 : decode bb_Tokens_isLetter 7 = .ok (.bipush 122, 2) := by decide +kernel
theorem dd_Tokens_isLetter_9 : decode bb_Tokens_isLetter 9 = .ok (.if_icmp .le 15, 3) := by decide +kernel
theorem dd_Tokens_isLetter_12 : decode bb_Tokens_isLetter 12 = .ok (.iload_n 0, 1) := by decide +kernel
theorem dd_Tokens_isLetter_13 : decode bb_Tokens_isLetter 13 = .ok (.bipush 65, 2) := by decide +kernel
theorem dd_Tokens_isLetter_15 : decode bb_Tokens_isLetter 15 = .ok (.if_icmp .lt 13, 3) := by decide +kernel
theorem dd_Tokens_isLetter_18 : decode bb_Tokens_isLetter 18 = .ok (.iload_n 0, 1) := by decide +kernel
theorem dd_Tokens_isLetter_19 : decode bb_Tokens_isLetter 19 = .ok (.bipush 90, 2) := by decide +kernel
theorem dd_Tokens_isLetter_21 : decode bb_Tokens_isLetter 21 = .ok (.if_icmp .gt 7, 3) := by decide +kernel
theorem dd_Tokens_isLetter_24 : decode bb_Tokens_isLetter 24 = .ok (.iconst 1, 1) := by decide +kernel
theorem dd_Tokens_isLetter_25 : decode bb_Tokens_isLetter 25 = .ok (.goto 4, 3) := by decide +kernel
theorem dd_Tokens_isLetter_28 : decode bb_Tokens_isLetter 28 = .ok (.iconst 0, 1) := by decide +kernel
theorem dd_Tokens_isLetter_29 : decode bb_Tokens_isLetter 29 = .ok (.ireturn, 1) := by decide +kernel
def f_Tokens_isLetter_29 (nf : Nat) (s0 : Int32) (c : Zc) : Option (Int32 × Zc) :=
  zrz s0 c
def f_Tokens_isLetter_28 (nf : Nat)  (c : Zc) : Option (Int32 × Zc) :=
  f_Tokens_isLetter_29 nf 0 c
def f_Tokens_isLetter_24 (nf : Nat)  (c : Zc) : Option (Int32 × Zc) :=
  f_Tokens_isLetter_29 nf 1 c
def f_Tokens_isLetter_12 (nf : Nat) (x0 : Int32) (c : Zc) : Option (Int32 × Zc) :=
  if x0 < 65 then (f_Tokens_isLetter_28 nf  c) else (if 90 < x0 then (f_Tokens_isLetter_28 nf  c) else (f_Tokens_isLetter_24 nf  c))
def f_Tokens_isLetter (nf : Nat) (a0 : Int32) (c : Zc) : Option (Int32 × Zc) :=
  if a0 < 97 then (f_Tokens_isLetter_12 nf a0 c) else (if a0 ≤ 122 then (f_Tokens_isLetter_24 nf  c) else (f_Tokens_isLetter_12 nf a0 c))
set_option maxRecDepth 100000 in
set_option maxHeartbeats 4000000 in
theorem t_Tokens_isLetter_29  (X : zX p s m args cd D cid B bb_Tokens_isLetter 1 rr_Tokens zT) (H : zH s meth B n0 (some (.boolean)) "isLetter") {nf : Nat} {s0 : Int32} {c : Zc} {res : Int32 × Zc} (h : f_Tokens_isLetter_29 nf s0 c = some res) : Zz p l e (zRm 0 0 0 0) s m args below meth cd (MQ below (zQi D cid B res.1 res.2 n0 0) args s 0 0 (fun q => B ≤ q)) D cid B 1 0 0 c 29 [] [.int s0] := by
  unfold f_Tokens_isLetter_29 at h
  obtain ⟨hz, h⟩ := zrz_s h
  obtain rfl := h
  exact z_zret X H.1 (zn_z hz) H.2.1 H.2.2.1 dd_Tokens_isLetter_29
set_option maxRecDepth 100000 in
set_option maxHeartbeats 4000000 in
theorem t_Tokens_isLetter_28  (X : zX p s m args cd D cid B bb_Tokens_isLetter 1 rr_Tokens zT) (H : zH s meth B n0 (some (.boolean)) "isLetter") {nf : Nat}  {c : Zc} {res : Int32 × Zc} (h : f_Tokens_isLetter_28 nf  c = some res) : Zz p l e (zRm 0 0 0 0) s m args below meth cd (MQ below (zQi D cid B res.1 res.2 n0 0) args s 0 0 (fun q => B ≤ q)) D cid B 1 0 0 c 28 [] [] := by
  unfold f_Tokens_isLetter_28 at h
  refine z_iconst (v := 0) X dd_Tokens_isLetter_28 (by decide) ?_
  exact t_Tokens_isLetter_29 X H h
set_option maxRecDepth 100000 in
set_option maxHeartbeats 4000000 in
theorem t_Tokens_isLetter_24  (X : zX p s m args cd D cid B bb_Tokens_isLetter 1 rr_Tokens zT) (H : zH s meth B n0 (some (.boolean)) "isLetter") {nf : Nat}  {c : Zc} {res : Int32 × Zc} (h : f_Tokens_isLetter_24 nf  c = some res) : Zz p l e (zRm 0 0 0 0) s m args below meth cd (MQ below (zQi D cid B res.1 res.2 n0 0) args s 0 0 (fun q => B ≤ q)) D cid B 1 0 0 c 24 [] [] := by
  unfold f_Tokens_isLetter_24 at h
  refine z_iconst (v := 1) X dd_Tokens_isLetter_24 (by decide) ?_
  refine z_goto (tgt := 29) X dd_Tokens_isLetter_25 (by decide) ?_
  exact t_Tokens_isLetter_29 X H h
set_option maxRecDepth 100000 in
set_option maxHeartbeats 4000000 in
theorem t_Tokens_isLetter_12  (X : zX p s m args cd D cid B bb_Tokens_isLetter 1 rr_Tokens zT) (H : zH s meth B n0 (some (.boolean)) "isLetter") {nf : Nat} {x0 : Int32} {c : Zc} {res : Int32 × Zc} (h : f_Tokens_isLetter_12 nf x0 c = some res) : Zz p l e (zRm 0 0 0 0) s m args below meth cd (MQ below (zQi D cid B res.1 res.2 n0 0) args s 0 0 (fun q => B ≤ q)) D cid B 1 0 0 c 12 [(0, .int x0)] [] := by
  unfold f_Tokens_isLetter_12 at h
  refine z_iload_n X dd_Tokens_isLetter_12 rfl 0 rfl ?_
  refine z_bipush (v := 65) X dd_Tokens_isLetter_13 (by decide) ?_
  refine z_icmp_lt (tgt := 28) X dd_Tokens_isLetter_15 (by decide) (fun q2 => ?_) (fun q2 => ?_)
  · rw [if_pos q2] at h
    refine z_sub [] rfl ?_
    exact t_Tokens_isLetter_28 X H h
  · rw [if_neg q2] at h
    refine z_iload_n X dd_Tokens_isLetter_18 rfl 0 rfl ?_
    refine z_bipush (v := 90) X dd_Tokens_isLetter_19 (by decide) ?_
    refine z_icmp_gt (tgt := 28) X dd_Tokens_isLetter_21 (by decide) (fun q3 => ?_) (fun q3 => ?_)
    · rw [if_pos q3] at h
      refine z_sub [] rfl ?_
      exact t_Tokens_isLetter_28 X H h
    · rw [if_neg q3] at h
      refine z_sub [] rfl ?_
      exact t_Tokens_isLetter_24 X H h
set_option maxRecDepth 100000 in
set_option maxHeartbeats 4000000 in
theorem c_Tokens_isLetter (l : Launch) {nf : Nat} {a0 : Int32} {c : Zc} {res : Int32 × Zc} (h : f_Tokens_isLetter nf a0 c = some res) : zM l yy_Tokens_isLetter ww_Tokens_isLetter 0 0 0 0 [.int a0] c (fun D cid B => zQi D cid B res.1 res.2 c.length 0) := by
  refine z_met (cc := bb_Tokens_isLetter) (maxL := 1) (ret := (some (.boolean))) (by decide +kernel) rfl (Nat.le_of_ble_eq_true rfl) ?_
  intro p e s m args below meth cd D cid B X h1 h2 h3 h4
  have X : zX p s m args cd D cid B bb_Tokens_isLetter 1 rr_Tokens zT := X
  have H : zH s meth B c.length (some (.boolean)) "isLetter" := ⟨h1, h2, h4, h3⟩
  unfold f_Tokens_isLetter at h
  show Zz p l e (zRm 0 0 0 0) s m args below meth cd _ D cid B 1 0 0 c 0 [(0, .int a0)] []
  refine z_iload_n X dd_Tokens_isLetter_0 rfl 0 rfl ?_
  refine z_bipush (v := 97) X dd_Tokens_isLetter_1 (by decide) ?_
  refine z_icmp_lt (tgt := 12) X dd_Tokens_isLetter_3 (by decide) (fun q1 => ?_) (fun q1 => ?_)
  · rw [if_pos q1] at h
    exact t_Tokens_isLetter_12 X H h
  · rw [if_neg q1] at h
    refine z_iload_n X dd_Tokens_isLetter_6 rfl 0 rfl ?_
    refine z_bipush (v := 122) X dd_Tokens_isLetter_7 (by decide) ?_
    refine z_icmp_le (tgt := 24) X dd_Tokens_isLetter_9 (by decide) (fun q4 => ?_) (fun q4 => ?_)
    · rw [if_pos q4] at h
      refine z_sub [] rfl ?_
      exact t_Tokens_isLetter_24 X H h
    · rw [if_neg q4] at h
      exact t_Tokens_isLetter_12 X H h
theorem dd_Tokens_isDigit_0 : decode bb_Tokens_isDigit 0 = .ok (.iload_n 0, 1) := by decide +kernel
theorem dd_Tokens_isDigit_1 : decode bb_Tokens_isDigit 1 = .ok (.bipush 48, 2) := by decide +kernel
theorem dd_Tokens_isDigit_3 : decode bb_Tokens_isDigit 3 = .ok (.if_icmp .lt 13, 3) := by decide +kernel
theorem dd_Tokens_isDigit_6 : decode bb_Tokens_isDigit 6 = .ok (.iload_n 0, 1) := by decide +kernel
theorem dd_Tokens_isDigit_7 : decode bb_Tokens_isDigit 7 = .ok (.bipush 57, 2) := by decide +kernel
theorem dd_Tokens_isDigit_9 : decode bb_Tokens_isDigit 9 = .ok (.if_icmp .gt 7, 3) := by decide +kernel
theorem dd_Tokens_isDigit_12 : decode bb_Tokens_isDigit 12 = .ok (.iconst 1, 1) := by decide +kernel
theorem dd_Tokens_isDigit_13 : decode bb_Tokens_isDigit 13 = .ok (.goto 4, 3) := by decide +kernel
theorem dd_Tokens_isDigit_16 : decode bb_Tokens_isDigit 16 = .ok (.iconst 0, 1) := by decide +kernel
theorem dd_Tokens_isDigit_17 : decode bb_Tokens_isDigit 17 = .ok (.ireturn, 1) := by decide +kernel
def f_Tokens_isDigit_17 (nf : Nat) (s0 : Int32) (c : Zc) : Option (Int32 × Zc) :=
  zrz s0 c
def f_Tokens_isDigit_16 (nf : Nat)  (c : Zc) : Option (Int32 × Zc) :=
  f_Tokens_isDigit_17 nf 0 c
def f_Tokens_isDigit (nf : Nat) (a0 : Int32) (c : Zc) : Option (Int32 × Zc) :=
  if a0 < 48 then (f_Tokens_isDigit_16 nf  c) else (if 57 < a0 then (f_Tokens_isDigit_16 nf  c) else (f_Tokens_isDigit_17 nf 1 c))
set_option maxRecDepth 100000 in
set_option maxHeartbeats 4000000 in
theorem t_Tokens_isDigit_17  (X : zX p s m args cd D cid B bb_Tokens_isDigit 1 rr_Tokens zT) (H : zH s meth B n0 (some (.boolean)) "isDigit") {nf : Nat} {s0 : Int32} {c : Zc} {res : Int32 × Zc} (h : f_Tokens_isDigit_17 nf s0 c = some res) : Zz p l e (zRm 0 0 0 0) s m args below meth cd (MQ below (zQi D cid B res.1 res.2 n0 0) args s 0 0 (fun q => B ≤ q)) D cid B 1 0 0 c 17 [] [.int s0] := by
  unfold f_Tokens_isDigit_17 at h
  obtain ⟨hz, h⟩ := zrz_s h
  obtain rfl := h
  exact z_zret X H.1 (zn_z hz) H.2.1 H.2.2.1 dd_Tokens_isDigit_17
set_option maxRecDepth 100000 in
set_option maxHeartbeats 4000000 in
theorem t_Tokens_isDigit_16  (X : zX p s m args cd D cid B bb_Tokens_isDigit 1 rr_Tokens zT) (H : zH s meth B n0 (some (.boolean)) "isDigit") {nf : Nat}  {c : Zc} {res : Int32 × Zc} (h : f_Tokens_isDigit_16 nf  c = some res) : Zz p l e (zRm 0 0 0 0) s m args below meth cd (MQ below (zQi D cid B res.1 res.2 n0 0) args s 0 0 (fun q => B ≤ q)) D cid B 1 0 0 c 16 [] [] := by
  unfold f_Tokens_isDigit_16 at h
  refine z_iconst (v := 0) X dd_Tokens_isDigit_16 (by decide) ?_
  exact t_Tokens_isDigit_17 X H h
set_option maxRecDepth 100000 in
set_option maxHeartbeats 4000000 in
theorem c_Tokens_isDigit (l : Launch) {nf : Nat} {a0 : Int32} {c : Zc} {res : Int32 × Zc} (h : f_Tokens_isDigit nf a0 c = some res) : zM l yy_Tokens_isDigit ww_Tokens_isDigit 0 0 0 0 [.int a0] c (fun D cid B => zQi D cid B res.1 res.2 c.length 0) := by
  refine z_met (cc := bb_Tokens_isDigit) (maxL := 1) (ret := (some (.boolean))) (by decide +kernel) rfl (Nat.le_of_ble_eq_true rfl) ?_
  intro p e s m args below meth cd D cid B X h1 h2 h3 h4
  have X : zX p s m args cd D cid B bb_Tokens_isDigit 1 rr_Tokens zT := X
  have H : zH s meth B c.length (some (.boolean)) "isDigit" := ⟨h1, h2, h4, h3⟩
  unfold f_Tokens_isDigit at h
  show Zz p l e (zRm 0 0 0 0) s m args below meth cd _ D cid B 1 0 0 c 0 [(0, .int a0)] []
  refine z_iload_n X dd_Tokens_isDigit_0 rfl 0 rfl ?_
  refine z_bipush (v := 48) X dd_Tokens_isDigit_1 (by decide) ?_
  refine z_icmp_lt (tgt := 16) X dd_Tokens_isDigit_3 (by decide) (fun q1 => ?_) (fun q1 => ?_)
  · rw [if_pos q1] at h
    refine z_sub [] rfl ?_
    exact t_Tokens_isDigit_16 X H h
  · rw [if_neg q1] at h
    refine z_iload_n X dd_Tokens_isDigit_6 rfl 0 rfl ?_
    refine z_bipush (v := 57) X dd_Tokens_isDigit_7 (by decide) ?_
    refine z_icmp_gt (tgt := 16) X dd_Tokens_isDigit_9 (by decide) (fun q2 => ?_) (fun q2 => ?_)
    · rw [if_pos q2] at h
      refine z_sub [] rfl ?_
      exact t_Tokens_isDigit_16 X H h
    · rw [if_neg q2] at h
      refine z_iconst (v := 1) X dd_Tokens_isDigit_12 (by decide) ?_
      refine z_goto (tgt := 17) X dd_Tokens_isDigit_13 (by decide) ?_
      refine z_sub [] rfl ?_
      exact t_Tokens_isDigit_17 X H h
theorem dd_Tokens_numberKind_0 : decode bb_Tokens_numberKind 0 = .ok (.iload_n 2, 1) := by decide +kernel
theorem dd_Tokens_numberKind_1 : decode bb_Tokens_numberKind 1 = .ok (.iload_n 1, 1) := by decide +kernel
theorem dd_Tokens_numberKind_2 : decode bb_Tokens_numberKind 2 = .ok (.isub, 1) := by decide +kernel
theorem dd_Tokens_numberKind_3 : decode bb_Tokens_numberKind 3 = .ok (.iconst 4, 1) := by decide +kernel
theorem dd_Tokens_numberKind_4 : decode bb_Tokens_numberKind 4 = .ok (.if_icmp .le 5, 3) := by decide +kernel
theorem dd_Tokens_numberKind_7 : decode bb_Tokens_numberKind 7 = .ok (.iconst 0, 1) := by decide +kernel
theorem dd_Tokens_numberKind_8 : decode bb_Tokens_numberKind 8 = .ok (.ireturn, 1) := by decide +kernel
theorem dd_Tokens_numberKind_9 : decode bb_Tokens_numberKind 9 = .ok (.iconst 0, 1) := by decide +kernel
theorem dd_Tokens_numberKind_10 : decode bb_Tokens_numberKind 10 = .ok (.istore_n 3, 1) := by decide +kernel
theorem dd_Tokens_numberKind_11 : decode bb_Tokens_numberKind 11 = .ok (.iload_n 1, 1) := by decide +kernel
theorem dd_Tokens_numberKind_12 : decode bb_Tokens_numberKind 12 = .ok (.istore 4, 2) := by decide +kernel
theorem dd_Tokens_numberKind_14 : decode bb_Tokens_numberKind 14 = .ok (.iload 4, 2) := by decide +kernel
theorem dd_Tokens_numberKind_16 : decode bb_Tokens_numberKind 16 = .ok (.iload_n 2, 1) := by decide +kernel
theorem dd_Tokens_numberKind_17 : decode bb_Tokens_numberKind 17 = .ok (.if_icmp .ge 40, 3) := by decide +kernel
theorem dd_Tokens_numberKind_20 : decode bb_Tokens_numberKind 20 = .ok (.aload_n 0, 1) := by decide +kernel
theorem dd_Tokens_numberKind_21 : decode bb_Tokens_numberKind 21 = .ok (.getfield 25, 3) := by decide +kernel
theorem dd_Tokens_numberKind_24 : decode bb_Tokens_numberKind 24 = .ok (.iload 4, 2) := by decide +kernel
theorem dd_Tokens_numberKind_26 : decode bb_Tokens_numberKind 26 = .ok (.baload, 1) := by decide +kernel
theorem dd_Tokens_numberKind_27 : decode bb_Tokens_numberKind 27 = .ok (.invokestatic 49, 3) := by decide +kernel
theorem dd_Tokens_numberKind_30 : decode bb_Tokens_numberKind 30 = .ok (.ifCond .ne 5, 3) := by decide +kernel
theorem dd_Tokens_numberKind_33 : decode bb_Tokens_numberKind 33 = .ok (.iconst 0, 1) := by decide +kernel
theorem dd_Tokens_numberKind_34 : decode bb_Tokens_numberKind 34 = .ok (.ireturn, 1) := by decide +kernel
theorem dd_Tokens_numberKind_35 : decode bb_Tokens_numberKind 35 = .ok (.iload_n 3, 1) := by decide +kernel
theorem dd_Tokens_numberKind_36 : decode bb_Tokens_numberKind 36 = .ok (.bipush 10, 2) := by decide +kernel
theorem dd_Tokens_numberKind_38 : decode bb_Tokens_numberKind 38 = .ok (.imul, 1) := by decide +kernel
theorem dd_Tokens_numberKind_39 : decode bb_Tokens_numberKind 39 = .ok (.aload_n 0, 1) := by decide +kernel
theorem dd_Tokens_numberKind_40 : decode bb_Tokens_numberKind 40 = .ok (.getfield 25, 3) := by decide +kernel
theorem dd_Tokens_numberKind_43 : decode bb_Tokens_numberKind 43 = .ok (.iload 4, 2) := by decide +kernel
theorem dd_Tokens_numberKind_45 : decode bb_Tokens_numberKind 45 = .ok (.baload, 1) := by decide +kernel
theorem dd_Tokens_numberKind_46 : decode bb_Tokens_numberKind 46 = .ok (.iadd, 1) := by decide +kernel
theorem dd_Tokens_numberKind_47 : decode bb_Tokens_numberKind 47 = .ok (.bipush 48, 2) := by decide +kernel
theorem dd_Tokens_numberKind_49 : decode bb_Tokens_numberKind 49 = .ok (.isub, 1) := by decide +kernel
theorem dd_Tokens_numberKind_50 : decode bb_Tokens_numberKind 50 = .ok (.istore_n 3, 1) := by decide +kernel
theorem dd_Tokens_numberKind_51 : decode bb_Tokens_numberKind 51 = .ok (.iinc 4 1, 3) := by decide +kernel
theorem dd_Tokens_numberKind_54 : decode bb_Tokens_numberKind 54 = .ok (.goto (-40), 3) := by decide +kernel
theorem dd_Tokens_numberKind_57 : decode bb_Tokens_numberKind 57 = .ok (.aload_n 0, 1) := by decide +kernel
theorem dd_Tokens_numberKind_58 : decode bb_Tokens_numberKind 58 = .ok (.getfield 15, 3) := by decide +kernel
theorem dd_Tokens_numberKind_61 : decode bb_Tokens_numberKind 61 = .ok (.aload_n 0, 1) := by decide +kernel
theorem dd_Tokens_numberKind_62 : decode bb_Tokens_numberKind 62 = .ok (.getfield 21, 3) := by decide +kernel
theorem dd_Tokens_numberKind_65 : decode bb_Tokens_numberKind 65 = .ok (.iload_n 3, 1) := by decide +kernel
theorem dd_Tokens_numberKind_66 : decode bb_Tokens_numberKind 66 = .ok (.iastore, 1) := by decide +kernel
theorem dd_Tokens_numberKind_67 : decode bb_Tokens_numberKind 67 = .ok (.bipush 6, 2) := by decide +kernel
theorem dd_Tokens_numberKind_69 : decode bb_Tokens_numberKind 69 = .ok (.ireturn, 1) := by decide +kernel
def g_Tokens_numberKind_14 (nf : Nat) (x0 : Nat) (x2 : Int32) (x3 : Int32) (x4 : Int32) (c : Zc) : Option ((Nat × Int32 × Int32 × Int32 × Zc) ⊕ ((Zc) ⊕ (Nat × Int32 × Zc))) :=
  if x2 ≤ x4 then (some (.inr (.inr (x0, x3, c)))) else ((zgr c x0 3 4).bind fun v3 => (zai c v3 1 x4).bind fun v4 => (f_Tokens_isDigit nf v4 c).bind fun q5 => if q5.1 = 0 then (some (.inr (.inl q5.2))) else ((zgr q5.2 x0 3 4).bind fun v7 => (zai q5.2 v7 1 x4).bind fun v8 => some (.inl (x0, x2, (((x3 * 10) + v8) - 48), (x4 + 1), q5.2))))
def f_Tokens_numberKind_14 (nf : Nat) (x0 : Nat) (x2 : Int32) (x3 : Int32) (x4 : Int32) (c : Zc) : Option (Int32 × Zc) :=
  (zlp (fun a => g_Tokens_numberKind_14 nf a.1 a.2.1 a.2.2.1 a.2.2.2.1 a.2.2.2.2) nf (x0, x2, x3, x4, c)).bind fun b => Sum.elim (fun b => some (0, b)) (fun b => (zgr b.2.2 b.1 3 1).bind fun v9 => (zgi b.2.2 b.1 3 3).bind fun v10 => (zsi b.2.2 v9 0 v10 b.2.1).bind fun c11 => some (6, c11)) b
def f_Tokens_numberKind (nf : Nat) (a0 : Nat) (a1 : Int32) (a2 : Int32) (c : Zc) : Option (Int32 × Zc) :=
  if (a2 - a1) ≤ 4 then (f_Tokens_numberKind_14 nf a0 a2 0 a1 c) else (some (0, c))
set_option maxRecDepth 100000 in
set_option maxHeartbeats 4000000 in
theorem u_Tokens_numberKind_14  (X : zX p s m args cd D cid B bb_Tokens_numberKind 5 rr_Tokens zT) (H : zH s meth B n0 (some (.int)) "numberKind") {nf : Nat} {x0 : Nat} {x2 : Int32} {x3 : Int32} {x4 : Int32} {c : Zc} {r : (Nat × Int32 × Int32 × Int32 × Zc) ⊕ ((Zc) ⊕ (Nat × Int32 × Zc))} (h : g_Tokens_numberKind_14 nf x0 x2 x3 x4 c = some r) (k0 : ∀ a, r = .inl a → (fun a : Nat × Int32 × Int32 × Int32 × Zc => Zz p l e (zRm 1 20 0 0) s m args below meth cd Q D cid B 5 0 0 a.2.2.2.2 14 [(0, .ref a.1), (2, .int a.2.1), (3, .int a.2.2.1), (4, .int a.2.2.2.1)] []) a) (k1 : ∀ b, r = .inr b → (fun b : (Zc) ⊕ (Nat × Int32 × Zc) => Sum.elim (fun b => Zz p l e (zRm 1 20 0 0) s m args below meth cd Q D cid B 5 0 0 b 33 [] []) (fun b => Zz p l e (zRm 1 20 0 0) s m args below meth cd Q D cid B 5 0 0 b.2.2 57 [(0, .ref b.1), (3, .int b.2.1)] []) b) b) : Zz p l e (zRm 1 20 0 0) s m args below meth cd Q D cid B 5 0 0 c 14 [(0, .ref x0), (2, .int x2), (3, .int x3), (4, .int x4)] [] := by
  unfold g_Tokens_numberKind_14 at h
  refine z_iload X dd_Tokens_numberKind_14 3 rfl ?_
  refine z_iload_n X dd_Tokens_numberKind_16 rfl 1 rfl ?_
  refine z_icmp_ge (tgt := 57) X dd_Tokens_numberKind_17 (by decide) (fun q2 => ?_) (fun q2 => ?_)
  · rw [if_pos q2] at h
    refine z_sub [0, 2] rfl ?_
    obtain rfl := Option.some.inj h
    exact k1 _ rfl
  · rw [if_neg q2] at h
    refine z_aload_n X dd_Tokens_numberKind_20 rfl 0 rfl ?_
    obtain ⟨v3, ev3, h⟩ := zb h
    refine z_get (j := 4) X dd_Tokens_numberKind_21 kc_3 ki_3 (by decide) km_424 (zgr_v ev3) ?_
    refine z_iload X dd_Tokens_numberKind_24 3 rfl ?_
    obtain ⟨v4, ev4, h⟩ := zb h
    refine z_baload X dd_Tokens_numberKind_26 rfl ev4 ?_
    obtain ⟨q5, eq5, h⟩ := zb h
    refine z_callSi X [.int v4] rfl dd_Tokens_numberKind_27 (c_Tokens_isDigit l eq5) (va_cwS 1 X.1.2.2.2.2 (zg_S km_854 km_855 km_131 km_856) rfl rfl rfl (by decide +kernel) ⟨Nat.le_of_ble_eq_true rfl, Nat.le_of_ble_eq_true rfl⟩) rfl (Nat.le_of_ble_eq_true rfl) ⟨Nat.le_of_ble_eq_true rfl, Nat.le_of_ble_eq_true rfl⟩ ?_
    refine z_if_ne (tgt := 35) X dd_Tokens_numberKind_30 (by decide) (fun q6 => ?_) (fun q6 => ?_)
    · rw [if_neg q6] at h
      refine z_iload_n X dd_Tokens_numberKind_35 rfl 2 rfl ?_
      refine z_bipush (v := 10) X dd_Tokens_numberKind_36 (by decide) ?_
      refine z_imul X dd_Tokens_numberKind_38 ?_
      refine z_aload_n X dd_Tokens_numberKind_39 rfl 0 rfl ?_
      obtain ⟨v7, ev7, h⟩ := zb h
      refine z_get (j := 4) X dd_Tokens_numberKind_40 kc_3 ki_3 (by decide) km_424 (zgr_v ev7) ?_
      refine z_iload X dd_Tokens_numberKind_43 3 rfl ?_
      obtain ⟨v8, ev8, h⟩ := zb h
      refine z_baload X dd_Tokens_numberKind_45 rfl ev8 ?_
      refine z_iadd X dd_Tokens_numberKind_46 ?_
      refine z_bipush (v := 48) X dd_Tokens_numberKind_47 (by decide) ?_
      refine z_isub X dd_Tokens_numberKind_49 ?_
      refine z_istore_n (lv' := [(3, .int (((x3 * 10) + v8) - 48)), (0, .ref x0), (2, .int x2), (4, .int x4)]) X dd_Tokens_numberKind_50 rfl (by decide) rfl ?_
      refine z_iinc (v := (x4 + 1)) (lv' := [(4, .int (x4 + 1)), (3, .int (((x3 * 10) + v8) - 48)), (0, .ref x0), (2, .int x2)]) X dd_Tokens_numberKind_51 3 rfl rfl (by decide) rfl ?_
      refine z_goto (tgt := 14) X dd_Tokens_numberKind_54 (by decide) ?_
      refine z_sub [2, 3, 1, 0] rfl ?_
      obtain rfl := Option.some.inj h
      exact k0 _ rfl
    · rw [if_pos q6] at h
      refine z_sub [] rfl ?_
      obtain rfl := Option.some.inj h
      exact k1 _ rfl
set_option maxRecDepth 100000 in
set_option maxHeartbeats 4000000 in
theorem t_Tokens_numberKind_14  (X : zX p s m args cd D cid B bb_Tokens_numberKind 5 rr_Tokens zT) (H : zH s meth B n0 (some (.int)) "numberKind") {nf : Nat} {x0 : Nat} {x2 : Int32} {x3 : Int32} {x4 : Int32} {c : Zc} {res : Int32 × Zc} (h : f_Tokens_numberKind_14 nf x0 x2 x3 x4 c = some res) : Zz p l e (zRm 1 20 0 0) s m args below meth cd (MQ below (zQi D cid B res.1 res.2 n0 0) args s 0 0 (fun q => B ≤ q)) D cid B 5 0 0 c 14 [(0, .ref x0), (2, .int x2), (3, .int x3), (4, .int x4)] [] := by
  unfold f_Tokens_numberKind_14 at h
  obtain ⟨b, eb, h⟩ := zb h
  refine zlp_ok (P := fun a : Nat × Int32 × Int32 × Int32 × Zc => Zz p l e (zRm 1 20 0 0) s m args below meth cd _ D cid B 5 0 0 a.2.2.2.2 14 [(0, .ref a.1), (2, .int a.2.1), (3, .int a.2.2.1), (4, .int a.2.2.2.1)] []) (G := fun b : (Zc) ⊕ (Nat × Int32 × Zc) => Sum.elim (fun b => Zz p l e (zRm 1 20 0 0) s m args below meth cd _ D cid B 5 0 0 b 33 [] []) (fun b => Zz p l e (zRm 1 20 0 0) s m args below meth cd _ D cid B 5 0 0 b.2.2 57 [(0, .ref b.1), (3, .int b.2.1)] []) b) (fun a r ha k0 k1 => u_Tokens_numberKind_14 X H ha k0 k1) nf _ b eb ?_
  rcases b with b | b
  · simp only [Sum.elim_inl] at h ⊢
    refine z_iconst (v := 0) X dd_Tokens_numberKind_33 (by decide) ?_
    obtain rfl := Option.some.inj h
    exact z_iret X H.1 H.2.1 H.2.2.1 dd_Tokens_numberKind_34
  · simp only [Sum.elim_inr] at h ⊢
    refine z_aload_n X dd_Tokens_numberKind_57 rfl 0 rfl ?_
    obtain ⟨v9, ev9, h⟩ := zb h
    refine z_get (j := 1) X dd_Tokens_numberKind_58 kc_3 ki_3 (by decide) km_418 (zgr_v ev9) ?_
    refine z_aload_n X dd_Tokens_numberKind_61 rfl 0 rfl ?_
    obtain ⟨v10, ev10, h⟩ := zb h
    refine z_get (j := 3) X dd_Tokens_numberKind_62 kc_3 ki_3 (by decide) km_422 (zgi_v ev10) ?_
    refine z_iload_n X dd_Tokens_numberKind_65 rfl 1 rfl ?_
    obtain ⟨c11, ec11, h⟩ := zb h
    refine z_iastore X dd_Tokens_numberKind_66 rfl ec11 ?_
    refine z_bipush (v := 6) X dd_Tokens_numberKind_67 (by decide) ?_
    obtain rfl := Option.some.inj h
    exact z_iret X H.1 H.2.1 H.2.2.1 dd_Tokens_numberKind_69
set_option maxRecDepth 100000 in
set_option maxHeartbeats 4000000 in
theorem c_Tokens_numberKind (l : Launch) {nf : Nat} {a0 : Nat} {a1 : Int32} {a2 : Int32} {c : Zc} {res : Int32 × Zc} (h : f_Tokens_numberKind nf a0 a1 a2 c = some res) : zM l yy_Tokens_numberKind ww_Tokens_numberKind 1 20 0 0 [.ref a0, .int a1, .int a2] c (fun D cid B => zQi D cid B res.1 res.2 c.length 0) := by
  refine z_met (cc := bb_Tokens_numberKind) (maxL := 5) (ret := (some (.int))) (by decide +kernel) rfl (Nat.le_of_ble_eq_true rfl) ?_
  intro p e s m args below meth cd D cid B X h1 h2 h3 h4
  have X : zX p s m args cd D cid B bb_Tokens_numberKind 5 rr_Tokens zT := X
  have H : zH s meth B c.length (some (.int)) "numberKind" := ⟨h1, h2, h4, h3⟩
  unfold f_Tokens_numberKind at h
  show Zz p l e (zRm 1 20 0 0) s m args below meth cd _ D cid B 5 0 0 c 0 [(0, .ref a0), (1, .int a1), (2, .int a2)] []
  refine z_iload_n X dd_Tokens_numberKind_0 rfl 2 rfl ?_
  refine z_iload_n X dd_Tokens_numberKind_1 rfl 1 rfl ?_
  refine z_isub X dd_Tokens_numberKind_2 ?_
  refine z_iconst (v := 4) X dd_Tokens_numberKind_3 (by decide) ?_
  refine z_icmp_le (tgt := 9) X dd_Tokens_numberKind_4 (by decide) (fun q1 => ?_) (fun q1 => ?_)
  · rw [if_pos q1] at h
    refine z_iconst (v := 0) X dd_Tokens_numberKind_9 (by decide) ?_
    refine z_istore_n (lv' := [(3, .int 0), (0, .ref a0), (1, .int a1), (2, .int a2)]) X dd_Tokens_numberKind_10 rfl (by decide) rfl ?_
    refine z_iload_n X dd_Tokens_numberKind_11 rfl 2 rfl ?_
    refine z_istore (lv' := [(4, .int a1), (3, .int 0), (0, .ref a0), (1, .int a1), (2, .int a2)]) X dd_Tokens_numberKind_12 (by decide) rfl ?_
    refine z_sub [2, 4, 1, 0] rfl ?_
    exact t_Tokens_numberKind_14 X H h
  · rw [if_neg q1] at h
    refine z_iconst (v := 0) X dd_Tokens_numberKind_7 (by decide) ?_
    obtain rfl := Option.some.inj h
    exact z_iret X H.1 H.2.1 H.2.2.1 dd_Tokens_numberKind_8
theorem dd_String_isLatin1_0 : decode bb_String_isLatin1 0 = .ok (.getstatic 38, 3) := by decide +kernel
theorem dd_String_isLatin1_3 : decode bb_String_isLatin1 3 = .ok (.ifCond .eq 14, 3) := by decide +kernel
theorem dd_String_isLatin1_6 : decode bb_String_isLatin1 6 = .ok (.aload_n 0, 1) := by decide +kernel
theorem dd_String_isLatin1_7 : decode bb_String_isLatin1 7 = .ok (.getfield 15, 3) := by decide +kernel
theorem dd_String_isLatin1_10 : decode bb_String_isLatin1 10 = .ok (.ifCond .ne 7, 3) := by decide +kernel
theorem dd_String_isLatin1_13 : decode bb_String_isLatin1 13 = .ok (.iconst 1, 1) := by decide +kernel
theorem dd_String_isLatin1_14 : decode bb_String_isLatin1 14 = .ok (.goto 4, 3) := by decide +kernel
theorem dd_String_isLatin1_17 : decode bb_String_isLatin1 17 = .ok (.iconst 0, 1) := by decide +kernel
theorem dd_String_isLatin1_18 : decode bb_String_isLatin1 18 = .ok (.ireturn, 1) := by decide +kernel
def f_String_isLatin1_18 (nf : Nat) (s0 : Int32) (c : Zc) : Option (Int32 × Zc) :=
  zrz s0 c
def f_String_isLatin1_17 (nf : Nat)  (c : Zc) : Option (Int32 × Zc) :=
  f_String_isLatin1_18 nf 0 c
def f_String_isLatin1 (nf : Nat) (a0 : Nat) (c : Zc) : Option (Int32 × Zc) :=
  if (1 : Int32) = 0 then (f_String_isLatin1_17 nf  c) else ((zst a0).bind fun u2 => if (0 : Int32) = 0 then (f_String_isLatin1_18 nf 1 c) else (f_String_isLatin1_17 nf  c))
set_option maxRecDepth 100000 in
set_option maxHeartbeats 4000000 in
theorem t_String_isLatin1_18  (X : zX p s m args cd D cid B bb_String_isLatin1 1 rr_String zT) (H : zH s meth B n0 (some (.boolean)) "isLatin1") {nf : Nat} {s0 : Int32} {c : Zc} {res : Int32 × Zc} (h : f_String_isLatin1_18 nf s0 c = some res) : Zz p l e (zRm 0 0 0 0) s m args below meth cd (MQ below (zQi D cid B res.1 res.2 n0 0) args s 0 0 (fun q => B ≤ q)) D cid B 1 0 0 c 18 [] [.int s0] := by
  unfold f_String_isLatin1_18 at h
  obtain ⟨hz, h⟩ := zrz_s h
  obtain rfl := h
  exact z_zret X H.1 (zn_z hz) H.2.1 H.2.2.1 dd_String_isLatin1_18
set_option maxRecDepth 100000 in
set_option maxHeartbeats 4000000 in
theorem t_String_isLatin1_17  (X : zX p s m args cd D cid B bb_String_isLatin1 1 rr_String zT) (H : zH s meth B n0 (some (.boolean)) "isLatin1") {nf : Nat}  {c : Zc} {res : Int32 × Zc} (h : f_String_isLatin1_17 nf  c = some res) : Zz p l e (zRm 0 0 0 0) s m args below meth cd (MQ below (zQi D cid B res.1 res.2 n0 0) args s 0 0 (fun q => B ≤ q)) D cid B 1 0 0 c 17 [] [] := by
  unfold f_String_isLatin1_17 at h
  refine z_iconst (v := 0) X dd_String_isLatin1_17 (by decide) ?_
  exact t_String_isLatin1_18 X H h
set_option maxRecDepth 100000 in
set_option maxHeartbeats 4000000 in
theorem c_String_isLatin1 (l : Launch) {nf : Nat} {a0 : Nat} {c : Zc} {res : Int32 × Zc} (h : f_String_isLatin1 nf a0 c = some res) : zM l yy_String_isLatin1 ww_String_isLatin1 0 0 0 0 [zfs a0] c (fun D cid B => zQi D cid B res.1 res.2 c.length 0) := by
  refine z_met (cc := bb_String_isLatin1) (maxL := 1) (ret := (some (.boolean))) (by decide +kernel) rfl (Nat.le_of_ble_eq_true rfl) ?_
  intro p e s m args below meth cd D cid B X h1 h2 h3 h4
  have X : zX p s m args cd D cid B bb_String_isLatin1 1 rr_String zT := X
  have H : zH s meth B c.length (some (.boolean)) "isLatin1" := ⟨h1, h2, h4, h3⟩
  unfold f_String_isLatin1 at h
  show Zz p l e (zRm 0 0 0 0) s m args below meth cd _ D cid B 1 0 0 c 0 [(0, zfs a0)] []
  refine z_getsC X dd_String_isLatin1_0 km_882 ?_
  refine z_if_eq (tgt := 17) X dd_String_isLatin1_3 (by decide) (fun q1 => ?_) (fun q1 => ?_)
  · rw [if_pos q1] at h
    refine z_sub [] rfl ?_
    exact t_String_isLatin1_17 X H h
  · rw [if_neg q1] at h
    refine z_aloadS_n X dd_String_isLatin1_6 rfl 0 rfl ?_
    obtain ⟨u2, eu2, h⟩ := zb h
    refine z_getSc X dd_String_isLatin1_7 (zst_s eu2) km_2176 ?_
    refine z_if_ne (tgt := 17) X dd_String_isLatin1_10 (by decide) (fun q3 => ?_) (fun q3 => ?_)
    · rw [if_neg q3] at h
      refine z_sub [] rfl ?_
      exact t_String_isLatin1_17 X H h
    · rw [if_pos q3] at h
      refine z_iconst (v := 1) X dd_String_isLatin1_13 (by decide) ?_
      refine z_goto (tgt := 18) X dd_String_isLatin1_14 (by decide) ?_
      refine z_sub [] rfl ?_
      exact t_String_isLatin1_18 X H h
theorem dd_String_coder_0 : decode bb_String_coder 0 = .ok (.getstatic 38, 3) := by decide +kernel
theorem dd_String_coder_3 : decode bb_String_coder 3 = .ok (.ifCond .eq 10, 3) := by decide +kernel
theorem dd_String_coder_6 : decode bb_String_coder 6 = .ok (.aload_n 0, 1) := by decide +kernel
theorem dd_String_coder_7 : decode bb_String_coder 7 = .ok (.getfield 15, 3) := by decide +kernel
theorem dd_String_coder_10 : decode bb_String_coder 10 = .ok (.goto 4, 3) := by decide +kernel
theorem dd_String_coder_13 : decode bb_String_coder 13 = .ok (.iconst 1, 1) := by decide +kernel
theorem dd_String_coder_14 : decode bb_String_coder 14 = .ok (.ireturn, 1) := by decide +kernel
def f_String_coder_14 (nf : Nat) (s0 : Int32) (c : Zc) : Option (Int32 × Zc) :=
  zrn .byte s0 c
def f_String_coder (nf : Nat) (a0 : Nat) (c : Zc) : Option (Int32 × Zc) :=
  if (1 : Int32) = 0 then (f_String_coder_14 nf 1 c) else ((zst a0).bind fun u2 => f_String_coder_14 nf 0 c)
set_option maxRecDepth 100000 in
set_option maxHeartbeats 4000000 in
theorem t_String_coder_14  (X : zX p s m args cd D cid B bb_String_coder 1 rr_String zT) (H : zH s meth B n0 (some (.byte)) "coder") {nf : Nat} {s0 : Int32} {c : Zc} {res : Int32 × Zc} (h : f_String_coder_14 nf s0 c = some res) : Zz p l e (zRm 0 0 0 0) s m args below meth cd (MQ below (zQi D cid B res.1 res.2 n0 0) args s 0 0 (fun q => B ≤ q)) D cid B 1 0 0 c 14 [] [.int s0] := by
  unfold f_String_coder_14 at h
  obtain ⟨hz, h⟩ := zrn_s h
  obtain rfl := h
  exact z_zret X H.1 (zn_b hz) H.2.1 H.2.2.1 dd_String_coder_14
set_option maxRecDepth 100000 in
set_option maxHeartbeats 4000000 in
theorem c_String_coder (l : Launch) {nf : Nat} {a0 : Nat} {c : Zc} {res : Int32 × Zc} (h : f_String_coder nf a0 c = some res) : zM l yy_String_coder ww_String_coder 0 0 0 0 [zfs a0] c (fun D cid B => zQi D cid B res.1 res.2 c.length 0) := by
  refine z_met (cc := bb_String_coder) (maxL := 1) (ret := (some (.byte))) (by decide +kernel) rfl (Nat.le_of_ble_eq_true rfl) ?_
  intro p e s m args below meth cd D cid B X h1 h2 h3 h4
  have X : zX p s m args cd D cid B bb_String_coder 1 rr_String zT := X
  have H : zH s meth B c.length (some (.byte)) "coder" := ⟨h1, h2, h4, h3⟩
  unfold f_String_coder at h
  show Zz p l e (zRm 0 0 0 0) s m args below meth cd _ D cid B 1 0 0 c 0 [(0, zfs a0)] []
  refine z_getsC X dd_String_coder_0 km_882 ?_
  refine z_if_eq (tgt := 13) X dd_String_coder_3 (by decide) (fun q1 => ?_) (fun q1 => ?_)
  · rw [if_pos q1] at h
    refine z_iconst (v := 1) X dd_String_coder_13 (by decide) ?_
    refine z_sub [] rfl ?_
    exact t_String_coder_14 X H h
  · rw [if_neg q1] at h
    refine z_aloadS_n X dd_String_coder_6 rfl 0 rfl ?_
    obtain ⟨u2, eu2, h⟩ := zb h
    refine z_getSc X dd_String_coder_7 (zst_s eu2) km_2176 ?_
    refine z_goto (tgt := 14) X dd_String_coder_10 (by decide) ?_
    refine z_sub [] rfl ?_
    exact t_String_coder_14 X H h
theorem dd_String_length_0 : decode bb_String_length 0 = .ok (.aload_n 0, 1) := by decide +kernel
theorem dd_String_length_1 : decode bb_String_length 1 = .ok (.getfield 9, 3) := by decide +kernel
theorem dd_String_length_4 : decode bb_String_length 4 = .ok (.arraylength, 1) := by decide +kernel
theorem dd_String_length_5 : decode bb_String_length 5 = .ok (.aload_n 0, 1) := by decide +kernel
theorem dd_String_length_6 : decode bb_String_length 6 = .ok (.invokevirtual 335, 3) := by decide +kernel
theorem dd_String_length_9 : decode bb_String_length 9 = .ok (.ishr, 1) := by decide +kernel
theorem dd_String_length_10 : decode bb_String_length 10 = .ok (.ireturn, 1) := by decide +kernel
def f_String_length (nf : Nat) (a0 : Nat) (c : Zc) : Option (Int32 × Zc) :=
  (zst a0).bind fun u1 => (zst a0).bind fun u2 => (zst a0).bind fun w4 => (f_String_coder nf a0 c).bind fun q3 => some (((Int32.ofNat (zs_len.getD a0 0)) >>> (q3.1 &&& 31)), q3.2)
set_option maxRecDepth 100000 in
set_option maxHeartbeats 4000000 in
theorem c_String_length (l : Launch) {nf : Nat} {a0 : Nat} {c : Zc} {res : Int32 × Zc} (h : f_String_length nf a0 c = some res) : zM l yy_String_length ww_String_length 1 20 0 0 [zfs a0] c (fun D cid B => zQi D cid B res.1 res.2 c.length 0) := by
  refine z_met (cc := bb_String_length) (maxL := 1) (ret := (some (.int))) (by decide +kernel) rfl (Nat.le_of_ble_eq_true rfl) ?_
  intro p e s m args below meth cd D cid B X h1 h2 h3 h4
  have X : zX p s m args cd D cid B bb_String_length 1 rr_String zT := X
  have H : zH s meth B c.length (some (.int)) "length" := ⟨h1, h2, h4, h3⟩
  unfold f_String_length at h
  show Zz p l e (zRm 1 20 0 0) s m args below meth cd _ D cid B 1 0 0 c 0 [(0, zfs a0)] []
  refine z_aloadS_n X dd_String_length_0 rfl 0 rfl ?_
  obtain ⟨u1, eu1, h⟩ := zb h
  refine z_getSv X dd_String_length_1 (zst_s eu1) km_2177 ?_
  obtain ⟨u2, eu2, h⟩ := zb h
  refine z_alenS X dd_String_length_4 (zst_s eu2) rfl ?_
  refine z_aloadS_n X dd_String_length_5 rfl 0 rfl ?_
  obtain ⟨w4, ew4, h⟩ := zb h
  obtain ⟨q3, eq3, h⟩ := zb h
  refine z_callXi X [] rfl dd_String_length_6 (c_String_coder l eq3) (cwV 0 X.1.2.2.2.2 (zg_V km_888 km_889 km_890 km_140 km_891) rfl rfl rfl (by decide +kernel) ⟨Nat.le_of_ble_eq_true rfl, Nat.le_of_ble_eq_true rfl⟩) (zst_s ew4) rfl (Nat.le_of_ble_eq_true rfl) ⟨Nat.le_of_ble_eq_true rfl, Nat.le_of_ble_eq_true rfl⟩ ?_
  refine z_ishr X dd_String_length_9 ?_
  obtain rfl := Option.some.inj h
  exact z_iret X H.1 H.2.1 H.2.2.1 dd_String_length_10
theorem dd_StringLatin1_canEncode_0 : decode bb_StringLatin1_canEncode 0 = .ok (.iload_n 0, 1) := by decide +kernel
theorem dd_StringLatin1_canEncode_1 : decode bb_StringLatin1_canEncode 1 = .ok (.ifCond .lt 14, 3) := by decide +kernel
theorem dd_StringLatin1_canEncode_4 : decode bb_StringLatin1_canEncode 4 = .ok (.iload_n 0, 1) := by decide +kernel
theorem dd_StringLatin1_canEncode_5 : decode bb_StringLatin1_canEncode 5 = .ok (.sipush 255, 3) := by decide +kernel
theorem dd_StringLatin1_canEncode_8 : decode bb_StringLatin1_canEncode 8 = .ok (.if_icmp .gt 7, 3) := by decide +kernel
theorem dd_StringLatin1_canEncode_11 : decode bb_StringLatin1_canEncode 11 = .ok (.iconst 1, 1) := by decide +kernel
theorem dd_StringLatin1_canEncode_12 : decode bb_StringLatin1_canEncode 12 = .ok (.goto 4, 3) := by decide +kernel
theorem dd_StringLatin1_canEncode_15 : decode bb_StringLatin1_canEncode 15 = .ok (.iconst 0, 1) := by decide +kernel
theorem dd_StringLatin1_canEncode_16 : decode bb_StringLatin1_canEncode 16 = .ok (.ireturn, 1) := by decide +kernel
def f_StringLatin1_canEncode_16 (nf : Nat) (s0 : Int32) (c : Zc) : Option (Int32 × Zc) :=
  zrz s0 c
def f_StringLatin1_canEncode_15 (nf : Nat)  (c : Zc) : Option (Int32 × Zc) :=
  f_StringLatin1_canEncode_16 nf 0 c
def f_StringLatin1_canEncode (nf : Nat) (a0 : Int32) (c : Zc) : Option (Int32 × Zc) :=
  if a0 < 0 then (f_StringLatin1_canEncode_15 nf  c) else (if 255 < a0 then (f_StringLatin1_canEncode_15 nf  c) else (f_StringLatin1_canEncode_16 nf 1 c))
set_option maxRecDepth 100000 in
set_option maxHeartbeats 4000000 in
theorem t_StringLatin1_canEncode_16  (X : zX p s m args cd D cid B bb_StringLatin1_canEncode 1 rr_StringLatin1 zT) (H : zH s meth B n0 (some (.boolean)) "canEncode") {nf : Nat} {s0 : Int32} {c : Zc} {res : Int32 × Zc} (h : f_StringLatin1_canEncode_16 nf s0 c = some res) : Zz p l e (zRm 0 0 0 0) s m args below meth cd (MQ below (zQi D cid B res.1 res.2 n0 0) args s 0 0 (fun q => B ≤ q)) D cid B 1 0 0 c 16 [] [.int s0] := by
  unfold f_StringLatin1_canEncode_16 at h
  obtain ⟨hz, h⟩ := zrz_s h
  obtain rfl := h
  exact z_zret X H.1 (zn_z hz) H.2.1 H.2.2.1 dd_StringLatin1_canEncode_16
set_option maxRecDepth 100000 in
set_option maxHeartbeats 4000000 in
theorem t_StringLatin1_canEncode_15  (X : zX p s m args cd D cid B bb_StringLatin1_canEncode 1 rr_StringLatin1 zT) (H : zH s meth B n0 (some (.boolean)) "canEncode") {nf : Nat}  {c : Zc} {res : Int32 × Zc} (h : f_StringLatin1_canEncode_15 nf  c = some res) : Zz p l e (zRm 0 0 0 0) s m args below meth cd (MQ below (zQi D cid B res.1 res.2 n0 0) args s 0 0 (fun q => B ≤ q)) D cid B 1 0 0 c 15 [] [] := by
  unfold f_StringLatin1_canEncode_15 at h
  refine z_iconst (v := 0) X dd_StringLatin1_canEncode_15 (by decide) ?_
  exact t_StringLatin1_canEncode_16 X H h
set_option maxRecDepth 100000 in
set_option maxHeartbeats 4000000 in
theorem c_StringLatin1_canEncode (l : Launch) {nf : Nat} {a0 : Int32} {c : Zc} {res : Int32 × Zc} (h : f_StringLatin1_canEncode nf a0 c = some res) : zM l yy_StringLatin1_canEncode ww_StringLatin1_canEncode 0 0 0 0 [.int a0] c (fun D cid B => zQi D cid B res.1 res.2 c.length 0) := by
  refine z_met (cc := bb_StringLatin1_canEncode) (maxL := 1) (ret := (some (.boolean))) (by decide +kernel) rfl (Nat.le_of_ble_eq_true rfl) ?_
  intro p e s m args below meth cd D cid B X h1 h2 h3 h4
  have X : zX p s m args cd D cid B bb_StringLatin1_canEncode 1 rr_StringLatin1 zT := X
  have H : zH s meth B c.length (some (.boolean)) "canEncode" := ⟨h1, h2, h4, h3⟩
  unfold f_StringLatin1_canEncode at h
  show Zz p l e (zRm 0 0 0 0) s m args below meth cd _ D cid B 1 0 0 c 0 [(0, .int a0)] []
  refine z_iload_n X dd_StringLatin1_canEncode_0 rfl 0 rfl ?_
  refine z_if_lt (tgt := 15) X dd_StringLatin1_canEncode_1 (by decide) (fun q1 => ?_) (fun q1 => ?_)
  · rw [if_pos q1] at h
    refine z_sub [] rfl ?_
    exact t_StringLatin1_canEncode_15 X H h
  · rw [if_neg q1] at h
    refine z_iload_n X dd_StringLatin1_canEncode_4 rfl 0 rfl ?_
    refine z_sipush (v := 255) X dd_StringLatin1_canEncode_5 (by decide) ?_
    refine z_icmp_gt (tgt := 15) X dd_StringLatin1_canEncode_8 (by decide) (fun q2 => ?_) (fun q2 => ?_)
    · rw [if_pos q2] at h
      refine z_sub [] rfl ?_
      exact t_StringLatin1_canEncode_15 X H h
    · rw [if_neg q2] at h
      refine z_iconst (v := 1) X dd_StringLatin1_canEncode_11 (by decide) ?_
      refine z_goto (tgt := 16) X dd_StringLatin1_canEncode_12 (by decide) ?_
      refine z_sub [] rfl ?_
      exact t_StringLatin1_canEncode_16 X H h
theorem dd_Math_max_0_0 : decode bb_Math_max_0 0 = .ok (.iload_n 0, 1) := by decide +kernel
theorem dd_Math_max_0_1 : decode bb_Math_max_0 1 = .ok (.iload_n 1, 1) := by decide +kernel
theorem dd_Math_max_0_2 : decode bb_Math_max_0 2 = .ok (.if_icmp .lt 7, 3) := by decide +kernel
theorem dd_Math_max_0_5 : decode bb_Math_max_0 5 = .ok (.iload_n 0, 1) := by decide +kernel
theorem dd_Math_max_0_6 : decode bb_Math_max_0 6 = .ok (.goto 4, 3) := by decide +kernel
theorem dd_Math_max_0_9 : decode bb_Math_max_0 9 = .ok (.iload_n 1, 1) := by decide +kernel
theorem dd_Math_max_0_10 : decode bb_Math_max_0 10 = .ok (.ireturn, 1) := by decide +kernel
def f_Math_max_0_10 (nf : Nat) (s0 : Int32) (c : Zc) : Option (Int32 × Zc) :=
  some (s0, c)
def f_Math_max_0 (nf : Nat) (a0 : Int32) (a1 : Int32) (c : Zc) : Option (Int32 × Zc) :=
  if a0 < a1 then (f_Math_max_0_10 nf a1 c) else (f_Math_max_0_10 nf a0 c)
set_option maxRecDepth 100000 in
set_option maxHeartbeats 4000000 in
theorem t_Math_max_0_10  (X : zX p s m args cd D cid B bb_Math_max_0 2 rr_Math zT) (H : zH s meth B n0 (some (.int)) "max") {nf : Nat} {s0 : Int32} {c : Zc} {res : Int32 × Zc} (h : f_Math_max_0_10 nf s0 c = some res) : Zz p l e (zRm 0 0 0 0) s m args below meth cd (MQ below (zQi D cid B res.1 res.2 n0 0) args s 0 0 (fun q => B ≤ q)) D cid B 2 0 0 c 10 [] [.int s0] := by
  unfold f_Math_max_0_10 at h
  obtain rfl := Option.some.inj h
  exact z_iret X H.1 H.2.1 H.2.2.1 dd_Math_max_0_10
set_option maxRecDepth 100000 in
set_option maxHeartbeats 4000000 in
theorem c_Math_max_0 (l : Launch) {nf : Nat} {a0 : Int32} {a1 : Int32} {c : Zc} {res : Int32 × Zc} (h : f_Math_max_0 nf a0 a1 c = some res) : zM l yy_Math_max_0 ww_Math_max_0 0 0 0 0 [.int a0, .int a1] c (fun D cid B => zQi D cid B res.1 res.2 c.length 0) := by
  refine z_metF (cc := bb_Math_max_0) (maxL := 2) (ret := (some (.int))) (by decide +kernel) rfl (Nat.le_of_ble_eq_true rfl) ?_
  intro p e s m args below meth cd D cid B X h1 h2 h3 h4
  have X : zX p s m args cd D cid B bb_Math_max_0 2 rr_Math zT := X
  have H : zH s meth B c.length (some (.int)) "max" := ⟨h1, h2, h4, h3⟩
  unfold f_Math_max_0 at h
  show Zz p l e (zRm 0 0 0 0) s m args below meth cd _ D cid B 2 0 0 c 0 [(0, .int a0), (1, .int a1)] []
  refine z_iload_n X dd_Math_max_0_0 rfl 0 rfl ?_
  refine z_iload_n X dd_Math_max_0_1 rfl 1 rfl ?_
  refine z_icmp_lt (tgt := 9) X dd_Math_max_0_2 (by decide) (fun q1 => ?_) (fun q1 => ?_)
  · rw [if_pos q1] at h
    refine z_iload_n X dd_Math_max_0_9 rfl 1 rfl ?_
    refine z_sub [] rfl ?_
    exact t_Math_max_0_10 X H h
  · rw [if_neg q1] at h
    refine z_iload_n X dd_Math_max_0_5 rfl 0 rfl ?_
    refine z_goto (tgt := 10) X dd_Math_max_0_6 (by decide) ?_
    refine z_sub [] rfl ?_
    exact t_Math_max_0_10 X H h
theorem dd_StringLatin1_indexOfChar_0 : decode bb_StringLatin1_indexOfChar 0 = .ok (.iload_n 1, 1) := by decide +kernel
theorem dd_StringLatin1_indexOfChar_1 : decode bb_StringLatin1_indexOfChar 1 = .ok (.i2b, 1) := by decide +kernel
theorem dd_StringLatin1_indexOfChar_2 : decode bb_StringLatin1_indexOfChar 2 = .ok (.istore 4, 2) := by decide +kernel
theorem dd_StringLatin1_indexOfChar_4 : decode bb_StringLatin1_indexOfChar 4 = .ok (.iload_n 2, 1) := by decide +kernel
theorem dd_StringLatin1_indexOfChar_5 : decode bb_StringLatin1_indexOfChar 5 = .ok (.istore 5, 2) := by decide +kernel
theorem dd_StringLatin1_indexOfChar_7 : decode bb_StringLatin1_indexOfChar 7 = .ok (.iload 5, 2) := by decide +kernel
theorem dd_StringLatin1_indexOfChar_9 : decode bb_StringLatin1_indexOfChar 9 = .ok (.iload_n 3, 1) := by decide +kernel
theorem dd_StringLatin1_indexOfChar_10 : decode bb_StringLatin1_indexOfChar 10 = .ok (.if_icmp .ge 21, 3) := by decide +kernel
theorem dd_StringLatin1_indexOfChar_13 : decode bb_StringLatin1_indexOfChar 13 = .ok (.aload_n 0, 1) := by decide +kernel
theorem dd_StringLatin1_indexOfChar_14 : decode bb_StringLatin1_indexOfChar 14 = .ok (.iload 5, 2) := by decide +kernel
theorem dd_StringLatin1_indexOfChar_16 : decode bb_StringLatin1_indexOfChar 16 = .ok (.baload, 1) := by decide +kernel
theorem dd_StringLatin1_indexOfChar_17 : decode bb_StringLatin1_indexOfChar 17 = .ok (.iload 4, 2) := by decide +kernel
theorem dd_StringLatin1_indexOfChar_19 : decode bb_StringLatin1_indexOfChar 19 = .ok (.if_icmp .ne 6, 3) := by decide +kernel
theorem dd_StringLatin1_indexOfChar_22 : decode bb_StringLatin1_indexOfChar 22 = .ok (.iload 5, 2) := by decide +kernel
theorem dd_StringLatin1_indexOfChar_24 : decode bb_StringLatin1_indexOfChar 24 = .ok (.ireturn, 1) := by decide +kernel
theorem dd_StringLatin1_indexOfChar_25 : decode bb_StringLatin1_indexOfChar 25 = .ok (.iinc 5 1, 3) := by decide +kernel
theorem dd_StringLatin1_indexOfChar_28 : decode bb_StringLatin1_indexOfChar 28 = .ok (.goto (-21), 3) := by decide +kernel
theorem dd_StringLatin1_indexOfChar_31 : decode bb_StringLatin1_indexOfChar 31 = .ok (.iconst (-1), 1) := by decide +kernel
theorem dd_StringLatin1_indexOfChar_32 : decode bb_StringLatin1_indexOfChar 32 = .ok (.ireturn, 1) := by decide +kernel
def g_StringLatin1_indexOfChar_7 (nf : Nat) (x0 : Nat) (x3 : Int32) (x4 : Int32) (x5 : Int32) (c : Zc) : Option ((Nat × Int32 × Int32 × Int32 × Zc) ⊕ ((Int32 × Zc) ⊕ (Zc))) :=
  if x3 ≤ x5 then (some (.inr (.inr c))) else ((zsb x0 x5).bind fun v2 => if v2 = x4 then (some (.inr (.inl (x5, c)))) else (some (.inl (x0, x3, x4, (x5 + 1), c))))
def f_StringLatin1_indexOfChar_7 (nf : Nat) (x0 : Nat) (x3 : Int32) (x4 : Int32) (x5 : Int32) (c : Zc) : Option (Int32 × Zc) :=
  (zlp (fun a => g_StringLatin1_indexOfChar_7 nf a.1 a.2.1 a.2.2.1 a.2.2.2.1 a.2.2.2.2) nf (x0, x3, x4, x5, c)).bind fun b => Sum.elim (fun b => some (b.1, b.2)) (fun b => some ((-1), b)) b
def f_StringLatin1_indexOfChar (nf : Nat) (a0 : Nat) (a1 : Int32) (a2 : Int32) (a3 : Int32) (c : Zc) : Option (Int32 × Zc) :=
  f_StringLatin1_indexOfChar_7 nf a0 a3 (Int8.toInt32 (Int32.toInt8 a1)) a2 c
set_option maxRecDepth 100000 in
set_option maxHeartbeats 4000000 in
theorem u_StringLatin1_indexOfChar_7  (X : zX p s m args cd D cid B bb_StringLatin1_indexOfChar 6 rr_StringLatin1 zT) (H : zH s meth B n0 (some (.int)) "indexOfChar") {nf : Nat} {x0 : Nat} {x3 : Int32} {x4 : Int32} {x5 : Int32} {c : Zc} {r : (Nat × Int32 × Int32 × Int32 × Zc) ⊕ ((Int32 × Zc) ⊕ (Zc))} (h : g_StringLatin1_indexOfChar_7 nf x0 x3 x4 x5 c = some r) (k0 : ∀ a, r = .inl a → (fun a : Nat × Int32 × Int32 × Int32 × Zc => Zz p l e (zRm 0 0 0 0) s m args below meth cd Q D cid B 6 0 0 a.2.2.2.2 7 [(0, zfb a.1), (3, .int a.2.1), (4, .int a.2.2.1), (5, .int a.2.2.2.1)] []) a) (k1 : ∀ b, r = .inr b → (fun b : (Int32 × Zc) ⊕ (Zc) => Sum.elim (fun b => Zz p l e (zRm 0 0 0 0) s m args below meth cd Q D cid B 6 0 0 b.2 22 [(5, .int b.1)] []) (fun b => Zz p l e (zRm 0 0 0 0) s m args below meth cd Q D cid B 6 0 0 b 31 [] []) b) b) : Zz p l e (zRm 0 0 0 0) s m args below meth cd Q D cid B 6 0 0 c 7 [(0, zfb x0), (3, .int x3), (4, .int x4), (5, .int x5)] [] := by
  unfold g_StringLatin1_indexOfChar_7 at h
  refine z_iload X dd_StringLatin1_indexOfChar_7 3 rfl ?_
  refine z_iload_n X dd_StringLatin1_indexOfChar_9 rfl 1 rfl ?_
  refine z_icmp_ge (tgt := 31) X dd_StringLatin1_indexOfChar_10 (by decide) (fun q1 => ?_) (fun q1 => ?_)
  · rw [if_pos q1] at h
    refine z_sub [] rfl ?_
    obtain rfl := Option.some.inj h
    exact k1 _ rfl
  · rw [if_neg q1] at h
    refine z_aloadT_n X dd_StringLatin1_indexOfChar_13 rfl 0 rfl ?_
    refine z_iload X dd_StringLatin1_indexOfChar_14 3 rfl ?_
    obtain ⟨v2, ev2, h⟩ := zb h
    refine z_baldS X dd_StringLatin1_indexOfChar_16 ev2 ?_
    refine z_iload X dd_StringLatin1_indexOfChar_17 2 rfl ?_
    refine z_icmp_ne (tgt := 25) X dd_StringLatin1_indexOfChar_19 (by decide) (fun q3 => ?_) (fun q3 => ?_)
    · rw [if_neg q3] at h
      refine z_iinc (v := (x5 + 1)) (lv' := [(5, .int (x5 + 1)), (0, zfb x0), (3, .int x3), (4, .int x4)]) X dd_StringLatin1_indexOfChar_25 3 rfl rfl (by decide) rfl ?_
      refine z_goto (tgt := 7) X dd_StringLatin1_indexOfChar_28 (by decide) ?_
      refine z_sub [1, 2, 3, 0] rfl ?_
      obtain rfl := Option.some.inj h
      exact k0 _ rfl
    · rw [if_pos q3] at h
      refine z_sub [3] rfl ?_
      obtain rfl := Option.some.inj h
      exact k1 _ rfl
set_option maxRecDepth 100000 in
set_option maxHeartbeats 4000000 in
theorem t_StringLatin1_indexOfChar_7  (X : zX p s m args cd D cid B bb_StringLatin1_indexOfChar 6 rr_StringLatin1 zT) (H : zH s meth B n0 (some (.int)) "indexOfChar") {nf : Nat} {x0 : Nat} {x3 : Int32} {x4 : Int32} {x5 : Int32} {c : Zc} {res : Int32 × Zc} (h : f_StringLatin1_indexOfChar_7 nf x0 x3 x4 x5 c = some res) : Zz p l e (zRm 0 0 0 0) s m args below meth cd (MQ below (zQi D cid B res.1 res.2 n0 0) args s 0 0 (fun q => B ≤ q)) D cid B 6 0 0 c 7 [(0, zfb x0), (3, .int x3), (4, .int x4), (5, .int x5)] [] := by
  unfold f_StringLatin1_indexOfChar_7 at h
  obtain ⟨b, eb, h⟩ := zb h
  refine zlp_ok (P := fun a : Nat × Int32 × Int32 × Int32 × Zc => Zz p l e (zRm 0 0 0 0) s m args below meth cd _ D cid B 6 0 0 a.2.2.2.2 7 [(0, zfb a.1), (3, .int a.2.1), (4, .int a.2.2.1), (5, .int a.2.2.2.1)] []) (G := fun b : (Int32 × Zc) ⊕ (Zc) => Sum.elim (fun b => Zz p l e (zRm 0 0 0 0) s m args below meth cd _ D cid B 6 0 0 b.2 22 [(5, .int b.1)] []) (fun b => Zz p l e (zRm 0 0 0 0) s m args below meth cd _ D cid B 6 0 0 b 31 [] []) b) (fun a r ha k0 k1 => u_StringLatin1_indexOfChar_7 X H ha k0 k1) nf _ b eb ?_
  rcases b with b | b
  · simp only [Sum.elim_inl] at h ⊢
    refine z_iload X dd_StringLatin1_indexOfChar_22 0 rfl ?_
    obtain rfl := Option.some.inj h
    exact z_iret X H.1 H.2.1 H.2.2.1 dd_StringLatin1_indexOfChar_24
  · simp only [Sum.elim_inr] at h ⊢
    refine z_iconst (v := (-1)) X dd_StringLatin1_indexOfChar_31 (by decide) ?_
    obtain rfl := Option.some.inj h
    exact z_iret X H.1 H.2.1 H.2.2.1 dd_StringLatin1_indexOfChar_32
set_option maxRecDepth 100000 in
set_option maxHeartbeats 4000000 in
theorem c_StringLatin1_indexOfChar (l : Launch) {nf : Nat} {a0 : Nat} {a1 : Int32} {a2 : Int32} {a3 : Int32} {c : Zc} {res : Int32 × Zc} (h : f_StringLatin1_indexOfChar nf a0 a1 a2 a3 c = some res) : zM l yy_StringLatin1_indexOfChar ww_StringLatin1_indexOfChar 0 0 0 0 [zfb a0, .int a1, .int a2, .int a3] c (fun D cid B => zQi D cid B res.1 res.2 c.length 0) := by
  refine z_met (cc := bb_StringLatin1_indexOfChar) (maxL := 6) (ret := (some (.int))) (by decide +kernel) rfl (Nat.le_of_ble_eq_true rfl) ?_
  intro p e s m args below meth cd D cid B X h1 h2 h3 h4
  have X : zX p s m args cd D cid B bb_StringLatin1_indexOfChar 6 rr_StringLatin1 zT := X
  have H : zH s meth B c.length (some (.int)) "indexOfChar" := ⟨h1, h2, h4, h3⟩
  unfold f_StringLatin1_indexOfChar at h
  show Zz p l e (zRm 0 0 0 0) s m args below meth cd _ D cid B 6 0 0 c 0 [(0, zfb a0), (1, .int a1), (2, .int a2), (3, .int a3)] []
  refine z_iload_n X dd_StringLatin1_indexOfChar_0 rfl 1 rfl ?_
  refine z_i2b X dd_StringLatin1_indexOfChar_1 ?_
  refine z_istore (lv' := [(4, .int (Int8.toInt32 (Int32.toInt8 a1))), (0, zfb a0), (1, .int a1), (2, .int a2), (3, .int a3)]) X dd_StringLatin1_indexOfChar_2 (by decide) rfl ?_
  refine z_iload_n X dd_StringLatin1_indexOfChar_4 rfl 3 rfl ?_
  refine z_istore (lv' := [(5, .int a2), (4, .int (Int8.toInt32 (Int32.toInt8 a1))), (0, zfb a0), (1, .int a1), (2, .int a2), (3, .int a3)]) X dd_StringLatin1_indexOfChar_5 (by decide) rfl ?_
  refine z_sub [2, 5, 1, 0] rfl ?_
  exact t_StringLatin1_indexOfChar_7 X H h
theorem dd_StringLatin1_indexOf_0 : decode bb_StringLatin1_indexOf 0 = .ok (.iload_n 1, 1) := by decide +kernel
theorem dd_StringLatin1_indexOf_1 : decode bb_StringLatin1_indexOf 1 = .ok (.invokestatic 88, 3) := by decide +kernel
theorem dd_StringLatin1_indexOf_4 : decode bb_StringLatin1_indexOf 4 = .ok (.ifCond .ne 5, 3) := by decide +kernel
theorem dd_StringLatin1_indexOf_7 : decode bb_StringLatin1_indexOf 7 = .ok (.iconst (-1), 1) := by decide +kernel
theorem dd_StringLatin1_indexOf_8 : decode bb_StringLatin1_indexOf 8 = .ok (.ireturn, 1) := by decide +kernel
theorem dd_StringLatin1_indexOf_9 : decode bb_StringLatin1_indexOf 9 = .ok (.iload_n 2, 1) := by decide +kernel
theorem dd_StringLatin1_indexOf_10 : decode bb_StringLatin1_indexOf 10 = .ok (.iconst 0, 1) := by decide +kernel
theorem dd_StringLatin1_indexOf_11 : decode bb_StringLatin1_indexOf 11 = .ok (.invokestatic 92, 3) := by decide +kernel
theorem dd_StringLatin1_indexOf_14 : decode bb_StringLatin1_indexOf 14 = .ok (.istore_n 2, 1) := by decide +kernel
theorem dd_StringLatin1_indexOf_15 : decode bb_StringLatin1_indexOf 15 = .ok (.iload_n 3, 1) := by decide +kernel
theorem dd_StringLatin1_indexOf_16 : decode bb_StringLatin1_indexOf 16 = .ok (.aload_n 0, 1) := by decide +kernel
theorem dd_StringLatin1_indexOf_17 : decode bb_StringLatin1_indexOf 17 = .ok (.arraylength, 1) := by decide +kernel
theorem dd_StringLatin1_indexOf_18 : decode bb_StringLatin1_indexOf 18 = .ok (.invokestatic 38, 3) := by decide +kernel
theorem dd_StringLatin1_indexOf_21 : decode bb_StringLatin1_indexOf 21 = .ok (.istore_n 3, 1) := by decide +kernel
theorem dd_StringLatin1_indexOf_22 : decode bb_StringLatin1_indexOf 22 = .ok (.iload_n 2, 1) := by decide +kernel
theorem dd_StringLatin1_indexOf_23 : decode bb_StringLatin1_indexOf 23 = .ok (.iload_n 3, 1) := by decide +kernel
theorem dd_StringLatin1_indexOf_24 : decode bb_StringLatin1_indexOf 24 = .ok (.if_icmp .lt 5, 3) := by decide +kernel
theorem dd_StringLatin1_indexOf_27 : decode bb_StringLatin1_indexOf 27 = .ok (.iconst (-1), 1) := by decide +kernel
theorem dd_StringLatin1_indexOf_28 : decode bb_StringLatin1_indexOf 28 = .ok (.ireturn, 1) := by decide +kernel
theorem dd_StringLatin1_indexOf_29 : decode bb_StringLatin1_indexOf 29 = .ok (.aload_n 0, 1) := by decide +kernel
theorem dd_StringLatin1_indexOf_30 : decode bb_StringLatin1_indexOf 30 = .ok (.iload_n 1, 1) := by decide +kernel
theorem dd_StringLatin1_indexOf_31 : decode bb_StringLatin1_indexOf 31 = .ok (.iload_n 2, 1) := by decide +kernel
theorem dd_StringLatin1_indexOf_32 : decode bb_StringLatin1_indexOf 32 = .ok (.iload_n 3, 1) := by decide +kernel
theorem dd_StringLatin1_indexOf_33 : decode bb_StringLatin1_indexOf 33 = .ok (.invokestatic 95, 3) := by decide +kernel
theorem dd_StringLatin1_indexOf_36 : decode bb_StringLatin1_indexOf 36 = .ok (.ireturn, 1) := by decide +kernel
def f_StringLatin1_indexOf (nf : Nat) (a0 : Nat) (a1 : Int32) (a2 : Int32) (a3 : Int32) (c : Zc) : Option (Int32 × Zc) :=
  (f_StringLatin1_canEncode nf a1 c).bind fun q1 => if q1.1 = 0 then (some ((-1), q1.2)) else ((f_Math_max_0 nf a2 0 q1.2).bind fun q3 => (zst a0).bind fun u4 => (f_Math_min_0 nf a3 (Int32.ofNat (zs_len.getD a0 0)) q3.2).bind fun q5 => if q3.1 < q5.1 then ((f_StringLatin1_indexOfChar nf a0 a1 q3.1 q5.1 q5.2).bind fun q7 => some (q7.1, q7.2)) else (some ((-1), q5.2)))
set_option maxRecDepth 100000 in
set_option maxHeartbeats 4000000 in
theorem c_StringLatin1_indexOf (l : Launch) {nf : Nat} {a0 : Nat} {a1 : Int32} {a2 : Int32} {a3 : Int32} {c : Zc} {res : Int32 × Zc} (h : f_StringLatin1_indexOf nf a0 a1 a2 a3 c = some res) : zM l yy_StringLatin1_indexOf ww_StringLatin1_indexOf 1 25 0 0 [zfb a0, .int a1, .int a2, .int a3] c (fun D cid B => zQi D cid B res.1 res.2 c.length 0) := by
  refine z_met (cc := bb_StringLatin1_indexOf) (maxL := 4) (ret := (some (.int))) (by decide +kernel) rfl (Nat.le_of_ble_eq_true rfl) ?_
  intro p e s m args below meth cd D cid B X h1 h2 h3 h4
  have X : zX p s m args cd D cid B bb_StringLatin1_indexOf 4 rr_StringLatin1 zT := X
  have H : zH s meth B c.length (some (.int)) "indexOf" := ⟨h1, h2, h4, h3⟩
  unfold f_StringLatin1_indexOf at h
  show Zz p l e (zRm 1 25 0 0) s m args below meth cd _ D cid B 4 0 0 c 0 [(0, zfb a0), (1, .int a1), (2, .int a2), (3, .int a3)] []
  refine z_iload_n X dd_StringLatin1_indexOf_0 rfl 1 rfl ?_
  obtain ⟨q1, eq1, h⟩ := zb h
  refine z_callSi X [.int a1] rfl dd_StringLatin1_indexOf_1 (c_StringLatin1_canEncode l eq1) (va_cwS 1 X.1.2.2.2.2 (zg_S km_895 km_896 km_141 km_897) rfl rfl rfl (by decide +kernel) ⟨Nat.le_of_ble_eq_true rfl, Nat.le_of_ble_eq_true rfl⟩) rfl (Nat.le_of_ble_eq_true rfl) ⟨Nat.le_of_ble_eq_true rfl, Nat.le_of_ble_eq_true rfl⟩ ?_
  refine z_if_ne (tgt := 9) X dd_StringLatin1_indexOf_4 (by decide) (fun q2 => ?_) (fun q2 => ?_)
  · rw [if_neg q2] at h
    refine z_iload_n X dd_StringLatin1_indexOf_9 rfl 2 rfl ?_
    refine z_iconst (v := 0) X dd_StringLatin1_indexOf_10 (by decide) ?_
    obtain ⟨q3, eq3, h⟩ := zb h
    refine z_callSi X [.int a2, .int 0] rfl dd_StringLatin1_indexOf_11 (c_Math_max_0 l eq3) (va_cwS 2 X.1.2.2.2.2 (zg_S km_898 km_899 km_139 km_900) rfl rfl rfl (by decide +kernel) ⟨Nat.le_of_ble_eq_true rfl, Nat.le_of_ble_eq_true rfl⟩) rfl (Nat.le_of_ble_eq_true rfl) ⟨Nat.le_of_ble_eq_true rfl, Nat.le_of_ble_eq_true rfl⟩ ?_
    refine z_istore_n (lv' := [(2, .int q3.1), (0, zfb a0), (1, .int a1), (3, .int a3)]) X dd_StringLatin1_indexOf_14 rfl (by decide) rfl ?_
    refine z_iload_n X dd_StringLatin1_indexOf_15 rfl 3 rfl ?_
    refine z_aloadT_n X dd_StringLatin1_indexOf_16 rfl 1 rfl ?_
    obtain ⟨u4, eu4, h⟩ := zb h
    refine z_alenS X dd_StringLatin1_indexOf_17 (zst_s eu4) rfl ?_
    obtain ⟨q5, eq5, h⟩ := zb h
    refine z_callSi X [.int a3, .int (Int32.ofNat (zs_len.getD a0 0))] rfl dd_StringLatin1_indexOf_18 (c_Math_min_0 l eq5) (va_cwS 2 X.1.2.2.2.2 (zg_S km_901 km_842 km_139 km_843) rfl rfl rfl (by decide +kernel) ⟨Nat.le_of_ble_eq_true rfl, Nat.le_of_ble_eq_true rfl⟩) rfl (Nat.le_of_ble_eq_true rfl) ⟨Nat.le_of_ble_eq_true rfl, Nat.le_of_ble_eq_true rfl⟩ ?_
    refine z_istore_n (lv' := [(3, .int q5.1), (2, .int q3.1), (0, zfb a0), (1, .int a1)]) X dd_StringLatin1_indexOf_21 rfl (by decide) rfl ?_
    refine z_iload_n X dd_StringLatin1_indexOf_22 rfl 1 rfl ?_
    refine z_iload_n X dd_StringLatin1_indexOf_23 rfl 0 rfl ?_
    refine z_icmp_lt (tgt := 29) X dd_StringLatin1_indexOf_24 (by decide) (fun q6 => ?_) (fun q6 => ?_)
    · rw [if_pos q6] at h
      refine z_aloadT_n X dd_StringLatin1_indexOf_29 rfl 2 rfl ?_
      refine z_iload_n X dd_StringLatin1_indexOf_30 rfl 3 rfl ?_
      refine z_iload_n X dd_StringLatin1_indexOf_31 rfl 1 rfl ?_
      refine z_iload_n X dd_StringLatin1_indexOf_32 rfl 0 rfl ?_
      obtain ⟨q7, eq7, h⟩ := zb h
      refine z_callSi X [zfb a0, .int a1, .int q3.1, .int q5.1] rfl dd_StringLatin1_indexOf_33 (c_StringLatin1_indexOfChar l eq7) (va_cwS 4 X.1.2.2.2.2 (zg_S km_902 km_903 km_141 km_904) rfl rfl rfl (by decide +kernel) ⟨Nat.le_of_ble_eq_true rfl, Nat.le_of_ble_eq_true rfl⟩) rfl (Nat.le_of_ble_eq_true rfl) ⟨Nat.le_of_ble_eq_true rfl, Nat.le_of_ble_eq_true rfl⟩ ?_
      obtain rfl := Option.some.inj h
      exact z_iret X H.1 H.2.1 H.2.2.1 dd_StringLatin1_indexOf_36
    · rw [if_neg q6] at h
      refine z_iconst (v := (-1)) X dd_StringLatin1_indexOf_27 (by decide) ?_
      obtain rfl := Option.some.inj h
      exact z_iret X H.1 H.2.1 H.2.2.1 dd_StringLatin1_indexOf_28
  · rw [if_pos q2] at h
    refine z_iconst (v := (-1)) X dd_StringLatin1_indexOf_7 (by decide) ?_
    obtain rfl := Option.some.inj h
    exact z_iret X H.1 H.2.1 H.2.2.1 dd_StringLatin1_indexOf_8
theorem dd_String_indexOf_1_0 : decode bb_String_indexOf_1 0 = .ok (.aload_n 0, 1) := by decide +kernel
theorem dd_String_indexOf_1_1 : decode bb_String_indexOf_1 1 = .ok (.invokevirtual 492, 3) := by decide +kernel
theorem dd_String_indexOf_1_4 : decode bb_String_indexOf_1 4 = .ok (.ifCond .eq 19, 3) := by decide +kernel
theorem dd_String_indexOf_1_7 : decode bb_String_indexOf_1 7 = .ok (.aload_n 0, 1) := by decide +kernel
theorem dd_String_indexOf_1_8 : decode bb_String_indexOf_1 8 = .ok (.getfield 9, 3) := by decide +kernel
theorem dd_String_indexOf_1_11 : decode bb_String_indexOf_1 11 = .ok (.iload_n 1, 1) := by decide +kernel
theorem dd_String_indexOf_1_12 : decode bb_String_indexOf_1 12 = .ok (.iload_n 2, 1) := by decide +kernel
theorem dd_String_indexOf_1_13 : decode bb_String_indexOf_1 13 = .ok (.aload_n 0, 1) := by decide +kernel
theorem dd_String_indexOf_1_14 : decode bb_String_indexOf_1 14 = .ok (.invokevirtual 505, 3) := by decide +kernel
theorem dd_String_indexOf_1_17 : decode bb_String_indexOf_1 17 = .ok (.invokestatic 637, 3) := by decide +kernel
theorem dd_String_indexOf_1_20 : decode bb_String_indexOf_1 20 = .ok (.goto 16, 3) := by decide +kernel
theorem dd_String_indexOf_1_23 : decode bb_String_indexOf_1 23 = .ok (.aload_n 0, 1) := by decide +kernel
theorem dd_String_indexOf_1_24 : decode bb_String_indexOf_1 24 = .ok (.getfield 9, 3) := by decide +kernel
theorem dd_String_indexOf_1_27 : decode bb_String_indexOf_1 27 = .ok (.iload_n 1, 1) := by decide +kernel
theorem dd_String_indexOf_1_28 : decode bb_String_indexOf_1 28 = .ok (.iload_n 2, 1) := by decide +kernel
theorem dd_String_indexOf_1_29 : decode bb_String_indexOf_1 29 = .ok (.aload_n 0, 1) := by decide +kernel
theorem dd_String_indexOf_1_30 : decode bb_String_indexOf_1 30 = .ok (.invokevirtual 505, 3) := by decide +kernel
theorem dd_String_indexOf_1_33 : decode bb_String_indexOf_1 33 = .ok (.invokestatic 640, 3) := by decide +kernel
theorem dd_String_indexOf_1_36 : decode bb_String_indexOf_1 36 = .ok (.ireturn, 1) := by decide +kernel
def f_String_indexOf_1_36 (nf : Nat) (s0 : Int32) (c : Zc) : Option (Int32 × Zc) :=
  some (s0, c)
def f_String_indexOf_1 (nf : Nat) (a0 : Nat) (a1 : Int32) (a2 : Int32) (c : Zc) : Option (Int32 × Zc) :=
  (zst a0).bind fun w2 => (f_String_isLatin1 nf a0 c).bind fun q1 => if q1.1 = 0 then ((zst a0).bind fun u4 => (zst a0).bind fun w6 => (f_String_length nf a0 q1.2).bind fun q5 => none) else ((zst a0).bind fun u7 => (zst a0).bind fun w9 => (f_String_length nf a0 q1.2).bind fun q8 => (f_StringLatin1_indexOf nf a0 a1 a2 q8.1 q8.2).bind fun q10 => f_String_indexOf_1_36 nf q10.1 q10.2)
set_option maxRecDepth 100000 in
set_option maxHeartbeats 4000000 in
theorem t_String_indexOf_1_36  (X : zX p s m args cd D cid B bb_String_indexOf_1 3 rr_String zT) (H : zH s meth B n0 (some (.int)) "indexOf") {nf : Nat} {s0 : Int32} {c : Zc} {res : Int32 × Zc} (h : f_String_indexOf_1_36 nf s0 c = some res) : Zz p l e (zRm 2 48 0 0) s m args below meth cd (MQ below (zQi D cid B res.1 res.2 n0 0) args s 0 0 (fun q => B ≤ q)) D cid B 3 0 0 c 36 [] [.int s0] := by
  unfold f_String_indexOf_1_36 at h
  obtain rfl := Option.some.inj h
  exact z_iret X H.1 H.2.1 H.2.2.1 dd_String_indexOf_1_36
set_option maxRecDepth 100000 in
set_option maxHeartbeats 4000000 in
theorem c_String_indexOf_1 (l : Launch) {nf : Nat} {a0 : Nat} {a1 : Int32} {a2 : Int32} {c : Zc} {res : Int32 × Zc} (h : f_String_indexOf_1 nf a0 a1 a2 c = some res) : zM l yy_String_indexOf_1 ww_String_indexOf_1 2 48 0 0 [zfs a0, .int a1, .int a2] c (fun D cid B => zQi D cid B res.1 res.2 c.length 0) := by
  refine z_met (cc := bb_String_indexOf_1) (maxL := 3) (ret := (some (.int))) (by decide +kernel) rfl (Nat.le_of_ble_eq_true rfl) ?_
  intro p e s m args below meth cd D cid B X h1 h2 h3 h4
  have X : zX p s m args cd D cid B bb_String_indexOf_1 3 rr_String zT := X
  have H : zH s meth B c.length (some (.int)) "indexOf" := ⟨h1, h2, h4, h3⟩
  unfold f_String_indexOf_1 at h
  show Zz p l e (zRm 2 48 0 0) s m args below meth cd _ D cid B 3 0 0 c 0 [(0, zfs a0), (1, .int a1), (2, .int a2)] []
  refine z_aloadS_n X dd_String_indexOf_1_0 rfl 0 rfl ?_
  obtain ⟨w2, ew2, h⟩ := zb h
  obtain ⟨q1, eq1, h⟩ := zb h
  refine z_callXi X [] rfl dd_String_indexOf_1_1 (c_String_isLatin1 l eq1) (cwV 0 X.1.2.2.2.2 (zg_V km_878 km_879 km_880 km_140 km_881) rfl rfl rfl (by decide +kernel) ⟨Nat.le_of_ble_eq_true rfl, Nat.le_of_ble_eq_true rfl⟩) (zst_s ew2) rfl (Nat.le_of_ble_eq_true rfl) ⟨Nat.le_of_ble_eq_true rfl, Nat.le_of_ble_eq_true rfl⟩ ?_
  refine z_if_eq (tgt := 23) X dd_String_indexOf_1_4 (by decide) (fun q3 => ?_) (fun q3 => ?_)
  · rw [if_pos q3] at h
    refine z_aloadS_n X dd_String_indexOf_1_23 rfl 0 rfl ?_
    obtain ⟨u4, eu4, h⟩ := zb h
    refine z_getSv X dd_String_indexOf_1_24 (zst_s eu4) km_2177 ?_
    refine z_iload_n X dd_String_indexOf_1_27 rfl 1 rfl ?_
    refine z_iload_n X dd_String_indexOf_1_28 rfl 2 rfl ?_
    refine z_aloadS_n X dd_String_indexOf_1_29 rfl 0 rfl ?_
    obtain ⟨w6, ew6, h⟩ := zb h
    obtain ⟨q5, eq5, h⟩ := zb h
    refine z_callXi X [] rfl dd_String_indexOf_1_30 (c_String_length l eq5) (cwV 0 X.1.2.2.2.2 (zg_V km_884 km_885 km_886 km_140 km_887) rfl rfl rfl (by decide +kernel) ⟨Nat.le_of_ble_eq_true rfl, Nat.le_of_ble_eq_true rfl⟩) (zst_s ew6) rfl (Nat.le_of_ble_eq_true rfl) ⟨Nat.le_of_ble_eq_true rfl, Nat.le_of_ble_eq_true rfl⟩ ?_
    cases h
  · rw [if_neg q3] at h
    refine z_aloadS_n X dd_String_indexOf_1_7 rfl 0 rfl ?_
    obtain ⟨u7, eu7, h⟩ := zb h
    refine z_getSv X dd_String_indexOf_1_8 (zst_s eu7) km_2177 ?_
    refine z_iload_n X dd_String_indexOf_1_11 rfl 1 rfl ?_
    refine z_iload_n X dd_String_indexOf_1_12 rfl 2 rfl ?_
    refine z_aloadS_n X dd_String_indexOf_1_13 rfl 0 rfl ?_
    obtain ⟨w9, ew9, h⟩ := zb h
    obtain ⟨q8, eq8, h⟩ := zb h
    refine z_callXi X [] rfl dd_String_indexOf_1_14 (c_String_length l eq8) (cwV 0 X.1.2.2.2.2 (zg_V km_884 km_885 km_886 km_140 km_887) rfl rfl rfl (by decide +kernel) ⟨Nat.le_of_ble_eq_true rfl, Nat.le_of_ble_eq_true rfl⟩) (zst_s ew9) rfl (Nat.le_of_ble_eq_true rfl) ⟨Nat.le_of_ble_eq_true rfl, Nat.le_of_ble_eq_true rfl⟩ ?_
    obtain ⟨q10, eq10, h⟩ := zb h
    refine z_callSi X [zfb a0, .int a1, .int a2, .int q8.1] rfl dd_String_indexOf_1_17 (c_StringLatin1_indexOf l eq10) (va_cwS 4 X.1.2.2.2.2 (zg_S km_892 km_893 km_141 km_894) rfl rfl rfl (by decide +kernel) ⟨Nat.le_of_ble_eq_true rfl, Nat.le_of_ble_eq_true rfl⟩) rfl (Nat.le_of_ble_eq_true rfl) ⟨Nat.le_of_ble_eq_true rfl, Nat.le_of_ble_eq_true rfl⟩ ?_
    refine z_goto (tgt := 36) X dd_String_indexOf_1_20 (by decide) ?_
    refine z_sub [] rfl ?_
    exact t_String_indexOf_1_36 X H h
theorem dd_String_indexOf_0_0 : decode bb_String_indexOf_0 0 = .ok (.aload_n 0, 1) := by decide +kernel
theorem dd_String_indexOf_0_1 : decode bb_String_indexOf_0 1 = .ok (.iload_n 1, 1) := by decide +kernel
theorem dd_String_indexOf_0_2 : decode bb_String_indexOf_0 2 = .ok (.iconst 0, 1) := by decide +kernel
theorem dd_String_indexOf_0_3 : decode bb_String_indexOf_0 3 = .ok (.invokevirtual 633, 3) := by decide +kernel
theorem dd_String_indexOf_0_6 : decode bb_String_indexOf_0 6 = .ok (.ireturn, 1) := by decide +kernel
def f_String_indexOf_0 (nf : Nat) (a0 : Nat) (a1 : Int32) (c : Zc) : Option (Int32 × Zc) :=
  (zst a0).bind fun w2 => (f_String_indexOf_1 nf a0 a1 0 c).bind fun q1 => some (q1.1, q1.2)
set_option maxRecDepth 100000 in
set_option maxHeartbeats 4000000 in
theorem c_String_indexOf_0 (l : Launch) {nf : Nat} {a0 : Nat} {a1 : Int32} {c : Zc} {res : Int32 × Zc} (h : f_String_indexOf_0 nf a0 a1 c = some res) : zM l yy_String_indexOf_0 ww_String_indexOf_0 3 70 0 0 [zfs a0, .int a1] c (fun D cid B => zQi D cid B res.1 res.2 c.length 0) := by
  refine z_met (cc := bb_String_indexOf_0) (maxL := 2) (ret := (some (.int))) (by decide +kernel) rfl (Nat.le_of_ble_eq_true rfl) ?_
  intro p e s m args below meth cd D cid B X h1 h2 h3 h4
  have X : zX p s m args cd D cid B bb_String_indexOf_0 2 rr_String zT := X
  have H : zH s meth B c.length (some (.int)) "indexOf" := ⟨h1, h2, h4, h3⟩
  unfold f_String_indexOf_0 at h
  show Zz p l e (zRm 3 70 0 0) s m args below meth cd _ D cid B 2 0 0 c 0 [(0, zfs a0), (1, .int a1)] []
  refine z_aloadS_n X dd_String_indexOf_0_0 rfl 0 rfl ?_
  refine z_iload_n X dd_String_indexOf_0_1 rfl 1 rfl ?_
  refine z_iconst (v := 0) X dd_String_indexOf_0_2 (by decide) ?_
  obtain ⟨w2, ew2, h⟩ := zb h
  obtain ⟨q1, eq1, h⟩ := zb h
  refine z_callXi X [.int a1, .int 0] rfl dd_String_indexOf_0_3 (c_String_indexOf_1 l eq1) (cwV 2 X.1.2.2.2.2 (zg_V km_874 km_875 km_876 km_140 km_877) rfl rfl rfl (by decide +kernel) ⟨Nat.le_of_ble_eq_true rfl, Nat.le_of_ble_eq_true rfl⟩) (zst_s ew2) rfl (Nat.le_of_ble_eq_true rfl) ⟨Nat.le_of_ble_eq_true rfl, Nat.le_of_ble_eq_true rfl⟩ ?_
  obtain rfl := Option.some.inj h
  exact z_iret X H.1 H.2.1 H.2.2.1 dd_String_indexOf_0_6
theorem dd_Tokens_letterKind_0 : decode bb_Tokens_letterKind 0 = .ok (.ldc 79, 2) := by decide +kernel
theorem dd_Tokens_letterKind_2 : decode bb_Tokens_letterKind 2 = .ok (.iload_n 1, 1) := by decide +kernel
theorem dd_Tokens_letterKind_3 : decode bb_Tokens_letterKind 3 = .ok (.invokevirtual 60, 3) := by decide +kernel
theorem dd_Tokens_letterKind_6 : decode bb_Tokens_letterKind 6 = .ok (.istore_n 2, 1) := by decide +kernel
theorem dd_Tokens_letterKind_7 : decode bb_Tokens_letterKind 7 = .ok (.iload_n 2, 1) := by decide +kernel
theorem dd_Tokens_letterKind_8 : decode bb_Tokens_letterKind 8 = .ok (.ifCond .lt 18, 3) := by decide +kernel
theorem dd_Tokens_letterKind_11 : decode bb_Tokens_letterKind 11 = .ok (.aload_n 0, 1) := by decide +kernel
theorem dd_Tokens_letterKind_12 : decode bb_Tokens_letterKind 12 = .ok (.getfield 15, 3) := by decide +kernel
theorem dd_Tokens_letterKind_15 : decode bb_Tokens_letterKind 15 = .ok (.aload_n 0, 1) := by decide +kernel
theorem dd_Tokens_letterKind_16 : decode bb_Tokens_letterKind 16 = .ok (.getfield 21, 3) := by decide +kernel
theorem dd_Tokens_letterKind_19 : decode bb_Tokens_letterKind 19 = .ok (.iload_n 2, 1) := by decide +kernel
theorem dd_Tokens_letterKind_20 : decode bb_Tokens_letterKind 20 = .ok (.bipush 11, 2) := by decide +kernel
theorem dd_Tokens_letterKind_22 : decode bb_Tokens_letterKind 22 = .ok (.imul, 1) := by decide +kernel
theorem dd_Tokens_letterKind_23 : decode bb_Tokens_letterKind 23 = .ok (.iastore, 1) := by decide +kernel
theorem dd_Tokens_letterKind_24 : decode bb_Tokens_letterKind 24 = .ok (.iconst 2, 1) := by decide +kernel
theorem dd_Tokens_letterKind_25 : decode bb_Tokens_letterKind 25 = .ok (.ireturn, 1) := by decide +kernel
theorem dd_Tokens_letterKind_26 : decode bb_Tokens_letterKind 26 = .ok (.ldc 81, 2) := by decide +kernel
theorem dd_Tokens_letterKind_28 : decode bb_Tokens_letterKind 28 = .ok (.iload_n 1, 1) := by decide +kernel
theorem dd_Tokens_letterKind_29 : decode bb_Tokens_letterKind 29 = .ok (.invokevirtual 60, 3) := by decide +kernel
theorem dd_Tokens_letterKind_32 : decode bb_Tokens_letterKind 32 = .ok (.istore_n 3, 1) := by decide +kernel
theorem dd_Tokens_letterKind_33 : decode bb_Tokens_letterKind 33 = .ok (.aload_n 0, 1) := by decide +kernel
theorem dd_Tokens_letterKind_34 : decode bb_Tokens_letterKind 34 = .ok (.getfield 15, 3) := by decide +kernel
theorem dd_Tokens_letterKind_37 : decode bb_Tokens_letterKind 37 = .ok (.aload_n 0, 1) := by decide +kernel
theorem dd_Tokens_letterKind_38 : decode bb_Tokens_letterKind 38 = .ok (.getfield 21, 3) := by decide +kernel
theorem dd_Tokens_letterKind_41 : decode bb_Tokens_letterKind 41 = .ok (.iload_n 3, 1) := by decide +kernel
theorem dd_Tokens_letterKind_42 : decode bb_Tokens_letterKind 42 = .ok (.iastore, 1) := by decide +kernel
theorem dd_Tokens_letterKind_43 : decode bb_Tokens_letterKind 43 = .ok (.iload_n 3, 1) := by decide +kernel
theorem dd_Tokens_letterKind_44 : decode bb_Tokens_letterKind 44 = .ok (.ifCond .lt 7, 3) := by decide +kernel
theorem dd_Tokens_letterKind_47 : decode bb_Tokens_letterKind 47 = .ok (.iconst 5, 1) := by decide +kernel
theorem dd_Tokens_letterKind_48 : decode bb_Tokens_letterKind 48 = .ok (.goto 4, 3) := by decide +kernel
theorem dd_Tokens_letterKind_51 : decode bb_Tokens_letterKind 51 = .ok (.iconst 0, 1) := by decide +kernel
theorem dd_Tokens_letterKind_52 : decode bb_Tokens_letterKind 52 = .ok (.ireturn, 1) := by decide +kernel
def f_Tokens_letterKind_52 (nf : Nat) (s0 : Int32) (c : Zc) : Option (Int32 × Zc) :=
  some (s0, c)
def f_Tokens_letterKind (nf : Nat) (a0 : Nat) (a1 : Int32) (c : Zc) : Option (Int32 × Zc) :=
  (zst 0).bind fun w2 => (f_String_indexOf_0 nf 0 a1 c).bind fun q1 => if q1.1 < 0 then ((zst 1).bind fun w5 => (f_String_indexOf_0 nf 1 a1 q1.2).bind fun q4 => (zgr q4.2 a0 3 1).bind fun v6 => (zgi q4.2 a0 3 3).bind fun v7 => (zsi q4.2 v6 0 v7 q4.1).bind fun c8 => if q4.1 < 0 then (f_Tokens_letterKind_52 nf 0 c8) else (f_Tokens_letterKind_52 nf 5 c8)) else ((zgr q1.2 a0 3 1).bind fun v10 => (zgi q1.2 a0 3 3).bind fun v11 => (zsi q1.2 v10 0 v11 (q1.1 * 11)).bind fun c12 => some (2, c12))
set_option maxRecDepth 100000 in
set_option maxHeartbeats 4000000 in
theorem t_Tokens_letterKind_52  (X : zX p s m args cd D cid B bb_Tokens_letterKind 4 rr_Tokens zT) (H : zH s meth B n0 (some (.int)) "letterKind") {nf : Nat} {s0 : Int32} {c : Zc} {res : Int32 × Zc} (h : f_Tokens_letterKind_52 nf s0 c = some res) : Zz p l e (zRm 4 91 0 0) s m args below meth cd (MQ below (zQi D cid B res.1 res.2 n0 0) args s 0 0 (fun q => B ≤ q)) D cid B 4 0 0 c 52 [] [.int s0] := by
  unfold f_Tokens_letterKind_52 at h
  obtain rfl := Option.some.inj h
  exact z_iret X H.1 H.2.1 H.2.2.1 dd_Tokens_letterKind_52
set_option maxRecDepth 100000 in
set_option maxHeartbeats 4000000 in
theorem c_Tokens_letterKind (l : Launch) {nf : Nat} {a0 : Nat} {a1 : Int32} {c : Zc} {res : Int32 × Zc} (h : f_Tokens_letterKind nf a0 a1 c = some res) : zM l yy_Tokens_letterKind ww_Tokens_letterKind 4 91 0 0 [.ref a0, .int a1] c (fun D cid B => zQi D cid B res.1 res.2 c.length 0) := by
  refine z_met (cc := bb_Tokens_letterKind) (maxL := 4) (ret := (some (.int))) (by decide +kernel) rfl (Nat.le_of_ble_eq_true rfl) ?_
  intro p e s m args below meth cd D cid B X h1 h2 h3 h4
  have X : zX p s m args cd D cid B bb_Tokens_letterKind 4 rr_Tokens zT := X
  have H : zH s meth B c.length (some (.int)) "letterKind" := ⟨h1, h2, h4, h3⟩
  unfold f_Tokens_letterKind at h
  show Zz p l e (zRm 4 91 0 0) s m args below meth cd _ D cid B 4 0 0 c 0 [(0, .ref a0), (1, .int a1)] []
  refine z_ldcS (i := 0) X dd_Tokens_letterKind_0 (by decide) rfl rfl ?_
  refine z_iload_n X dd_Tokens_letterKind_2 rfl 1 rfl ?_
  obtain ⟨w2, ew2, h⟩ := zb h
  obtain ⟨q1, eq1, h⟩ := zb h
  refine z_callXi X [.int a1] rfl dd_Tokens_letterKind_3 (c_String_indexOf_0 l eq1) (cwV 1 X.1.2.2.2.2 (zg_V km_870 km_871 km_872 km_140 km_873) rfl rfl rfl (by decide +kernel) ⟨Nat.le_of_ble_eq_true rfl, Nat.le_of_ble_eq_true rfl⟩) (zst_s ew2) rfl (Nat.le_of_ble_eq_true rfl) ⟨Nat.le_of_ble_eq_true rfl, Nat.le_of_ble_eq_true rfl⟩ ?_
  refine z_istore_n (lv' := [(2, .int q1.1), (0, .ref a0), (1, .int a1)]) X dd_Tokens_letterKind_6 rfl (by decide) rfl ?_
  refine z_iload_n X dd_Tokens_letterKind_7 rfl 0 rfl ?_
  refine z_if_lt (tgt := 26) X dd_Tokens_letterKind_8 (by decide) (fun q3 => ?_) (fun q3 => ?_)
  · rw [if_pos q3] at h
    refine z_ldcS (i := 1) X dd_Tokens_letterKind_26 (by decide) rfl rfl ?_
    refine z_iload_n X dd_Tokens_letterKind_28 rfl 2 rfl ?_
    obtain ⟨w5, ew5, h⟩ := zb h
    obtain ⟨q4, eq4, h⟩ := zb h
    refine z_callXi X [.int a1] rfl dd_Tokens_letterKind_29 (c_String_indexOf_0 l eq4) (cwV 1 X.1.2.2.2.2 (zg_V km_870 km_871 km_872 km_140 km_873) rfl rfl rfl (by decide +kernel) ⟨Nat.le_of_ble_eq_true rfl, Nat.le_of_ble_eq_true rfl⟩) (zst_s ew5) rfl (Nat.le_of_ble_eq_true rfl) ⟨Nat.le_of_ble_eq_true rfl, Nat.le_of_ble_eq_true rfl⟩ ?_
    refine z_istore_n (lv' := [(3, .int q4.1), (2, .int q1.1), (0, .ref a0), (1, .int a1)]) X dd_Tokens_letterKind_32 rfl (by decide) rfl ?_
    refine z_aload_n X dd_Tokens_letterKind_33 rfl 2 rfl ?_
    obtain ⟨v6, ev6, h⟩ := zb h
    refine z_get (j := 1) X dd_Tokens_letterKind_34 kc_3 ki_3 (by decide) km_418 (zgr_v ev6) ?_
    refine z_aload_n X dd_Tokens_letterKind_37 rfl 2 rfl ?_
    obtain ⟨v7, ev7, h⟩ := zb h
    refine z_get (j := 3) X dd_Tokens_letterKind_38 kc_3 ki_3 (by decide) km_422 (zgi_v ev7) ?_
    refine z_iload_n X dd_Tokens_letterKind_41 rfl 0 rfl ?_
    obtain ⟨c8, ec8, h⟩ := zb h
    refine z_iastore X dd_Tokens_letterKind_42 rfl ec8 ?_
    refine z_iload_n X dd_Tokens_letterKind_43 rfl 0 rfl ?_
    refine z_if_lt (tgt := 51) X dd_Tokens_letterKind_44 (by decide) (fun q9 => ?_) (fun q9 => ?_)
    · rw [if_pos q9] at h
      refine z_iconst (v := 0) X dd_Tokens_letterKind_51 (by decide) ?_
      refine z_sub [] rfl ?_
      exact t_Tokens_letterKind_52 X H h
    · rw [if_neg q9] at h
      refine z_iconst (v := 5) X dd_Tokens_letterKind_47 (by decide) ?_
      refine z_goto (tgt := 52) X dd_Tokens_letterKind_48 (by decide) ?_
      refine z_sub [] rfl ?_
      exact t_Tokens_letterKind_52 X H h
  · rw [if_neg q3] at h
    refine z_aload_n X dd_Tokens_letterKind_11 rfl 1 rfl ?_
    obtain ⟨v10, ev10, h⟩ := zb h
    refine z_get (j := 1) X dd_Tokens_letterKind_12 kc_3 ki_3 (by decide) km_418 (zgr_v ev10) ?_
    refine z_aload_n X dd_Tokens_letterKind_15 rfl 1 rfl ?_
    obtain ⟨v11, ev11, h⟩ := zb h
    refine z_get (j := 3) X dd_Tokens_letterKind_16 kc_3 ki_3 (by decide) km_422 (zgi_v ev11) ?_
    refine z_iload_n X dd_Tokens_letterKind_19 rfl 0 rfl ?_
    refine z_bipush (v := 11) X dd_Tokens_letterKind_20 (by decide) ?_
    refine z_imul X dd_Tokens_letterKind_22 ?_
    obtain ⟨c12, ec12, h⟩ := zb h
    refine z_iastore X dd_Tokens_letterKind_23 rfl ec12 ?_
    refine z_iconst (v := 2) X dd_Tokens_letterKind_24 (by decide) ?_
    obtain rfl := Option.some.inj h
    exact z_iret X H.1 H.2.1 H.2.2.1 dd_Tokens_letterKind_25
theorem dd_Tokens_numberedKind_0 : decode bb_Tokens_numberedKind 0 = .ok (.ldc 79, 2) := by decide +kernel
theorem dd_Tokens_numberedKind_2 : decode bb_Tokens_numberedKind 2 = .ok (.iload_n 1, 1) := by decide +kernel
theorem dd_Tokens_numberedKind_3 : decode bb_Tokens_numberedKind 3 = .ok (.invokevirtual 60, 3) := by decide +kernel
theorem dd_Tokens_numberedKind_6 : decode bb_Tokens_numberedKind 6 = .ok (.istore_n 3, 1) := by decide +kernel
theorem dd_Tokens_numberedKind_7 : decode bb_Tokens_numberedKind 7 = .ok (.aload_n 0, 1) := by decide +kernel
theorem dd_Tokens_numberedKind_8 : decode bb_Tokens_numberedKind 8 = .ok (.getfield 15, 3) := by decide +kernel
theorem dd_Tokens_numberedKind_11 : decode bb_Tokens_numberedKind 11 = .ok (.aload_n 0, 1) := by decide +kernel
theorem dd_Tokens_numberedKind_12 : decode bb_Tokens_numberedKind 12 = .ok (.getfield 21, 3) := by decide +kernel
theorem dd_Tokens_numberedKind_15 : decode bb_Tokens_numberedKind 15 = .ok (.iload_n 2, 1) := by decide +kernel
theorem dd_Tokens_numberedKind_16 : decode bb_Tokens_numberedKind 16 = .ok (.iastore, 1) := by decide +kernel
theorem dd_Tokens_numberedKind_17 : decode bb_Tokens_numberedKind 17 = .ok (.iload_n 3, 1) := by decide +kernel
theorem dd_Tokens_numberedKind_18 : decode bb_Tokens_numberedKind 18 = .ok (.ifCond .lt 22, 3) := by decide +kernel
theorem dd_Tokens_numberedKind_21 : decode bb_Tokens_numberedKind 21 = .ok (.aload_n 0, 1) := by decide +kernel
theorem dd_Tokens_numberedKind_22 : decode bb_Tokens_numberedKind 22 = .ok (.getfield 15, 3) := by decide +kernel
theorem dd_Tokens_numberedKind_25 : decode bb_Tokens_numberedKind 25 = .ok (.aload_n 0, 1) := by decide +kernel
theorem dd_Tokens_numberedKind_26 : decode bb_Tokens_numberedKind 26 = .ok (.getfield 21, 3) := by decide +kernel
theorem dd_Tokens_numberedKind_29 : decode bb_Tokens_numberedKind 29 = .ok (.iload_n 3, 1) := by decide +kernel
theorem dd_Tokens_numberedKind_30 : decode bb_Tokens_numberedKind 30 = .ok (.bipush 11, 2) := by decide +kernel
theorem dd_Tokens_numberedKind_32 : decode bb_Tokens_numberedKind 32 = .ok (.imul, 1) := by decide +kernel
theorem dd_Tokens_numberedKind_33 : decode bb_Tokens_numberedKind 33 = .ok (.iconst 1, 1) := by decide +kernel
theorem dd_Tokens_numberedKind_34 : decode bb_Tokens_numberedKind 34 = .ok (.iadd, 1) := by decide +kernel
theorem dd_Tokens_numberedKind_35 : decode bb_Tokens_numberedKind 35 = .ok (.iload_n 2, 1) := by decide +kernel
theorem dd_Tokens_numberedKind_36 : decode bb_Tokens_numberedKind 36 = .ok (.iadd, 1) := by decide +kernel
theorem dd_Tokens_numberedKind_37 : decode bb_Tokens_numberedKind 37 = .ok (.iastore, 1) := by decide +kernel
theorem dd_Tokens_numberedKind_38 : decode bb_Tokens_numberedKind 38 = .ok (.iconst 2, 1) := by decide +kernel
theorem dd_Tokens_numberedKind_39 : decode bb_Tokens_numberedKind 39 = .ok (.ireturn, 1) := by decide +kernel
theorem dd_Tokens_numberedKind_40 : decode bb_Tokens_numberedKind 40 = .ok (.iload_n 1, 1) := by decide +kernel
theorem dd_Tokens_numberedKind_41 : decode bb_Tokens_numberedKind 41 = .ok (.bipush 109, 2) := by decide +kernel
theorem dd_Tokens_numberedKind_43 : decode bb_Tokens_numberedKind 43 = .ok (.if_icmp .ne 11, 3) := by decide +kernel
theorem dd_Tokens_numberedKind_46 : decode bb_Tokens_numberedKind 46 = .ok (.iload_n 2, 1) := by decide +kernel
theorem dd_Tokens_numberedKind_47 : decode bb_Tokens_numberedKind 47 = .ok (.bipush 8, 2) := by decide +kernel
theorem dd_Tokens_numberedKind_49 : decode bb_Tokens_numberedKind 49 = .ok (.if_icmp .ge 5, 3) := by decide +kernel
theorem dd_Tokens_numberedKind_52 : decode bb_Tokens_numberedKind 52 = .ok (.iconst 3, 1) := by decide +kernel
theorem dd_Tokens_numberedKind_53 : decode bb_Tokens_numberedKind 53 = .ok (.ireturn, 1) := by decide +kernel
theorem dd_Tokens_numberedKind_54 : decode bb_Tokens_numberedKind 54 = .ok (.iload_n 1, 1) := by decide +kernel
theorem dd_Tokens_numberedKind_55 : decode bb_Tokens_numberedKind 55 = .ok (.bipush 99, 2) := by decide +kernel
theorem dd_Tokens_numberedKind_57 : decode bb_Tokens_numberedKind 57 = .ok (.if_icmp .ne 12, 3) := by decide +kernel
theorem dd_Tokens_numberedKind_60 : decode bb_Tokens_numberedKind 60 = .ok (.iload_n 2, 1) := by decide +kernel
theorem dd_Tokens_numberedKind_61 : decode bb_Tokens_numberedKind 61 = .ok (.iconst 4, 1) := by decide +kernel
theorem dd_Tokens_numberedKind_62 : decode bb_Tokens_numberedKind 62 = .ok (.if_icmp .ge 7, 3) := by decide +kernel
theorem dd_Tokens_numberedKind_65 : decode bb_Tokens_numberedKind 65 = .ok (.iconst 4, 1) := by decide +kernel
theorem dd_Tokens_numberedKind_66 : decode bb_Tokens_numberedKind 66 = .ok (.goto 4, 3) := by decide +kernel
theorem dd_Tokens_numberedKind_69 : decode bb_Tokens_numberedKind 69 = .ok (.iconst 0, 1) := by decide +kernel
theorem dd_Tokens_numberedKind_70 : decode bb_Tokens_numberedKind 70 = .ok (.ireturn, 1) := by decide +kernel
def f_Tokens_numberedKind_70 (nf : Nat) (s0 : Int32) (c : Zc) : Option (Int32 × Zc) :=
  some (s0, c)
def f_Tokens_numberedKind_69 (nf : Nat)  (c : Zc) : Option (Int32 × Zc) :=
  f_Tokens_numberedKind_70 nf 0 c
def f_Tokens_numberedKind_54 (nf : Nat) (x1 : Int32) (x2 : Int32) (c : Zc) : Option (Int32 × Zc) :=
  if x1 = 99 then (if 4 ≤ x2 then (f_Tokens_numberedKind_69 nf  c) else (f_Tokens_numberedKind_70 nf 4 c)) else (f_Tokens_numberedKind_69 nf  c)
def f_Tokens_numberedKind (nf : Nat) (a0 : Nat) (a1 : Int32) (a2 : Int32) (c : Zc) : Option (Int32 × Zc) :=
  (zst 0).bind fun w2 => (f_String_indexOf_0 nf 0 a1 c).bind fun q1 => (zgr q1.2 a0 3 1).bind fun v3 => (zgi q1.2 a0 3 3).bind fun v4 => (zsi q1.2 v3 0 v4 a2).bind fun c5 => if q1.1 < 0 then (if a1 = 109 then (if 8 ≤ a2 then (f_Tokens_numberedKind_54 nf a1 a2 c5) else (some (3, c5))) else (f_Tokens_numberedKind_54 nf a1 a2 c5)) else ((zgr c5 a0 3 1).bind fun v11 => (zgi c5 a0 3 3).bind fun v12 => (zsi c5 v11 0 v12 (((q1.1 * 11) + 1) + a2)).bind fun c13 => some (2, c13))
set_option maxRecDepth 100000 in
set_option maxHeartbeats 4000000 in
theorem t_Tokens_numberedKind_70  (X : zX p s m args cd D cid B bb_Tokens_numberedKind 4 rr_Tokens zT) (H : zH s meth B n0 (some (.int)) "numberedKind") {nf : Nat} {s0 : Int32} {c : Zc} {res : Int32 × Zc} (h : f_Tokens_numberedKind_70 nf s0 c = some res) : Zz p l e (zRm 4 91 0 0) s m args below meth cd (MQ below (zQi D cid B res.1 res.2 n0 0) args s 0 0 (fun q => B ≤ q)) D cid B 4 0 0 c 70 [] [.int s0] := by
  unfold f_Tokens_numberedKind_70 at h
  obtain rfl := Option.some.inj h
  exact z_iret X H.1 H.2.1 H.2.2.1 dd_Tokens_numberedKind_70
set_option maxRecDepth 100000 in
set_option maxHeartbeats 4000000 in
theorem t_Tokens_numberedKind_69  (X : zX p s m args cd D cid B bb_Tokens_numberedKind 4 rr_Tokens zT) (H : zH s meth B n0 (some (.int)) "numberedKind") {nf : Nat}  {c : Zc} {res : Int32 × Zc} (h : f_Tokens_numberedKind_69 nf  c = some res) : Zz p l e (zRm 4 91 0 0) s m args below meth cd (MQ below (zQi D cid B res.1 res.2 n0 0) args s 0 0 (fun q => B ≤ q)) D cid B 4 0 0 c 69 [] [] := by
  unfold f_Tokens_numberedKind_69 at h
  refine z_iconst (v := 0) X dd_Tokens_numberedKind_69 (by decide) ?_
  exact t_Tokens_numberedKind_70 X H h
set_option maxRecDepth 100000 in
set_option maxHeartbeats 4000000 in
theorem t_Tokens_numberedKind_54  (X : zX p s m args cd D cid B bb_Tokens_numberedKind 4 rr_Tokens zT) (H : zH s meth B n0 (some (.int)) "numberedKind") {nf : Nat} {x1 : Int32} {x2 : Int32} {c : Zc} {res : Int32 × Zc} (h : f_Tokens_numberedKind_54 nf x1 x2 c = some res) : Zz p l e (zRm 4 91 0 0) s m args below meth cd (MQ below (zQi D cid B res.1 res.2 n0 0) args s 0 0 (fun q => B ≤ q)) D cid B 4 0 0 c 54 [(1, .int x1), (2, .int x2)] [] := by
  unfold f_Tokens_numberedKind_54 at h
  refine z_iload_n X dd_Tokens_numberedKind_54 rfl 0 rfl ?_
  refine z_bipush (v := 99) X dd_Tokens_numberedKind_55 (by decide) ?_
  refine z_icmp_ne (tgt := 69) X dd_Tokens_numberedKind_57 (by decide) (fun q8 => ?_) (fun q8 => ?_)
  · rw [if_neg q8] at h
    refine z_sub [] rfl ?_
    exact t_Tokens_numberedKind_69 X H h
  · rw [if_pos q8] at h
    refine z_iload_n X dd_Tokens_numberedKind_60 rfl 1 rfl ?_
    refine z_iconst (v := 4) X dd_Tokens_numberedKind_61 (by decide) ?_
    refine z_icmp_ge (tgt := 69) X dd_Tokens_numberedKind_62 (by decide) (fun q9 => ?_) (fun q9 => ?_)
    · rw [if_pos q9] at h
      refine z_sub [] rfl ?_
      exact t_Tokens_numberedKind_69 X H h
    · rw [if_neg q9] at h
      refine z_iconst (v := 4) X dd_Tokens_numberedKind_65 (by decide) ?_
      refine z_goto (tgt := 70) X dd_Tokens_numberedKind_66 (by decide) ?_
      refine z_sub [] rfl ?_
      exact t_Tokens_numberedKind_70 X H h
set_option maxRecDepth 100000 in
set_option maxHeartbeats 4000000 in
theorem c_Tokens_numberedKind (l : Launch) {nf : Nat} {a0 : Nat} {a1 : Int32} {a2 : Int32} {c : Zc} {res : Int32 × Zc} (h : f_Tokens_numberedKind nf a0 a1 a2 c = some res) : zM l yy_Tokens_numberedKind ww_Tokens_numberedKind 4 91 0 0 [.ref a0, .int a1, .int a2] c (fun D cid B => zQi D cid B res.1 res.2 c.length 0) := by
  refine z_met (cc := bb_Tokens_numberedKind) (maxL := 4) (ret := (some (.int))) (by decide +kernel) rfl (Nat.le_of_ble_eq_true rfl) ?_
  intro p e s m args below meth cd D cid B X h1 h2 h3 h4
  have X : zX p s m args cd D cid B bb_Tokens_numberedKind 4 rr_Tokens zT := X
  have H : zH s meth B c.length (some (.int)) "numberedKind" := ⟨h1, h2, h4, h3⟩
  unfold f_Tokens_numberedKind at h
  show Zz p l e (zRm 4 91 0 0) s m args below meth cd _ D cid B 4 0 0 c 0 [(0, .ref a0), (1, .int a1), (2, .int a2)] []
  refine z_ldcS (i := 0) X dd_Tokens_numberedKind_0 (by decide) rfl rfl ?_
  refine z_iload_n X dd_Tokens_numberedKind_2 rfl 1 rfl ?_
  obtain ⟨w2, ew2, h⟩ := zb h
  obtain ⟨q1, eq1, h⟩ := zb h
  refine z_callXi X [.int a1] rfl dd_Tokens_numberedKind_3 (c_String_indexOf_0 l eq1) (cwV 1 X.1.2.2.2.2 (zg_V km_870 km_871 km_872 km_140 km_873) rfl rfl rfl (by decide +kernel) ⟨Nat.le_of_ble_eq_true rfl, Nat.le_of_ble_eq_true rfl⟩) (zst_s ew2) rfl (Nat.le_of_ble_eq_true rfl) ⟨Nat.le_of_ble_eq_true rfl, Nat.le_of_ble_eq_true rfl⟩ ?_
  refine z_istore_n (lv' := [(3, .int q1.1), (0, .ref a0), (1, .int a1), (2, .int a2)]) X dd_Tokens_numberedKind_6 rfl (by decide) rfl ?_
  refine z_aload_n X dd_Tokens_numberedKind_7 rfl 1 rfl ?_
  obtain ⟨v3, ev3, h⟩ := zb h
  refine z_get (j := 1) X dd_Tokens_numberedKind_8 kc_3 ki_3 (by decide) km_418 (zgr_v ev3) ?_
  refine z_aload_n X dd_Tokens_numberedKind_11 rfl 1 rfl ?_
  obtain ⟨v4, ev4, h⟩ := zb h
  refine z_get (j := 3) X dd_Tokens_numberedKind_12 kc_3 ki_3 (by decide) km_422 (zgi_v ev4) ?_
  refine z_iload_n X dd_Tokens_numberedKind_15 rfl 3 rfl ?_
  obtain ⟨c5, ec5, h⟩ := zb h
  refine z_iastore X dd_Tokens_numberedKind_16 rfl ec5 ?_
  refine z_iload_n X dd_Tokens_numberedKind_17 rfl 0 rfl ?_
  refine z_if_lt (tgt := 40) X dd_Tokens_numberedKind_18 (by decide) (fun q6 => ?_) (fun q6 => ?_)
  · rw [if_pos q6] at h
    refine z_iload_n X dd_Tokens_numberedKind_40 rfl 2 rfl ?_
    refine z_bipush (v := 109) X dd_Tokens_numberedKind_41 (by decide) ?_
    refine z_icmp_ne (tgt := 54) X dd_Tokens_numberedKind_43 (by decide) (fun q7 => ?_) (fun q7 => ?_)
    · rw [if_neg q7] at h
      refine z_sub [2, 3] rfl ?_
      exact t_Tokens_numberedKind_54 X H h
    · rw [if_pos q7] at h
      refine z_iload_n X dd_Tokens_numberedKind_46 rfl 3 rfl ?_
      refine z_bipush (v := 8) X dd_Tokens_numberedKind_47 (by decide) ?_
      refine z_icmp_ge (tgt := 54) X dd_Tokens_numberedKind_49 (by decide) (fun q10 => ?_) (fun q10 => ?_)
      · rw [if_pos q10] at h
        refine z_sub [2, 3] rfl ?_
        exact t_Tokens_numberedKind_54 X H h
      · rw [if_neg q10] at h
        refine z_iconst (v := 3) X dd_Tokens_numberedKind_52 (by decide) ?_
        obtain rfl := Option.some.inj h
        exact z_iret X H.1 H.2.1 H.2.2.1 dd_Tokens_numberedKind_53
  · rw [if_neg q6] at h
    refine z_aload_n X dd_Tokens_numberedKind_21 rfl 1 rfl ?_
    obtain ⟨v11, ev11, h⟩ := zb h
    refine z_get (j := 1) X dd_Tokens_numberedKind_22 kc_3 ki_3 (by decide) km_418 (zgr_v ev11) ?_
    refine z_aload_n X dd_Tokens_numberedKind_25 rfl 1 rfl ?_
    obtain ⟨v12, ev12, h⟩ := zb h
    refine z_get (j := 3) X dd_Tokens_numberedKind_26 kc_3 ki_3 (by decide) km_422 (zgi_v ev12) ?_
    refine z_iload_n X dd_Tokens_numberedKind_29 rfl 0 rfl ?_
    refine z_bipush (v := 11) X dd_Tokens_numberedKind_30 (by decide) ?_
    refine z_imul X dd_Tokens_numberedKind_32 ?_
    refine z_iconst (v := 1) X dd_Tokens_numberedKind_33 (by decide) ?_
    refine z_iadd X dd_Tokens_numberedKind_34 ?_
    refine z_iload_n X dd_Tokens_numberedKind_35 rfl 3 rfl ?_
    refine z_iadd X dd_Tokens_numberedKind_36 ?_
    obtain ⟨c13, ec13, h⟩ := zb h
    refine z_iastore X dd_Tokens_numberedKind_37 rfl ec13 ?_
    refine z_iconst (v := 2) X dd_Tokens_numberedKind_38 (by decide) ?_
    obtain rfl := Option.some.inj h
    exact z_iret X H.1 H.2.1 H.2.2.1 dd_Tokens_numberedKind_39
theorem dd_Preconditions_checkIndex_0 : decode bb_Preconditions_checkIndex 0 = .ok (.iload_n 0, 1) := by decide +kernel
theorem dd_Preconditions_checkIndex_1 : decode bb_Preconditions_checkIndex 1 = .ok (.ifCond .lt 8, 3) := by decide +kernel
theorem dd_Preconditions_checkIndex_4 : decode bb_Preconditions_checkIndex 4 = .ok (.iload_n 0, 1) := by decide +kernel
theorem dd_Preconditions_checkIndex_5 : decode bb_Preconditions_checkIndex 5 = .ok (.iload_n 1, 1) := by decide +kernel
theorem dd_Preconditions_checkIndex_6 : decode bb_Preconditions_checkIndex 6 = .ok (.if_icmp .lt 10, 3) := by decide +kernel
theorem dd_Preconditions_checkIndex_9 : decode bb_Preconditions_checkIndex 9 = .ok (.aload_n 2, 1) := by decide +kernel
theorem dd_Preconditions_checkIndex_10 : decode bb_Preconditions_checkIndex 10 = .ok (.iload_n 0, 1) := by decide +kernel
theorem dd_Preconditions_checkIndex_11 : decode bb_Preconditions_checkIndex 11 = .ok (.iload_n 1, 1) := by decide +kernel
theorem dd_Preconditions_checkIndex_12 : decode bb_Preconditions_checkIndex 12 = .ok (.invokestatic 95, 3) := by decide +kernel
theorem dd_Preconditions_checkIndex_15 : decode bb_Preconditions_checkIndex 15 = .ok (.athrow, 1) := by decide +kernel
theorem dd_Preconditions_checkIndex_16 : decode bb_Preconditions_checkIndex 16 = .ok (.iload_n 0, 1) := by decide +kernel
theorem dd_Preconditions_checkIndex_17 : decode bb_Preconditions_checkIndex 17 = .ok (.ireturn, 1) := by decide +kernel
def f_Preconditions_checkIndex (nf : Nat) (a0 : Int32) (a1 : Int32) (c : Zc) : Option (Int32 × Zc) :=
  if a0 < 0 then (none) else (if a0 < a1 then (some (a0, c)) else (none))
set_option maxRecDepth 100000 in
set_option maxHeartbeats 4000000 in
theorem c_Preconditions_checkIndex_n (l : Launch) {nf : Nat} {a0 : Int32} {a1 : Int32} {c : Zc} {res : Int32 × Zc} (h : f_Preconditions_checkIndex nf a0 a1 c = some res) : zM l yy_Preconditions_checkIndex ww_Preconditions_checkIndex 0 0 0 0 [.int a0, .int a1, .null] c (fun D cid B => zQi D cid B res.1 res.2 c.length 0) := by
  refine z_met (cc := bb_Preconditions_checkIndex) (maxL := 3) (ret := (some (.int))) (by decide +kernel) rfl (Nat.le_of_ble_eq_true rfl) ?_
  intro p e s m args below meth cd D cid B X h1 h2 h3 h4
  have X : zX p s m args cd D cid B bb_Preconditions_checkIndex 3 rr_Preconditions zT := X
  have H : zH s meth B c.length (some (.int)) "checkIndex" := ⟨h1, h2, h4, h3⟩
  unfold f_Preconditions_checkIndex at h
  show Zz p l e (zRm 0 0 0 0) s m args below meth cd _ D cid B 3 0 0 c 0 [(0, .int a0), (1, .int a1), (2, .null)] []
  refine z_iload_n X dd_Preconditions_checkIndex_0 rfl 0 rfl ?_
  refine z_if_lt (tgt := 9) X dd_Preconditions_checkIndex_1 (by decide) (fun q1 => ?_) (fun q1 => ?_)
  · rw [if_pos q1] at h
    cases h
  · rw [if_neg q1] at h
    refine z_iload_n X dd_Preconditions_checkIndex_4 rfl 0 rfl ?_
    refine z_iload_n X dd_Preconditions_checkIndex_5 rfl 1 rfl ?_
    refine z_icmp_lt (tgt := 16) X dd_Preconditions_checkIndex_6 (by decide) (fun q2 => ?_) (fun q2 => ?_)
    · rw [if_pos q2] at h
      refine z_iload_n X dd_Preconditions_checkIndex_16 rfl 0 rfl ?_
      obtain rfl := Option.some.inj h
      exact z_iret X H.1 H.2.1 H.2.2.1 dd_Preconditions_checkIndex_17
    · rw [if_neg q2] at h
      cases h
set_option maxRecDepth 100000 in
set_option maxHeartbeats 4000000 in
theorem c_Preconditions_checkIndex_r (l : Launch) {nf : Nat} {a0 : Int32} {a1 : Int32} {c : Zc} {res : Int32 × Zc} (h : f_Preconditions_checkIndex nf a0 a1 c = some res) : zM l yy_Preconditions_checkIndex ww_Preconditions_checkIndex 0 0 0 0 [.int a0, .int a1, .retAddr 99] c (fun D cid B => zQi D cid B res.1 res.2 c.length 0) := by
  refine z_met (cc := bb_Preconditions_checkIndex) (maxL := 3) (ret := (some (.int))) (by decide +kernel) rfl (Nat.le_of_ble_eq_true rfl) ?_
  intro p e s m args below meth cd D cid B X h1 h2 h3 h4
  have X : zX p s m args cd D cid B bb_Preconditions_checkIndex 3 rr_Preconditions zT := X
  have H : zH s meth B c.length (some (.int)) "checkIndex" := ⟨h1, h2, h4, h3⟩
  unfold f_Preconditions_checkIndex at h
  show Zz p l e (zRm 0 0 0 0) s m args below meth cd _ D cid B 3 0 0 c 0 [(0, .int a0), (1, .int a1), (2, .retAddr 99)] []
  refine z_iload_n X dd_Preconditions_checkIndex_0 rfl 0 rfl ?_
  refine z_if_lt (tgt := 9) X dd_Preconditions_checkIndex_1 (by decide) (fun q1 => ?_) (fun q1 => ?_)
  · rw [if_pos q1] at h
    cases h
  · rw [if_neg q1] at h
    refine z_iload_n X dd_Preconditions_checkIndex_4 rfl 0 rfl ?_
    refine z_iload_n X dd_Preconditions_checkIndex_5 rfl 1 rfl ?_
    refine z_icmp_lt (tgt := 16) X dd_Preconditions_checkIndex_6 (by decide) (fun q2 => ?_) (fun q2 => ?_)
    · rw [if_pos q2] at h
      refine z_iload_n X dd_Preconditions_checkIndex_16 rfl 0 rfl ?_
      obtain rfl := Option.some.inj h
      exact z_iret X H.1 H.2.1 H.2.2.1 dd_Preconditions_checkIndex_17
    · rw [if_neg q2] at h
      cases h
theorem dd_String_checkIndex_0 : decode bb_String_checkIndex 0 = .ok (.iload_n 0, 1) := by decide +kernel
theorem dd_String_checkIndex_1 : decode bb_String_checkIndex 1 = .ok (.iload_n 1, 1) := by decide +kernel
theorem dd_String_checkIndex_2 : decode bb_String_checkIndex 2 = .ok (.getstatic 1053, 3) := by decide +kernel
theorem dd_String_checkIndex_5 : decode bb_String_checkIndex 5 = .ok (.invokestatic 1059, 3) := by decide +kernel
theorem dd_String_checkIndex_8 : decode bb_String_checkIndex 8 = .ok (.pop, 1) := by decide +kernel
theorem dd_String_checkIndex_9 : decode bb_String_checkIndex 9 = .ok (.return_, 1) := by decide +kernel
def f_String_checkIndex (nf : Nat) (a0 : Int32) (a1 : Int32) (c : Zc) : Option (Zc) :=
  (f_Preconditions_checkIndex nf a0 a1 c).bind fun q1 => some q1.2
set_option maxRecDepth 100000 in
set_option maxHeartbeats 4000000 in
theorem c_String_checkIndex (l : Launch) {nf : Nat} {a0 : Int32} {a1 : Int32} {c : Zc} {res : Zc} (h : f_String_checkIndex nf a0 a1 c = some res) : zM l yy_String_checkIndex ww_String_checkIndex 1 22 0 0 [.int a0, .int a1] c (fun D cid B => zQv D cid B res c.length 0) := by
  refine z_met (cc := bb_String_checkIndex) (maxL := 2) (ret := none) (by decide +kernel) rfl (Nat.le_of_ble_eq_true rfl) ?_
  intro p e s m args below meth cd D cid B X h1 h2 h3 h4
  have X : zX p s m args cd D cid B bb_String_checkIndex 2 rr_String zT := X
  have H : zH s meth B c.length none "checkIndex" := ⟨h1, h2, h4, h3⟩
  unfold f_String_checkIndex at h
  show Zz p l e (zRm 1 22 0 0) s m args below meth cd _ D cid B 2 0 0 c 0 [(0, .int a0), (1, .int a1)] []
  refine z_iload_n X dd_String_checkIndex_0 rfl 0 rfl ?_
  refine z_iload_n X dd_String_checkIndex_1 rfl 1 rfl ?_
  refine z_getsF X dd_String_checkIndex_2 km_923 ?_ ?_
  · obtain ⟨q1, eq1, h⟩ := zb h
    refine z_callSi X [.int a0, .int a1,  .null] rfl dd_String_checkIndex_5 (c_Preconditions_checkIndex_n l eq1) (va_cwS 3 X.1.2.2.2.2 (zg_S km_975 km_976 km_143 km_977) rfl rfl rfl (by decide +kernel) ⟨Nat.le_of_ble_eq_true rfl, Nat.le_of_ble_eq_true rfl⟩) rfl (Nat.le_of_ble_eq_true rfl) ⟨Nat.le_of_ble_eq_true rfl, Nat.le_of_ble_eq_true rfl⟩ ?_
    refine z_pop X dd_String_checkIndex_8 rfl ?_
    obtain rfl := Option.some.inj h
    exact z_vret X H.1 H.2.1 H.2.2.1 dd_String_checkIndex_9
  · obtain ⟨q1, eq1, h⟩ := zb h
    refine z_callSi X [.int a0, .int a1,  (.retAddr 99)] rfl dd_String_checkIndex_5 (c_Preconditions_checkIndex_r l eq1) (va_cwS 3 X.1.2.2.2.2 (zg_S km_975 km_976 km_143 km_977) rfl rfl rfl (by decide +kernel) ⟨Nat.le_of_ble_eq_true rfl, Nat.le_of_ble_eq_true rfl⟩) rfl (Nat.le_of_ble_eq_true rfl) ⟨Nat.le_of_ble_eq_true rfl, Nat.le_of_ble_eq_true rfl⟩ ?_
    refine z_pop X dd_String_checkIndex_8 rfl ?_
    obtain rfl := Option.some.inj h
    exact z_vret X H.1 H.2.1 H.2.2.1 dd_String_checkIndex_9
theorem dd_StringLatin1_charAt_0 : decode bb_StringLatin1_charAt 0 = .ok (.iload_n 1, 1) := by decide +kernel
theorem dd_StringLatin1_charAt_1 : decode bb_StringLatin1_charAt 1 = .ok (.aload_n 0, 1) := by decide +kernel
theorem dd_StringLatin1_charAt_2 : decode bb_StringLatin1_charAt 2 = .ok (.arraylength, 1) := by decide +kernel
theorem dd_StringLatin1_charAt_3 : decode bb_StringLatin1_charAt 3 = .ok (.invokestatic 9, 3) := by decide +kernel
theorem dd_StringLatin1_charAt_6 : decode bb_StringLatin1_charAt 6 = .ok (.aload_n 0, 1) := by decide +kernel
theorem dd_StringLatin1_charAt_7 : decode bb_StringLatin1_charAt 7 = .ok (.iload_n 1, 1) := by decide +kernel
theorem dd_StringLatin1_charAt_8 : decode bb_StringLatin1_charAt 8 = .ok (.baload, 1) := by decide +kernel
theorem dd_StringLatin1_charAt_9 : decode bb_StringLatin1_charAt 9 = .ok (.sipush 255, 3) := by decide +kernel
theorem dd_StringLatin1_charAt_12 : decode bb_StringLatin1_charAt 12 = .ok (.iand, 1) := by decide +kernel
theorem dd_StringLatin1_charAt_13 : decode bb_StringLatin1_charAt 13 = .ok (.i2c, 1) := by decide +kernel
theorem dd_StringLatin1_charAt_14 : decode bb_StringLatin1_charAt 14 = .ok (.ireturn, 1) := by decide +kernel
def f_StringLatin1_charAt (nf : Nat) (a0 : Nat) (a1 : Int32) (c : Zc) : Option (Int32 × Zc) :=
  (zst a0).bind fun u1 => (f_String_checkIndex nf a1 (Int32.ofNat (zs_len.getD a0 0)) c).bind fun q2 => (zsb a0 a1).bind fun v3 => zrn .char (UInt32.toInt32 (Int32.toUInt32 (v3 &&& 255) % 65536)) q2
set_option maxRecDepth 100000 in
set_option maxHeartbeats 4000000 in
theorem c_StringLatin1_charAt (l : Launch) {nf : Nat} {a0 : Nat} {a1 : Int32} {c : Zc} {res : Int32 × Zc} (h : f_StringLatin1_charAt nf a0 a1 c = some res) : zM l yy_StringLatin1_charAt ww_StringLatin1_charAt 2 43 0 0 [zfb a0, .int a1] c (fun D cid B => zQi D cid B res.1 res.2 c.length 0) := by
  refine z_met (cc := bb_StringLatin1_charAt) (maxL := 2) (ret := (some (.char))) (by decide +kernel) rfl (Nat.le_of_ble_eq_true rfl) ?_
  intro p e s m args below meth cd D cid B X h1 h2 h3 h4
  have X : zX p s m args cd D cid B bb_StringLatin1_charAt 2 rr_StringLatin1 zT := X
  have H : zH s meth B c.length (some (.char)) "charAt" := ⟨h1, h2, h4, h3⟩
  unfold f_StringLatin1_charAt at h
  show Zz p l e (zRm 2 43 0 0) s m args below meth cd _ D cid B 2 0 0 c 0 [(0, zfb a0), (1, .int a1)] []
  refine z_iload_n X dd_StringLatin1_charAt_0 rfl 1 rfl ?_
  refine z_aloadT_n X dd_StringLatin1_charAt_1 rfl 0 rfl ?_
  obtain ⟨u1, eu1, h⟩ := zb h
  refine z_alenS X dd_StringLatin1_charAt_2 (zst_s eu1) rfl ?_
  obtain ⟨q2, eq2, h⟩ := zb h
  refine z_callSv X [.int a1, .int (Int32.ofNat (zs_len.getD a0 0))] rfl dd_StringLatin1_charAt_3 (c_String_checkIndex l eq2) (va_cwS 2 X.1.2.2.2.2 (zg_S km_972 km_973 km_140 km_974) rfl rfl rfl (by decide +kernel) ⟨Nat.le_of_ble_eq_true rfl, Nat.le_of_ble_eq_true rfl⟩) rfl (Nat.le_of_ble_eq_true rfl) ⟨Nat.le_of_ble_eq_true rfl, Nat.le_of_ble_eq_true rfl⟩ ?_
  refine z_aloadT_n X dd_StringLatin1_charAt_6 rfl 0 rfl ?_
  refine z_iload_n X dd_StringLatin1_charAt_7 rfl 1 rfl ?_
  obtain ⟨v3, ev3, h⟩ := zb h
  refine z_baldS X dd_StringLatin1_charAt_8 ev3 ?_
  refine z_sipush (v := 255) X dd_StringLatin1_charAt_9 (by decide) ?_
  refine z_iand X dd_StringLatin1_charAt_12 ?_
  refine z_i2c X dd_StringLatin1_charAt_13 ?_
  obtain ⟨hz, h⟩ := zrn_s h
  obtain rfl := h
  exact z_zret X H.1 (zn_c hz) H.2.1 H.2.2.1 dd_StringLatin1_charAt_14
theorem dd_String_charAt_0 : decode bb_String_charAt 0 = .ok (.aload_n 0, 1) := by decide +kernel
theorem dd_String_charAt_1 : decode bb_String_charAt 1 = .ok (.invokevirtual 492, 3) := by decide +kernel
theorem dd_String_charAt_4 : decode bb_String_charAt 4 = .ok (.ifCond .eq 12, 3) := by decide +kernel
theorem dd_String_charAt_7 : decode bb_String_charAt 7 = .ok (.aload_n 0, 1) := by decide +kernel
theorem dd_String_charAt_8 : decode bb_String_charAt 8 = .ok (.getfield 9, 3) := by decide +kernel
theorem dd_String_charAt_11 : decode bb_String_charAt 11 = .ok (.iload_n 1, 1) := by decide +kernel
theorem dd_String_charAt_12 : decode bb_String_charAt 12 = .ok (.invokestatic 495, 3) := by decide +kernel
theorem dd_String_charAt_15 : decode bb_String_charAt 15 = .ok (.ireturn, 1) := by decide +kernel
theorem dd_String_charAt_16 : decode bb_String_charAt 16 = .ok (.aload_n 0, 1) := by decide +kernel
theorem dd_String_charAt_17 : decode bb_String_charAt 17 = .ok (.getfield 9, 3) := by decide +kernel
theorem dd_String_charAt_20 : decode bb_String_charAt 20 = .ok (.iload_n 1, 1) := by decide +kernel
theorem dd_String_charAt_21 : decode bb_String_charAt 21 = .ok (.invokestatic 498, 3) := by decide +kernel
theorem dd_String_charAt_24 : decode bb_String_charAt 24 = .ok (.ireturn, 1) := by decide +kernel
def f_String_charAt (nf : Nat) (a0 : Nat) (a1 : Int32) (c : Zc) : Option (Int32 × Zc) :=
  (zst a0).bind fun w2 => (f_String_isLatin1 nf a0 c).bind fun q1 => if q1.1 = 0 then ((zst a0).bind fun u4 => none) else ((zst a0).bind fun u5 => (f_StringLatin1_charAt nf a0 a1 q1.2).bind fun q6 => zrn .char q6.1 q6.2)
set_option maxRecDepth 100000 in
set_option maxHeartbeats 4000000 in
theorem c_String_charAt (l : Launch) {nf : Nat} {a0 : Nat} {a1 : Int32} {c : Zc} {res : Int32 × Zc} (h : f_String_charAt nf a0 a1 c = some res) : zM l yy_String_charAt ww_String_charAt 3 64 0 0 [zfs a0, .int a1] c (fun D cid B => zQi D cid B res.1 res.2 c.length 0) := by
  refine z_met (cc := bb_String_charAt) (maxL := 2) (ret := (some (.char))) (by decide +kernel) rfl (Nat.le_of_ble_eq_true rfl) ?_
  intro p e s m args below meth cd D cid B X h1 h2 h3 h4
  have X : zX p s m args cd D cid B bb_String_charAt 2 rr_String zT := X
  have H : zH s meth B c.length (some (.char)) "charAt" := ⟨h1, h2, h4, h3⟩
  unfold f_String_charAt at h
  show Zz p l e (zRm 3 64 0 0) s m args below meth cd _ D cid B 2 0 0 c 0 [(0, zfs a0), (1, .int a1)] []
  refine z_aloadS_n X dd_String_charAt_0 rfl 0 rfl ?_
  obtain ⟨w2, ew2, h⟩ := zb h
  obtain ⟨q1, eq1, h⟩ := zb h
  refine z_callXi X [] rfl dd_String_charAt_1 (c_String_isLatin1 l eq1) (cwV 0 X.1.2.2.2.2 (zg_V km_878 km_879 km_880 km_140 km_881) rfl rfl rfl (by decide +kernel) ⟨Nat.le_of_ble_eq_true rfl, Nat.le_of_ble_eq_true rfl⟩) (zst_s ew2) rfl (Nat.le_of_ble_eq_true rfl) ⟨Nat.le_of_ble_eq_true rfl, Nat.le_of_ble_eq_true rfl⟩ ?_
  refine z_if_eq (tgt := 16) X dd_String_charAt_4 (by decide) (fun q3 => ?_) (fun q3 => ?_)
  · rw [if_pos q3] at h
    refine z_aloadS_n X dd_String_charAt_16 rfl 0 rfl ?_
    obtain ⟨u4, eu4, h⟩ := zb h
    refine z_getSv X dd_String_charAt_17 (zst_s eu4) km_2177 ?_
    refine z_iload_n X dd_String_charAt_20 rfl 1 rfl ?_
    cases h
  · rw [if_neg q3] at h
    refine z_aloadS_n X dd_String_charAt_7 rfl 0 rfl ?_
    obtain ⟨u5, eu5, h⟩ := zb h
    refine z_getSv X dd_String_charAt_8 (zst_s eu5) km_2177 ?_
    refine z_iload_n X dd_String_charAt_11 rfl 1 rfl ?_
    obtain ⟨q6, eq6, h⟩ := zb h
    refine z_callSi X [zfb a0, .int a1] rfl dd_String_charAt_12 (c_StringLatin1_charAt l eq6) (va_cwS 2 X.1.2.2.2.2 (zg_S km_969 km_970 km_141 km_971) rfl rfl rfl (by decide +kernel) ⟨Nat.le_of_ble_eq_true rfl, Nat.le_of_ble_eq_true rfl⟩) rfl (Nat.le_of_ble_eq_true rfl) ⟨Nat.le_of_ble_eq_true rfl, Nat.le_of_ble_eq_true rfl⟩ ?_
    obtain ⟨hz, h⟩ := zrn_s h
    obtain rfl := h
    exact z_zret X H.1 (zn_c hz) H.2.1 H.2.2.1 dd_String_charAt_15
theorem dd_Tokens_isSame_0 : decode bb_Tokens_isSame 0 = .ok (.iload_n 1, 1) := by decide +kernel
theorem dd_Tokens_isSame_1 : decode bb_Tokens_isSame 1 = .ok (.istore 4, 2) := by decide +kernel
theorem dd_Tokens_isSame_3 : decode bb_Tokens_isSame 3 = .ok (.iload 4, 2) := by decide +kernel
theorem dd_Tokens_isSame_5 : decode bb_Tokens_isSame 5 = .ok (.iload_n 2, 1) := by decide +kernel
theorem dd_Tokens_isSame_6 : decode bb_Tokens_isSame 6 = .ok (.if_icmp .ge 32, 3) := by decide +kernel
theorem dd_Tokens_isSame_9 : decode bb_Tokens_isSame 9 = .ok (.ldc 83, 2) := by decide +kernel
theorem dd_Tokens_isSame_11 : decode bb_Tokens_isSame 11 = .ok (.iload_n 3, 1) := by decide +kernel
theorem dd_Tokens_isSame_12 : decode bb_Tokens_isSame 12 = .ok (.iload 4, 2) := by decide +kernel
theorem dd_Tokens_isSame_14 : decode bb_Tokens_isSame 14 = .ok (.iadd, 1) := by decide +kernel
theorem dd_Tokens_isSame_15 : decode bb_Tokens_isSame 15 = .ok (.iload_n 1, 1) := by decide +kernel
theorem dd_Tokens_isSame_16 : decode bb_Tokens_isSame 16 = .ok (.isub, 1) := by decide +kernel
theorem dd_Tokens_isSame_17 : decode bb_Tokens_isSame 17 = .ok (.invokevirtual 88, 3) := by decide +kernel
theorem dd_Tokens_isSame_20 : decode bb_Tokens_isSame 20 = .ok (.aload_n 0, 1) := by decide +kernel
theorem dd_Tokens_isSame_21 : decode bb_Tokens_isSame 21 = .ok (.getfield 25, 3) := by decide +kernel
theorem dd_Tokens_isSame_24 : decode bb_Tokens_isSame 24 = .ok (.iload 4, 2) := by decide +kernel
theorem dd_Tokens_isSame_26 : decode bb_Tokens_isSame 26 = .ok (.baload, 1) := by decide +kernel
theorem dd_Tokens_isSame_27 : decode bb_Tokens_isSame 27 = .ok (.if_icmp .eq 5, 3) := by decide +kernel
theorem dd_Tokens_isSame_30 : decode bb_Tokens_isSame 30 = .ok (.iconst 0, 1) := by decide +kernel
theorem dd_Tokens_isSame_31 : decode bb_Tokens_isSame 31 = .ok (.ireturn, 1) := by decide +kernel
theorem dd_Tokens_isSame_32 : decode bb_Tokens_isSame 32 = .ok (.iinc 4 1, 3) := by decide +kernel
theorem dd_Tokens_isSame_35 : decode bb_Tokens_isSame 35 = .ok (.goto (-32), 3) := by decide +kernel
theorem dd_Tokens_isSame_38 : decode bb_Tokens_isSame 38 = .ok (.iconst 1, 1) := by decide +kernel
theorem dd_Tokens_isSame_39 : decode bb_Tokens_isSame 39 = .ok (.ireturn, 1) := by decide +kernel
def g_Tokens_isSame_3 (nf : Nat) (x0 : Nat) (x1 : Int32) (x2 : Int32) (x3 : Int32) (x4 : Int32) (c : Zc) : Option ((Nat × Int32 × Int32 × Int32 × Int32 × Zc) ⊕ ((Zc) ⊕ (Zc))) :=
  if x2 ≤ x4 then (some (.inr (.inr c))) else ((zst 2).bind fun w3 => (f_String_charAt nf 2 ((x3 + x4) - x1) c).bind fun q2 => (zgr q2.2 x0 3 4).bind fun v4 => (zai q2.2 v4 1 x4).bind fun v5 => if q2.1 = v5 then (some (.inl (x0, x1, x2, x3, (x4 + 1), q2.2))) else (some (.inr (.inl q2.2))))
def f_Tokens_isSame_3 (nf : Nat) (x0 : Nat) (x1 : Int32) (x2 : Int32) (x3 : Int32) (x4 : Int32) (c : Zc) : Option (Int32 × Zc) :=
  (zlp (fun a => g_Tokens_isSame_3 nf a.1 a.2.1 a.2.2.1 a.2.2.2.1 a.2.2.2.2.1 a.2.2.2.2.2) nf (x0, x1, x2, x3, x4, c)).bind fun b => Sum.elim (fun b => zrz 0 b) (fun b => zrz 1 b) b
def f_Tokens_isSame (nf : Nat) (a0 : Nat) (a1 : Int32) (a2 : Int32) (a3 : Int32) (c : Zc) : Option (Int32 × Zc) :=
  f_Tokens_isSame_3 nf a0 a1 a2 a3 a1 c
set_option maxRecDepth 100000 in
set_option maxHeartbeats 4000000 in
theorem u_Tokens_isSame_3  (X : zX p s m args cd D cid B bb_Tokens_isSame 5 rr_Tokens zT) (H : zH s meth B n0 (some (.boolean)) "isSame") {nf : Nat} {x0 : Nat} {x1 : Int32} {x2 : Int32} {x3 : Int32} {x4 : Int32} {c : Zc} {r : (Nat × Int32 × Int32 × Int32 × Int32 × Zc) ⊕ ((Zc) ⊕ (Zc))} (h : g_Tokens_isSame_3 nf x0 x1 x2 x3 x4 c = some r) (k0 : ∀ a, r = .inl a → (fun a : Nat × Int32 × Int32 × Int32 × Int32 × Zc => Zz p l e (zRm 4 85 0 0) s m args below meth cd Q D cid B 5 0 0 a.2.2.2.2.2 3 [(0, .ref a.1), (1, .int a.2.1), (2, .int a.2.2.1), (3, .int a.2.2.2.1), (4, .int a.2.2.2.2.1)] []) a) (k1 : ∀ b, r = .inr b → (fun b : (Zc) ⊕ (Zc) => Sum.elim (fun b => Zz p l e (zRm 4 85 0 0) s m args below meth cd Q D cid B 5 0 0 b 30 [] []) (fun b => Zz p l e (zRm 4 85 0 0) s m args below meth cd Q D cid B 5 0 0 b 38 [] []) b) b) : Zz p l e (zRm 4 85 0 0) s m args below meth cd Q D cid B 5 0 0 c 3 [(0, .ref x0), (1, .int x1), (2, .int x2), (3, .int x3), (4, .int x4)] [] := by
  unfold g_Tokens_isSame_3 at h
  refine z_iload X dd_Tokens_isSame_3 4 rfl ?_
  refine z_iload_n X dd_Tokens_isSame_5 rfl 2 rfl ?_
  refine z_icmp_ge (tgt := 38) X dd_Tokens_isSame_6 (by decide) (fun q1 => ?_) (fun q1 => ?_)
  · rw [if_pos q1] at h
    refine z_sub [] rfl ?_
    obtain rfl := Option.some.inj h
    exact k1 _ rfl
  · rw [if_neg q1] at h
    refine z_ldcS (i := 2) X dd_Tokens_isSame_9 (by decide) rfl rfl ?_
    refine z_iload_n X dd_Tokens_isSame_11 rfl 3 rfl ?_
    refine z_iload X dd_Tokens_isSame_12 4 rfl ?_
    refine z_iadd X dd_Tokens_isSame_14 ?_
    refine z_iload_n X dd_Tokens_isSame_15 rfl 1 rfl ?_
    refine z_isub X dd_Tokens_isSame_16 ?_
    obtain ⟨w3, ew3, h⟩ := zb h
    obtain ⟨q2, eq2, h⟩ := zb h
    refine z_callXi X [.int ((x3 + x4) - x1)] rfl dd_Tokens_isSame_17 (c_String_charAt l eq2) (cwV 1 X.1.2.2.2.2 (zg_V km_965 km_966 km_967 km_140 km_968) rfl rfl rfl (by decide +kernel) ⟨Nat.le_of_ble_eq_true rfl, Nat.le_of_ble_eq_true rfl⟩) (zst_s ew3) rfl (Nat.le_of_ble_eq_true rfl) ⟨Nat.le_of_ble_eq_true rfl, Nat.le_of_ble_eq_true rfl⟩ ?_
    refine z_aload_n X dd_Tokens_isSame_20 rfl 0 rfl ?_
    obtain ⟨v4, ev4, h⟩ := zb h
    refine z_get (j := 4) X dd_Tokens_isSame_21 kc_3 ki_3 (by decide) km_424 (zgr_v ev4) ?_
    refine z_iload X dd_Tokens_isSame_24 4 rfl ?_
    obtain ⟨v5, ev5, h⟩ := zb h
    refine z_baload X dd_Tokens_isSame_26 rfl ev5 ?_
    refine z_icmp_eq (tgt := 32) X dd_Tokens_isSame_27 (by decide) (fun q6 => ?_) (fun q6 => ?_)
    · rw [if_pos q6] at h
      refine z_iinc (v := (x4 + 1)) (lv' := [(4, .int (x4 + 1)), (0, .ref x0), (1, .int x1), (2, .int x2), (3, .int x3)]) X dd_Tokens_isSame_32 4 rfl rfl (by decide) rfl ?_
      refine z_goto (tgt := 3) X dd_Tokens_isSame_35 (by decide) ?_
      refine z_sub [1, 2, 3, 4, 0] rfl ?_
      obtain rfl := Option.some.inj h
      exact k0 _ rfl
    · rw [if_neg q6] at h
      refine z_sub [] rfl ?_
      obtain rfl := Option.some.inj h
      exact k1 _ rfl
set_option maxRecDepth 100000 in
set_option maxHeartbeats 4000000 in
theorem t_Tokens_isSame_3  (X : zX p s m args cd D cid B bb_Tokens_isSame 5 rr_Tokens zT) (H : zH s meth B n0 (some (.boolean)) "isSame") {nf : Nat} {x0 : Nat} {x1 : Int32} {x2 : Int32} {x3 : Int32} {x4 : Int32} {c : Zc} {res : Int32 × Zc} (h : f_Tokens_isSame_3 nf x0 x1 x2 x3 x4 c = some res) : Zz p l e (zRm 4 85 0 0) s m args below meth cd (MQ below (zQi D cid B res.1 res.2 n0 0) args s 0 0 (fun q => B ≤ q)) D cid B 5 0 0 c 3 [(0, .ref x0), (1, .int x1), (2, .int x2), (3, .int x3), (4, .int x4)] [] := by
  unfold f_Tokens_isSame_3 at h
  obtain ⟨b, eb, h⟩ := zb h
  refine zlp_ok (P := fun a : Nat × Int32 × Int32 × Int32 × Int32 × Zc => Zz p l e (zRm 4 85 0 0) s m args below meth cd _ D cid B 5 0 0 a.2.2.2.2.2 3 [(0, .ref a.1), (1, .int a.2.1), (2, .int a.2.2.1), (3, .int a.2.2.2.1), (4, .int a.2.2.2.2.1)] []) (G := fun b : (Zc) ⊕ (Zc) => Sum.elim (fun b => Zz p l e (zRm 4 85 0 0) s m args below meth cd _ D cid B 5 0 0 b 30 [] []) (fun b => Zz p l e (zRm 4 85 0 0) s m args below meth cd _ D cid B 5 0 0 b 38 [] []) b) (fun a r ha k0 k1 => u_Tokens_isSame_3 X H ha k0 k1) nf _ b eb ?_
  rcases b with b | b
  · simp only [Sum.elim_inl] at h ⊢
    refine z_iconst (v := 0) X dd_Tokens_isSame_30 (by decide) ?_
    obtain ⟨hz, h⟩ := zrz_s h
    obtain rfl := h
    exact z_zret X H.1 (zn_z hz) H.2.1 H.2.2.1 dd_Tokens_isSame_31
  · simp only [Sum.elim_inr] at h ⊢
    refine z_iconst (v := 1) X dd_Tokens_isSame_38 (by decide) ?_
    obtain ⟨hz, h⟩ := zrz_s h
    obtain rfl := h
    exact z_zret X H.1 (zn_z hz) H.2.1 H.2.2.1 dd_Tokens_isSame_39
set_option maxRecDepth 100000 in
set_option maxHeartbeats 4000000 in
theorem c_Tokens_isSame (l : Launch) {nf : Nat} {a0 : Nat} {a1 : Int32} {a2 : Int32} {a3 : Int32} {c : Zc} {res : Int32 × Zc} (h : f_Tokens_isSame nf a0 a1 a2 a3 c = some res) : zM l yy_Tokens_isSame ww_Tokens_isSame 4 85 0 0 [.ref a0, .int a1, .int a2, .int a3] c (fun D cid B => zQi D cid B res.1 res.2 c.length 0) := by
  refine z_met (cc := bb_Tokens_isSame) (maxL := 5) (ret := (some (.boolean))) (by decide +kernel) rfl (Nat.le_of_ble_eq_true rfl) ?_
  intro p e s m args below meth cd D cid B X h1 h2 h3 h4
  have X : zX p s m args cd D cid B bb_Tokens_isSame 5 rr_Tokens zT := X
  have H : zH s meth B c.length (some (.boolean)) "isSame" := ⟨h1, h2, h4, h3⟩
  unfold f_Tokens_isSame at h
  show Zz p l e (zRm 4 85 0 0) s m args below meth cd _ D cid B 5 0 0 c 0 [(0, .ref a0), (1, .int a1), (2, .int a2), (3, .int a3)] []
  refine z_iload_n X dd_Tokens_isSame_0 rfl 1 rfl ?_
  refine z_istore (lv' := [(4, .int a1), (0, .ref a0), (1, .int a1), (2, .int a2), (3, .int a3)]) X dd_Tokens_isSame_1 (by decide) rfl ?_
  refine z_sub [1, 2, 3, 4, 0] rfl ?_
  exact t_Tokens_isSame_3 X H h
end ZzM
