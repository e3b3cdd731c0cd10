section ZzM
variable {p : Program} {l : Launch} {e : Env} {s : State} {m : MethodId} {args : Array Value} {below : List Frame} {meth : Method} {cd : Code} {Q : State → Prop} {D : va_G} {cid : Nat → ClassId} {B n0 : Nat}
theorem dd_Reader_take_0 : decode bb_Reader_take 0 = .ok (.iload_n 1, 1) := by decide +kernel
theorem dd_Reader_take_1 : decode bb_Reader_take 1 = .ok (.ifCond .ne 11, 3) := by decide +kernel
theorem dd_Reader_take_4 : decode bb_Reader_take 4 = .ok (.aload_n 0, 1) := by decide +kernel
theorem dd_Reader_take_5 : decode bb_Reader_take 5 = .ok (.iconst 1, 1) := by decide +kernel
theorem dd_Reader_take_6 : decode bb_Reader_take 6 = .ok (.invokevirtual 133, 3) := by decide +kernel
theorem dd_Reader_take_9 : decode bb_Reader_take 9 = .ok (.goto 231, 3) := by decide +kernel
theorem dd_Reader_take_12 : decode bb_Reader_take 12 = .ok (.aload_n 0, 1) := by decide +kernel
theorem dd_Reader_take_13 : decode bb_Reader_take 13 = .ok (.getfield 87, 3) := by decide +kernel
theorem dd_Reader_take_16 : decode bb_Reader_take 16 = .ok (.getfield 136, 3) := by decide +kernel
theorem dd_Reader_take_19 : decode bb_Reader_take 19 = .ok (.bipush 10, 2) := by decide +kernel
theorem dd_Reader_take_21 : decode bb_Reader_take 21 = .ok (.if_icmp .le 11, 3) := by decide +kernel
theorem dd_Reader_take_24 : decode bb_Reader_take 24 = .ok (.aload_n 0, 1) := by decide +kernel
theorem dd_Reader_take_25 : decode bb_Reader_take 25 = .ok (.iconst 3, 1) := by decide +kernel
theorem dd_Reader_take_26 : decode bb_Reader_take 26 = .ok (.invokevirtual 133, 3) := by decide +kernel
theorem dd_Reader_take_29 : decode bb_Reader_take 29 = .ok (.goto 211, 3) := by decide +kernel
theorem dd_Reader_take_32 : decode bb_Reader_take 32 = .ok (.aload_n 0, 1) := by decide +kernel
theorem dd_Reader_take_33 : decode bb_Reader_take 33 = .ok (.getfield 33, 3) := by decide +kernel
theorem dd_Reader_take_36 : decode bb_Reader_take 36 = .ok (.iconst 2, 1) := by decide +kernel
theorem dd_Reader_take_37 : decode bb_Reader_take 37 = .ok (.if_icmp .gt 11, 3) := by decide +kernel
theorem dd_Reader_take_40 : decode bb_Reader_take 40 = .ok (.aload_n 0, 1) := by decide +kernel
theorem dd_Reader_take_41 : decode bb_Reader_take 41 = .ok (.iload_n 1, 1) := by decide +kernel
theorem dd_Reader_take_42 : decode bb_Reader_take 42 = .ok (.invokevirtual 139, 3) := by decide +kernel
theorem dd_Reader_take_45 : decode bb_Reader_take 45 = .ok (.goto 195, 3) := by decide +kernel
theorem dd_Reader_take_48 : decode bb_Reader_take 48 = .ok (.aload_n 0, 1) := by decide +kernel
theorem dd_Reader_take_49 : decode bb_Reader_take 49 = .ok (.getfield 33, 3) := by decide +kernel
theorem dd_Reader_take_52 : decode bb_Reader_take 52 = .ok (.bipush 6, 2) := by decide +kernel
theorem dd_Reader_take_54 : decode bb_Reader_take 54 = .ok (.if_icmp .gt 11, 3) := by decide +kernel
theorem dd_Reader_take_57 : decode bb_Reader_take 57 = .ok (.aload_n 0, 1) := by decide +kernel
theorem dd_Reader_take_58 : decode bb_Reader_take 58 = .ok (.iload_n 1, 1) := by decide +kernel
theorem dd_Reader_take_59 : decode bb_Reader_take 59 = .ok (.invokevirtual 142, 3) := by decide +kernel
theorem dd_Reader_take_62 : decode bb_Reader_take 62 = .ok (.goto 178, 3) := by decide +kernel
theorem dd_Reader_take_65 : decode bb_Reader_take 65 = .ok (.aload_n 0, 1) := by decide +kernel
theorem dd_Reader_take_66 : decode bb_Reader_take 66 = .ok (.getfield 33, 3) := by decide +kernel
theorem dd_Reader_take_69 : decode bb_Reader_take 69 = .ok (.bipush 7, 2) := by decide +kernel
theorem dd_Reader_take_71 : decode bb_Reader_take 71 = .ok (.if_icmp .ne 11, 3) := by decide +kernel
theorem dd_Reader_take_74 : decode bb_Reader_take 74 = .ok (.aload_n 0, 1) := by decide +kernel
theorem dd_Reader_take_75 : decode bb_Reader_take 75 = .ok (.iload_n 1, 1) := by decide +kernel
theorem dd_Reader_take_76 : decode bb_Reader_take 76 = .ok (.invokevirtual 145, 3) := by decide +kernel
theorem dd_Reader_take_79 : decode bb_Reader_take 79 = .ok (.goto 161, 3) := by decide +kernel
theorem dd_Reader_take_82 : decode bb_Reader_take 82 = .ok (.aload_n 0, 1) := by decide +kernel
theorem dd_Reader_take_83 : decode bb_Reader_take 83 = .ok (.getfield 33, 3) := by decide +kernel
theorem dd_Reader_take_86 : decode bb_Reader_take 86 = .ok (.bipush 11, 2) := by decide +kernel
theorem dd_Reader_take_88 : decode bb_Reader_take 88 = .ok (.if_icmp .gt 11, 3) := by decide +kernel
theorem dd_Reader_take_91 : decode bb_Reader_take 91 = .ok (.aload_n 0, 1) := by decide +kernel
theorem dd_Reader_take_92 : decode bb_Reader_take 92 = .ok (.iload_n 1, 1) := by decide +kernel
theorem dd_Reader_take_93 : decode bb_Reader_take 93 = .ok (.invokevirtual 148, 3) := by decide +kernel
theorem dd_Reader_take_96 : decode bb_Reader_take 96 = .ok (.goto 144, 3) := by decide +kernel
theorem dd_Reader_take_99 : decode bb_Reader_take 99 = .ok (.aload_n 0, 1) := by decide +kernel
theorem dd_Reader_take_100 : decode bb_Reader_take 100 = .ok (.getfield 33, 3) := by decide +kernel
theorem dd_Reader_take_103 : decode bb_Reader_take 103 = .ok (.bipush 13, 2) := by decide +kernel
theorem dd_Reader_take_105 : decode bb_Reader_take 105 = .ok (.if_icmp .gt 11, 3) := by decide +kernel
theorem dd_Reader_take_108 : decode bb_Reader_take 108 = .ok (.aload_n 0, 1) := by decide +kernel
theorem dd_Reader_take_109 : decode bb_Reader_take 109 = .ok (.iload_n 1, 1) := by decide +kernel
theorem dd_Reader_take_110 : decode bb_Reader_take 110 = .ok (.invokevirtual 151, 3) := by decide +kernel
theorem dd_Reader_take_113 : decode bb_Reader_take 113 = .ok (.goto 127, 3) := by decide +kernel
theorem dd_Reader_take_116 : decode bb_Reader_take 116 = .ok (.aload_n 0, 1) := by decide +kernel
theorem dd_Reader_take_117 : decode bb_Reader_take 117 = .ok (.getfield 33, 3) := by decide +kernel
theorem dd_Reader_take_120 : decode bb_Reader_take 120 = .ok (.bipush 15, 2) := by decide +kernel
theorem dd_Reader_take_122 : decode bb_Reader_take 122 = .ok (.if_icmp .gt 11, 3) := by decide +kernel
theorem dd_Reader_take_125 : decode bb_Reader_take 125 = .ok (.aload_n 0, 1) := by decide +kernel
theorem dd_Reader_take_126 : decode bb_Reader_take 126 = .ok (.iload_n 1, 1) := by decide +kernel
theorem dd_Reader_take_127 : decode bb_Reader_take 127 = .ok (.invokevirtual 154, 3) := by decide +kernel
theorem dd_Reader_take_130 : decode bb_Reader_take 130 = .ok (.goto 110, 3) := by decide +kernel
theorem dd_Reader_take_133 : decode bb_Reader_take 133 = .ok (.aload_n 0, 1) := by decide +kernel
theorem dd_Reader_take_134 : decode bb_Reader_take 134 = .ok (.getfield 33, 3) := by decide +kernel
theorem dd_Reader_take_137 : decode bb_Reader_take 137 = .ok (.bipush 16, 2) := by decide +kernel
theorem dd_Reader_take_139 : decode bb_Reader_take 139 = .ok (.if_icmp .ne 11, 3) := by decide +kernel
theorem dd_Reader_take_142 : decode bb_Reader_take 142 = .ok (.aload_n 0, 1) := by decide +kernel
theorem dd_Reader_take_143 : decode bb_Reader_take 143 = .ok (.iload_n 1, 1) := by decide +kernel
theorem dd_Reader_take_144 : decode bb_Reader_take 144 = .ok (.invokevirtual 157, 3) := by decide +kernel
theorem dd_Reader_take_147 : decode bb_Reader_take 147 = .ok (.goto 93, 3) := by decide +kernel
theorem dd_Reader_take_150 : decode bb_Reader_take 150 = .ok (.aload_n 0, 1) := by decide +kernel
theorem dd_Reader_take_151 : decode bb_Reader_take 151 = .ok (.getfield 33, 3) := by decide +kernel
theorem dd_Reader_take_154 : decode bb_Reader_take 154 = .ok (.bipush 17, 2) := by decide +kernel
theorem dd_Reader_take_156 : decode bb_Reader_take 156 = .ok (.if_icmp .ne 11, 3) := by decide +kernel
theorem dd_Reader_take_159 : decode bb_Reader_take 159 = .ok (.aload_n 0, 1) := by decide +kernel
theorem dd_Reader_take_160 : decode bb_Reader_take 160 = .ok (.iload_n 1, 1) := by decide +kernel
theorem dd_Reader_take_161 : decode bb_Reader_take 161 = .ok (.invokevirtual 160, 3) := by decide +kernel
theorem dd_Reader_take_164 : decode bb_Reader_take 164 = .ok (.goto 76, 3) := by decide +kernel
theorem dd_Reader_take_167 : decode bb_Reader_take 167 = .ok (.aload_n 0, 1) := by decide +kernel
theorem dd_Reader_take_168 : decode bb_Reader_take 168 = .ok (.getfield 33, 3) := by decide +kernel
theorem dd_Reader_take_171 : decode bb_Reader_take 171 = .ok (.bipush 18, 2) := by decide +kernel
theorem dd_Reader_take_173 : decode bb_Reader_take 173 = .ok (.if_icmp .ne 11, 3) := by decide +kernel
theorem dd_Reader_take_176 : decode bb_Reader_take 176 = .ok (.aload_n 0, 1) := by decide +kernel
theorem dd_Reader_take_177 : decode bb_Reader_take 177 = .ok (.iload_n 1, 1) := by decide +kernel
theorem dd_Reader_take_178 : decode bb_Reader_take 178 = .ok (.invokevirtual 163, 3) := by decide +kernel
theorem dd_Reader_take_181 : decode bb_Reader_take 181 = .ok (.goto 59, 3) := by decide +kernel
theorem dd_Reader_take_184 : decode bb_Reader_take 184 = .ok (.aload_n 0, 1) := by decide +kernel
theorem dd_Reader_take_185 : decode bb_Reader_take 185 = .ok (.getfield 33, 3) := by decide +kernel
theorem dd_Reader_take_188 : decode bb_Reader_take 188 = .ok (.bipush 20, 2) := by decide +kernel
theorem dd_Reader_take_190 : decode bb_Reader_take 190 = .ok (.if_icmp .gt 11, 3) := by decide +kernel
theorem dd_Reader_take_193 : decode bb_Reader_take 193 = .ok (.aload_n 0, 1) := by decide +kernel
theorem dd_Reader_take_194 : decode bb_Reader_take 194 = .ok (.iload_n 1, 1) := by decide +kernel
theorem dd_Reader_take_195 : decode bb_Reader_take 195 = .ok (.invokevirtual 166, 3) := by decide +kernel
theorem dd_Reader_take_198 : decode bb_Reader_take 198 = .ok (.goto 42, 3) := by decide +kernel
theorem dd_Reader_take_201 : decode bb_Reader_take 201 = .ok (.aload_n 0, 1) := by decide +kernel
theorem dd_Reader_take_202 : decode bb_Reader_take 202 = .ok (.getfield 33, 3) := by decide +kernel
theorem dd_Reader_take_205 : decode bb_Reader_take 205 = .ok (.bipush 21, 2) := by decide +kernel
theorem dd_Reader_take_207 : decode bb_Reader_take 207 = .ok (.if_icmp .ne 11, 3) := by decide +kernel
theorem dd_Reader_take_210 : decode bb_Reader_take 210 = .ok (.aload_n 0, 1) := by decide +kernel
theorem dd_Reader_take_211 : decode bb_Reader_take 211 = .ok (.iload_n 1, 1) := by decide +kernel
theorem dd_Reader_take_212 : decode bb_Reader_take 212 = .ok (.invokevirtual 169, 3) := by decide +kernel
theorem dd_Reader_take_215 : decode bb_Reader_take 215 = .ok (.goto 25, 3) := by decide +kernel
theorem dd_Reader_take_218 : decode bb_Reader_take 218 = .ok (.aload_n 0, 1) := by decide +kernel
theorem dd_Reader_take_219 : decode bb_Reader_take 219 = .ok (.getfield 33, 3) := by decide +kernel
theorem dd_Reader_take_222 : decode bb_Reader_take 222 = .ok (.bipush 22, 2) := by decide +kernel
theorem dd_Reader_take_224 : decode bb_Reader_take 224 = .ok (.if_icmp .ne 11, 3) := by decide +kernel
theorem dd_Reader_take_227 : decode bb_Reader_take 227 = .ok (.aload_n 0, 1) := by decide +kernel
theorem dd_Reader_take_228 : decode bb_Reader_take 228 = .ok (.iload_n 1, 1) := by decide +kernel
theorem dd_Reader_take_229 : decode bb_Reader_take 229 = .ok (.invokevirtual 172, 3) := by decide +kernel
theorem dd_Reader_take_232 : decode bb_Reader_take 232 = .ok (.goto 8, 3) := by decide +kernel
theorem dd_Reader_take_235 : decode bb_Reader_take 235 = .ok (.aload_n 0, 1) := by decide +kernel
theorem dd_Reader_take_236 : decode bb_Reader_take 236 = .ok (.iload_n 1, 1) := by decide +kernel
theorem dd_Reader_take_237 : decode bb_Reader_take 237 = .ok (.invokevirtual 175, 3) := by decide +kernel
theorem dd_Reader_take_240 : decode bb_Reader_take 240 = .ok (.return_, 1) := by decide +kernel
set_option maxRecDepth 100000 in
set_option maxHeartbeats 4000000 in
theorem t_Reader_take_240  (X : zX p s m args cd D cid B bb_Reader_take 2 rr_Reader zT) (H : zH s meth B n0 none "take") {nf : Nat}  {c : Zc} {res : Zc} (h : f_Reader_take_240 nf  c = some res) : Zz p l e (zRm 5 117 0 0) s m args below meth cd (MQ below (zQv D cid B res n0 0) args s 0 0 (fun q => B ≤ q)) D cid B 2 0 0 c 240 [] [] := by
  unfold f_Reader_take_240 at h
  obtain rfl := Option.some.inj h
  exact z_vret X H.1 H.2.1 H.2.2.1 dd_Reader_take_240
set_option maxRecDepth 100000 in
set_option maxHeartbeats 4000000 in
theorem c_Reader_take (l : Launch) {nf : Nat} {a0 : Nat} {a1 : Int32} {c : Zc} {res : Zc} (h : f_Reader_take nf a0 a1 c = some res) : zM l yy_Reader_take ww_Reader_take 5 117 0 0 [.ref a0, .int a1] c (fun D cid B => zQv D cid B res c.length 0) := by
  refine z_met (cc := bb_Reader_take) (maxL := 2) (ret := none) (by decide +kernel) rfl (Nat.le_of_ble_eq_true rfl) ?_
  intro p e s m args below meth cd D cid B X h1 h2 h3 h4
  have X : zX p s m args cd D cid B bb_Reader_take 2 rr_Reader zT := X
  have H : zH s meth B c.length none "take" := ⟨h1, h2, h4, h3⟩
  unfold f_Reader_take at h
  show Zz p l e (zRm 5 117 0 0) s m args below meth cd _ D cid B 2 0 0 c 0 [(0, .ref a0), (1, .int a1)] []
  refine z_iload_n X dd_Reader_take_0 rfl 1 rfl ?_
  refine z_if_ne (tgt := 12) X dd_Reader_take_1 (by decide) (fun q1 => ?_) (fun q1 => ?_)
  · rw [if_neg q1] at h
    refine z_aload_n X dd_Reader_take_12 rfl 0 rfl ?_
    obtain ⟨v2, ev2, h⟩ := zb h
    refine z_get (j := 2) X dd_Reader_take_13 kc_5 ki_5 (by decide) km_476 (zgr_v ev2) ?_
    obtain ⟨v3, ev3, h⟩ := zb h
    refine z_get (j := 0) X dd_Reader_take_16 kc_4 ki_4 (by decide) km_446 (zgi_v ev3) ?_
    refine z_bipush (v := 10) X dd_Reader_take_19 (by decide) ?_
    refine z_icmp_le (tgt := 32) X dd_Reader_take_21 (by decide) (fun q4 => ?_) (fun q4 => ?_)
    · rw [if_pos q4] at h
      refine z_aload_n X dd_Reader_take_32 rfl 0 rfl ?_
      obtain ⟨v5, ev5, h⟩ := zb h
      refine z_get (j := 8) X dd_Reader_take_33 kc_5 ki_5 (by decide) km_482 (zgi_v ev5) ?_
      refine z_iconst (v := 2) X dd_Reader_take_36 (by decide) ?_
      refine z_icmp_gt (tgt := 48) X dd_Reader_take_37 (by decide) (fun q6 => ?_) (fun q6 => ?_)
      · rw [if_pos q6] at h
        refine z_aload_n X dd_Reader_take_48 rfl 0 rfl ?_
        obtain ⟨v7, ev7, h⟩ := zb h
        refine z_get (j := 8) X dd_Reader_take_49 kc_5 ki_5 (by decide) km_482 (zgi_v ev7) ?_
        refine z_bipush (v := 6) X dd_Reader_take_52 (by decide) ?_
        refine z_icmp_gt (tgt := 65) X dd_Reader_take_54 (by decide) (fun q8 => ?_) (fun q8 => ?_)
        · rw [if_pos q8] at h
          refine z_aload_n X dd_Reader_take_65 rfl 0 rfl ?_
          obtain ⟨v9, ev9, h⟩ := zb h
          refine z_get (j := 8) X dd_Reader_take_66 kc_5 ki_5 (by decide) km_482 (zgi_v ev9) ?_
          refine z_bipush (v := 7) X dd_Reader_take_69 (by decide) ?_
          refine z_icmp_ne (tgt := 82) X dd_Reader_take_71 (by decide) (fun q10 => ?_) (fun q10 => ?_)
          · rw [if_neg q10] at h
            refine z_aload_n X dd_Reader_take_82 rfl 0 rfl ?_
            obtain ⟨v11, ev11, h⟩ := zb h
            refine z_get (j := 8) X dd_Reader_take_83 kc_5 ki_5 (by decide) km_482 (zgi_v ev11) ?_
            refine z_bipush (v := 11) X dd_Reader_take_86 (by decide) ?_
            refine z_icmp_gt (tgt := 99) X dd_Reader_take_88 (by decide) (fun q12 => ?_) (fun q12 => ?_)
            · rw [if_pos q12] at h
              refine z_aload_n X dd_Reader_take_99 rfl 0 rfl ?_
              obtain ⟨v13, ev13, h⟩ := zb h
              refine z_get (j := 8) X dd_Reader_take_100 kc_5 ki_5 (by decide) km_482 (zgi_v ev13) ?_
              refine z_bipush (v := 13) X dd_Reader_take_103 (by decide) ?_
              refine z_icmp_gt (tgt := 116) X dd_Reader_take_105 (by decide) (fun q14 => ?_) (fun q14 => ?_)
              · rw [if_pos q14] at h
                refine z_aload_n X dd_Reader_take_116 rfl 0 rfl ?_
                obtain ⟨v15, ev15, h⟩ := zb h
                refine z_get (j := 8) X dd_Reader_take_117 kc_5 ki_5 (by decide) km_482 (zgi_v ev15) ?_
                refine z_bipush (v := 15) X dd_Reader_take_120 (by decide) ?_
                refine z_icmp_gt (tgt := 133) X dd_Reader_take_122 (by decide) (fun q16 => ?_) (fun q16 => ?_)
                · rw [if_pos q16] at h
                  refine z_aload_n X dd_Reader_take_133 rfl 0 rfl ?_
                  obtain ⟨v17, ev17, h⟩ := zb h
                  refine z_get (j := 8) X dd_Reader_take_134 kc_5 ki_5 (by decide) km_482 (zgi_v ev17) ?_
                  refine z_bipush (v := 16) X dd_Reader_take_137 (by decide) ?_
                  refine z_icmp_ne (tgt := 150) X dd_Reader_take_139 (by decide) (fun q18 => ?_) (fun q18 => ?_)
                  · rw [if_neg q18] at h
                    refine z_aload_n X dd_Reader_take_150 rfl 0 rfl ?_
                    obtain ⟨v19, ev19, h⟩ := zb h
                    refine z_get (j := 8) X dd_Reader_take_151 kc_5 ki_5 (by decide) km_482 (zgi_v ev19) ?_
                    refine z_bipush (v := 17) X dd_Reader_take_154 (by decide) ?_
                    refine z_icmp_ne (tgt := 167) X dd_Reader_take_156 (by decide) (fun q20 => ?_) (fun q20 => ?_)
                    · rw [if_neg q20] at h
                      refine z_aload_n X dd_Reader_take_167 rfl 0 rfl ?_
                      obtain ⟨v21, ev21, h⟩ := zb h
                      refine z_get (j := 8) X dd_Reader_take_168 kc_5 ki_5 (by decide) km_482 (zgi_v ev21) ?_
                      refine z_bipush (v := 18) X dd_Reader_take_171 (by decide) ?_
                      refine z_icmp_ne (tgt := 184) X dd_Reader_take_173 (by decide) (fun q22 => ?_) (fun q22 => ?_)
                      · rw [if_neg q22] at h
                        refine z_aload_n X dd_Reader_take_184 rfl 0 rfl ?_
                        obtain ⟨v23, ev23, h⟩ := zb h
                        refine z_get (j := 8) X dd_Reader_take_185 kc_5 ki_5 (by decide) km_482 (zgi_v ev23) ?_
                        refine z_bipush (v := 20) X dd_Reader_take_188 (by decide) ?_
                        refine z_icmp_gt (tgt := 201) X dd_Reader_take_190 (by decide) (fun q24 => ?_) (fun q24 => ?_)
                        · rw [if_pos q24] at h
                          refine z_aload_n X dd_Reader_take_201 rfl 0 rfl ?_
                          obtain ⟨v25, ev25, h⟩ := zb h
                          refine z_get (j := 8) X dd_Reader_take_202 kc_5 ki_5 (by decide) km_482 (zgi_v ev25) ?_
                          refine z_bipush (v := 21) X dd_Reader_take_205 (by decide) ?_
                          refine z_icmp_ne (tgt := 218) X dd_Reader_take_207 (by decide) (fun q26 => ?_) (fun q26 => ?_)
                          · rw [if_neg q26] at h
                            refine z_aload_n X dd_Reader_take_218 rfl 0 rfl ?_
                            obtain ⟨v27, ev27, h⟩ := zb h
                            refine z_get (j := 8) X dd_Reader_take_219 kc_5 ki_5 (by decide) km_482 (zgi_v ev27) ?_
                            refine z_bipush (v := 22) X dd_Reader_take_222 (by decide) ?_
                            refine z_icmp_ne (tgt := 235) X dd_Reader_take_224 (by decide) (fun q28 => ?_) (fun q28 => ?_)
                            · rw [if_neg q28] at h
                              refine z_aload_n X dd_Reader_take_235 rfl 0 rfl ?_
                              refine z_iload_n X dd_Reader_take_236 rfl 1 rfl ?_
                              obtain ⟨w30, ew30, h⟩ := zb h
                              obtain ⟨q29, eq29, h⟩ := zb h
                              refine z_callVv X [.int a1] rfl dd_Reader_take_237 (c_Reader_takeTail l eq29) (cwV 1 X.1.2.2.2.2 (zg_V km_1214 km_1216 km_40 km_130 km_1217) rfl rfl rfl (by decide +kernel) ⟨Nat.le_of_ble_eq_true rfl, Nat.le_of_ble_eq_true rfl⟩) (zob_s ew30) kc_5 rfl (Nat.le_of_ble_eq_true rfl) ⟨Nat.le_of_ble_eq_true rfl, Nat.le_of_ble_eq_true rfl⟩ ?_
                              refine z_sub [] rfl ?_
                              exact t_Reader_take_240 X H h
                            · rw [if_pos q28] at h
                              refine z_aload_n X dd_Reader_take_227 rfl 0 rfl ?_
                              refine z_iload_n X dd_Reader_take_228 rfl 1 rfl ?_
                              obtain ⟨w32, ew32, h⟩ := zb h
                              obtain ⟨q31, eq31, h⟩ := zb h
                              refine z_callVv X [.int a1] rfl dd_Reader_take_229 (c_Reader_takeItem l eq31) (cwV 1 X.1.2.2.2.2 (zg_V km_1206 km_1208 km_39 km_130 km_1209) rfl rfl rfl (by decide +kernel) ⟨Nat.le_of_ble_eq_true rfl, Nat.le_of_ble_eq_true rfl⟩) (zob_s ew32) kc_5 rfl (Nat.le_of_ble_eq_true rfl) ⟨Nat.le_of_ble_eq_true rfl, Nat.le_of_ble_eq_true rfl⟩ ?_
                              refine z_goto (tgt := 240) X dd_Reader_take_232 (by decide) ?_
                              refine z_sub [] rfl ?_
                              exact t_Reader_take_240 X H h
                          · rw [if_pos q26] at h
                            refine z_aload_n X dd_Reader_take_210 rfl 0 rfl ?_
                            refine z_iload_n X dd_Reader_take_211 rfl 1 rfl ?_
                            obtain ⟨w34, ew34, h⟩ := zb h
                            obtain ⟨q33, eq33, h⟩ := zb h
                            refine z_callVv X [.int a1] rfl dd_Reader_take_212 (c_Reader_takeAfterUnit l eq33) (cwV 1 X.1.2.2.2.2 (zg_V km_1187 km_1189 km_37 km_130 km_1190) rfl rfl rfl (by decide +kernel) ⟨Nat.le_of_ble_eq_true rfl, Nat.le_of_ble_eq_true rfl⟩) (zob_s ew34) kc_5 rfl (Nat.le_of_ble_eq_true rfl) ⟨Nat.le_of_ble_eq_true rfl, Nat.le_of_ble_eq_true rfl⟩ ?_
                            refine z_goto (tgt := 240) X dd_Reader_take_215 (by decide) ?_
                            refine z_sub [] rfl ?_
                            exact t_Reader_take_240 X H h
                        · rw [if_neg q24] at h
                          refine z_aload_n X dd_Reader_take_193 rfl 0 rfl ?_
                          refine z_iload_n X dd_Reader_take_194 rfl 1 rfl ?_
                          obtain ⟨w36, ew36, h⟩ := zb h
                          obtain ⟨q35, eq35, h⟩ := zb h
                          refine z_callVv X [.int a1] rfl dd_Reader_take_195 (c_Reader_takeAfterVariable l eq35) (cwV 1 X.1.2.2.2.2 (zg_V km_1182 km_1184 km_36 km_130 km_1185) rfl rfl rfl (by decide +kernel) ⟨Nat.le_of_ble_eq_true rfl, Nat.le_of_ble_eq_true rfl⟩) (zob_s ew36) kc_5 rfl (Nat.le_of_ble_eq_true rfl) ⟨Nat.le_of_ble_eq_true rfl, Nat.le_of_ble_eq_true rfl⟩ ?_
                          refine z_goto (tgt := 240) X dd_Reader_take_198 (by decide) ?_
                          refine z_sub [] rfl ?_
                          exact t_Reader_take_240 X H h
                      · rw [if_pos q22] at h
                        refine z_aload_n X dd_Reader_take_176 rfl 0 rfl ?_
                        refine z_iload_n X dd_Reader_take_177 rfl 1 rfl ?_
                        obtain ⟨w38, ew38, h⟩ := zb h
                        obtain ⟨q37, eq37, h⟩ := zb h
                        refine z_callVv X [.int a1] rfl dd_Reader_take_178 (c_Reader_takeUnit l eq37) (cwV 1 X.1.2.2.2.2 (zg_V km_1166 km_1168 km_34 km_130 km_1169) rfl rfl rfl (by decide +kernel) ⟨Nat.le_of_ble_eq_true rfl, Nat.le_of_ble_eq_true rfl⟩) (zob_s ew38) kc_5 rfl (Nat.le_of_ble_eq_true rfl) ⟨Nat.le_of_ble_eq_true rfl, Nat.le_of_ble_eq_true rfl⟩ ?_
                        refine z_goto (tgt := 240) X dd_Reader_take_181 (by decide) ?_
                        refine z_sub [] rfl ?_
                        exact t_Reader_take_240 X H h
                    · rw [if_pos q20] at h
                      refine z_aload_n X dd_Reader_take_159 rfl 0 rfl ?_
                      refine z_iload_n X dd_Reader_take_160 rfl 1 rfl ?_
                      obtain ⟨w40, ew40, h⟩ := zb h
                      obtain ⟨q39, eq39, h⟩ := zb h
                      refine z_callVv X [.int a1] rfl dd_Reader_take_161 (c_Reader_takeAfterFact l eq39) (cwV 1 X.1.2.2.2.2 (zg_V km_1149 km_1151 km_32 km_130 km_1152) rfl rfl rfl (by decide +kernel) ⟨Nat.le_of_ble_eq_true rfl, Nat.le_of_ble_eq_true rfl⟩) (zob_s ew40) kc_5 rfl (Nat.le_of_ble_eq_true rfl) ⟨Nat.le_of_ble_eq_true rfl, Nat.le_of_ble_eq_true rfl⟩ ?_
                      refine z_goto (tgt := 240) X dd_Reader_take_164 (by decide) ?_
                      refine z_sub [] rfl ?_
                      exact t_Reader_take_240 X H h
                  · rw [if_pos q18] at h
                    refine z_aload_n X dd_Reader_take_142 rfl 0 rfl ?_
                    refine z_iload_n X dd_Reader_take_143 rfl 1 rfl ?_
                    obtain ⟨w42, ew42, h⟩ := zb h
                    obtain ⟨q41, eq41, h⟩ := zb h
                    refine z_callVv X [.int a1] rfl dd_Reader_take_144 (c_Reader_takeFact l eq41) (cwV 1 X.1.2.2.2.2 (zg_V km_1131 km_1133 km_31 km_130 km_1134) rfl rfl rfl (by decide +kernel) ⟨Nat.le_of_ble_eq_true rfl, Nat.le_of_ble_eq_true rfl⟩) (zob_s ew42) kc_5 rfl (Nat.le_of_ble_eq_true rfl) ⟨Nat.le_of_ble_eq_true rfl, Nat.le_of_ble_eq_true rfl⟩ ?_
                    refine z_goto (tgt := 240) X dd_Reader_take_147 (by decide) ?_
                    refine z_sub [] rfl ?_
                    exact t_Reader_take_240 X H h
                · rw [if_neg q16] at h
                  refine z_aload_n X dd_Reader_take_125 rfl 0 rfl ?_
                  refine z_iload_n X dd_Reader_take_126 rfl 1 rfl ?_
                  obtain ⟨w44, ew44, h⟩ := zb h
                  obtain ⟨q43, eq43, h⟩ := zb h
                  refine z_callVv X [.int a1] rfl dd_Reader_take_127 (c_Reader_takeAfterStep l eq43) (cwV 1 X.1.2.2.2.2 (zg_V km_1110 km_1112 km_30 km_130 km_1113) rfl rfl rfl (by decide +kernel) ⟨Nat.le_of_ble_eq_true rfl, Nat.le_of_ble_eq_true rfl⟩) (zob_s ew44) kc_5 rfl (Nat.le_of_ble_eq_true rfl) ⟨Nat.le_of_ble_eq_true rfl, Nat.le_of_ble_eq_true rfl⟩ ?_
                  refine z_goto (tgt := 240) X dd_Reader_take_130 (by decide) ?_
                  refine z_sub [] rfl ?_
                  exact t_Reader_take_240 X H h
              · rw [if_neg q14] at h
                refine z_aload_n X dd_Reader_take_108 rfl 0 rfl ?_
                refine z_iload_n X dd_Reader_take_109 rfl 1 rfl ?_
                obtain ⟨w46, ew46, h⟩ := zb h
                obtain ⟨q45, eq45, h⟩ := zb h
                refine z_callVv X [.int a1] rfl dd_Reader_take_110 (c_Reader_takeStep l eq45) (cwV 1 X.1.2.2.2.2 (zg_V km_1084 km_1086 km_26 km_130 km_1087) rfl rfl rfl (by decide +kernel) ⟨Nat.le_of_ble_eq_true rfl, Nat.le_of_ble_eq_true rfl⟩) (zob_s ew46) kc_5 rfl (Nat.le_of_ble_eq_true rfl) ⟨Nat.le_of_ble_eq_true rfl, Nat.le_of_ble_eq_true rfl⟩ ?_
                refine z_goto (tgt := 240) X dd_Reader_take_113 (by decide) ?_
                refine z_sub [] rfl ?_
                exact t_Reader_take_240 X H h
            · rw [if_neg q12] at h
              refine z_aload_n X dd_Reader_take_91 rfl 0 rfl ?_
              refine z_iload_n X dd_Reader_take_92 rfl 1 rfl ?_
              obtain ⟨w48, ew48, h⟩ := zb h
              obtain ⟨q47, eq47, h⟩ := zb h
              refine z_callVv X [.int a1] rfl dd_Reader_take_93 (c_Reader_takeInWay l eq47) (cwV 1 X.1.2.2.2.2 (zg_V km_1076 km_1078 km_24 km_130 km_1079) rfl rfl rfl (by decide +kernel) ⟨Nat.le_of_ble_eq_true rfl, Nat.le_of_ble_eq_true rfl⟩) (zob_s ew48) kc_5 rfl (Nat.le_of_ble_eq_true rfl) ⟨Nat.le_of_ble_eq_true rfl, Nat.le_of_ble_eq_true rfl⟩ ?_
              refine z_goto (tgt := 240) X dd_Reader_take_96 (by decide) ?_
              refine z_sub [] rfl ?_
              exact t_Reader_take_240 X H h
          · rw [if_pos q10] at h
            refine z_aload_n X dd_Reader_take_74 rfl 0 rfl ?_
            refine z_iload_n X dd_Reader_take_75 rfl 1 rfl ?_
            obtain ⟨w50, ew50, h⟩ := zb h
            obtain ⟨q49, eq49, h⟩ := zb h
            refine z_callVv X [.int a1] rfl dd_Reader_take_76 (c_Reader_takeAfterNode l eq49) (cwV 1 X.1.2.2.2.2 (zg_V km_1043 km_1045 km_20 km_130 km_1046) rfl rfl rfl (by decide +kernel) ⟨Nat.le_of_ble_eq_true rfl, Nat.le_of_ble_eq_true rfl⟩) (zob_s ew50) kc_5 rfl (Nat.le_of_ble_eq_true rfl) ⟨Nat.le_of_ble_eq_true rfl, Nat.le_of_ble_eq_true rfl⟩ ?_
            refine z_goto (tgt := 240) X dd_Reader_take_79 (by decide) ?_
            refine z_sub [] rfl ?_
            exact t_Reader_take_240 X H h
        · rw [if_neg q8] at h
          refine z_aload_n X dd_Reader_take_57 rfl 0 rfl ?_
          refine z_iload_n X dd_Reader_take_58 rfl 1 rfl ?_
          obtain ⟨w52, ew52, h⟩ := zb h
          obtain ⟨q51, eq51, h⟩ := zb h
          refine z_callVv X [.int a1] rfl dd_Reader_take_59 (c_Reader_takeInNode l eq51) (cwV 1 X.1.2.2.2.2 (zg_V km_1010 km_1012 km_14 km_130 km_1013) rfl rfl rfl (by decide +kernel) ⟨Nat.le_of_ble_eq_true rfl, Nat.le_of_ble_eq_true rfl⟩) (zob_s ew52) kc_5 rfl (Nat.le_of_ble_eq_true rfl) ⟨Nat.le_of_ble_eq_true rfl, Nat.le_of_ble_eq_true rfl⟩ ?_
          refine z_goto (tgt := 240) X dd_Reader_take_62 (by decide) ?_
          refine z_sub [] rfl ?_
          exact t_Reader_take_240 X H h
      · rw [if_neg q6] at h
        refine z_aload_n X dd_Reader_take_40 rfl 0 rfl ?_
        refine z_iload_n X dd_Reader_take_41 rfl 1 rfl ?_
        obtain ⟨w54, ew54, h⟩ := zb h
        obtain ⟨q53, eq53, h⟩ := zb h
        refine z_callVv X [.int a1] rfl dd_Reader_take_42 (c_Reader_takeHead l eq53) (cwV 1 X.1.2.2.2.2 (zg_V km_1006 km_1008 km_13 km_130 km_1009) rfl rfl rfl (by decide +kernel) ⟨Nat.le_of_ble_eq_true rfl, Nat.le_of_ble_eq_true rfl⟩) (zob_s ew54) kc_5 rfl (Nat.le_of_ble_eq_true rfl) ⟨Nat.le_of_ble_eq_true rfl, Nat.le_of_ble_eq_true rfl⟩ ?_
        refine z_goto (tgt := 240) X dd_Reader_take_45 (by decide) ?_
        refine z_sub [] rfl ?_
        exact t_Reader_take_240 X H h
    · rw [if_neg q4] at h
      refine z_aload_n X dd_Reader_take_24 rfl 0 rfl ?_
      refine z_iconst (v := 3) X dd_Reader_take_25 (by decide) ?_
      obtain ⟨w56, ew56, h⟩ := zb h
      obtain ⟨q55, eq55, h⟩ := zb h
      refine z_callVv X [.int 3] rfl dd_Reader_take_26 (c_Reader_fail l eq55) (cwV 1 X.1.2.2.2.2 (zg_V km_998 km_1000 km_11 km_130 km_1001) rfl rfl rfl (by decide +kernel) ⟨Nat.le_of_ble_eq_true rfl, Nat.le_of_ble_eq_true rfl⟩) (zob_s ew56) kc_5 rfl (Nat.le_of_ble_eq_true rfl) ⟨Nat.le_of_ble_eq_true rfl, Nat.le_of_ble_eq_true rfl⟩ ?_
      refine z_goto (tgt := 240) X dd_Reader_take_29 (by decide) ?_
      refine z_sub [] rfl ?_
      exact t_Reader_take_240 X H h
  · rw [if_pos q1] at h
    refine z_aload_n X dd_Reader_take_4 rfl 0 rfl ?_
    refine z_iconst (v := 1) X dd_Reader_take_5 (by decide) ?_
    obtain ⟨w58, ew58, h⟩ := zb h
    obtain ⟨q57, eq57, h⟩ := zb h
    refine z_callVv X [.int 1] rfl dd_Reader_take_6 (c_Reader_fail l eq57) (cwV 1 X.1.2.2.2.2 (zg_V km_998 km_1000 km_11 km_130 km_1001) rfl rfl rfl (by decide +kernel) ⟨Nat.le_of_ble_eq_true rfl, Nat.le_of_ble_eq_true rfl⟩) (zob_s ew58) kc_5 rfl (Nat.le_of_ble_eq_true rfl) ⟨Nat.le_of_ble_eq_true rfl, Nat.le_of_ble_eq_true rfl⟩ ?_
    refine z_goto (tgt := 240) X dd_Reader_take_9 (by decide) ?_
    refine z_sub [] rfl ?_
    exact t_Reader_take_240 X H h
theorem dd_Reader_checkLast_0 : decode bb_Reader_checkLast 0 = .ok (.aload_n 0, 1) := by decide +kernel
theorem dd_Reader_checkLast_1 : decode bb_Reader_checkLast 1 = .ok (.getfield 30, 3) := by decide +kernel
theorem dd_Reader_checkLast_4 : decode bb_Reader_checkLast 4 = .ok (.sipush 200, 3) := by decide +kernel
theorem dd_Reader_checkLast_7 : decode bb_Reader_checkLast 7 = .ok (.if_icmp .ne 28, 3) := by decide +kernel
theorem dd_Reader_checkLast_10 : decode bb_Reader_checkLast 10 = .ok (.iload_n 1, 1) := by decide +kernel
theorem dd_Reader_checkLast_11 : decode bb_Reader_checkLast 11 = .ok (.iconst 1, 1) := by decide +kernel
theorem dd_Reader_checkLast_12 : decode bb_Reader_checkLast 12 = .ok (.if_icmp .eq 23, 3) := by decide +kernel
theorem dd_Reader_checkLast_15 : decode bb_Reader_checkLast 15 = .ok (.aload_n 0, 1) := by decide +kernel
theorem dd_Reader_checkLast_16 : decode bb_Reader_checkLast 16 = .ok (.getfield 36, 3) := by decide +kernel
theorem dd_Reader_checkLast_19 : decode bb_Reader_checkLast 19 = .ok (.ifCond .eq 11, 3) := by decide +kernel
theorem dd_Reader_checkLast_22 : decode bb_Reader_checkLast 22 = .ok (.aload_n 0, 1) := by decide +kernel
theorem dd_Reader_checkLast_23 : decode bb_Reader_checkLast 23 = .ok (.getfield 36, 3) := by decide +kernel
theorem dd_Reader_checkLast_26 : decode bb_Reader_checkLast 26 = .ok (.iconst 3, 1) := by decide +kernel
theorem dd_Reader_checkLast_27 : decode bb_Reader_checkLast 27 = .ok (.if_icmp .le 8, 3) := by decide +kernel
theorem dd_Reader_checkLast_30 : decode bb_Reader_checkLast 30 = .ok (.aload_n 0, 1) := by decide +kernel
theorem dd_Reader_checkLast_31 : decode bb_Reader_checkLast 31 = .ok (.iconst 3, 1) := by decide +kernel
theorem dd_Reader_checkLast_32 : decode bb_Reader_checkLast 32 = .ok (.invokevirtual 133, 3) := by decide +kernel
theorem dd_Reader_checkLast_35 : decode bb_Reader_checkLast 35 = .ok (.return_, 1) := by decide +kernel
set_option maxRecDepth 100000 in
set_option maxHeartbeats 4000000 in
theorem t_Reader_checkLast_35  (X : zX p s m args cd D cid B bb_Reader_checkLast 2 rr_Reader zT) (H : zH s meth B n0 none "checkLast") {nf : Nat}  {c : Zc} {res : Zc} (h : f_Reader_checkLast_35 nf  c = some res) : Zz p l e (zRm 2 43 0 0) s m args below meth cd (MQ below (zQv D cid B res n0 0) args s 0 0 (fun q => B ≤ q)) D cid B 2 0 0 c 35 [] [] := by
  unfold f_Reader_checkLast_35 at h
  obtain rfl := Option.some.inj h
  exact z_vret X H.1 H.2.1 H.2.2.1 dd_Reader_checkLast_35
set_option maxRecDepth 100000 in
set_option maxHeartbeats 4000000 in
theorem t_Reader_checkLast_30  (X : zX p s m args cd D cid B bb_Reader_checkLast 2 rr_Reader zT) (H : zH s meth B n0 none "checkLast") {nf : Nat} {x0 : Nat} {c : Zc} {res : Zc} (h : f_Reader_checkLast_30 nf x0 c = some res) : Zz p l e (zRm 2 43 0 0) s m args below meth cd (MQ below (zQv D cid B res n0 0) args s 0 0 (fun q => B ≤ q)) D cid B 2 0 0 c 30 [(0, .ref x0)] [] := by
  unfold f_Reader_checkLast_30 at h
  refine z_aload_n X dd_Reader_checkLast_30 rfl 0 rfl ?_
  refine z_iconst (v := 3) X dd_Reader_checkLast_31 (by decide) ?_
  obtain ⟨w7, ew7, h⟩ := zb h
  obtain ⟨q6, eq6, h⟩ := zb h
  refine z_callVv X [.int 3] rfl dd_Reader_checkLast_32 (c_Reader_fail l eq6) (cwV 1 X.1.2.2.2.2 (zg_V km_998 km_1000 km_11 km_130 km_1001) rfl rfl rfl (by decide +kernel) ⟨Nat.le_of_ble_eq_true rfl, Nat.le_of_ble_eq_true rfl⟩) (zob_s ew7) kc_5 rfl (Nat.le_of_ble_eq_true rfl) ⟨Nat.le_of_ble_eq_true rfl, Nat.le_of_ble_eq_true rfl⟩ ?_
  refine z_sub [] rfl ?_
  exact t_Reader_checkLast_35 X H h
set_option maxRecDepth 100000 in
set_option maxHeartbeats 4000000 in
theorem c_Reader_checkLast (l : Launch) {nf : Nat} {a0 : Nat} {a1 : Int32} {c : Zc} {res : Zc} (h : f_Reader_checkLast nf a0 a1 c = some res) : zM l yy_Reader_checkLast ww_Reader_checkLast 2 43 0 0 [.ref a0, .int a1] c (fun D cid B => zQv D cid B res c.length 0) := by
  refine z_met (cc := bb_Reader_checkLast) (maxL := 2) (ret := none) (by decide +kernel) rfl (Nat.le_of_ble_eq_true rfl) ?_
  intro p e s m args below meth cd D cid B X h1 h2 h3 h4
  have X : zX p s m args cd D cid B bb_Reader_checkLast 2 rr_Reader zT := X
  have H : zH s meth B c.length none "checkLast" := ⟨h1, h2, h4, h3⟩
  unfold f_Reader_checkLast at h
  show Zz p l e (zRm 2 43 0 0) s m args below meth cd _ D cid B 2 0 0 c 0 [(0, .ref a0), (1, .int a1)] []
  refine z_aload_n X dd_Reader_checkLast_0 rfl 0 rfl ?_
  obtain ⟨v1, ev1, h⟩ := zb h
  refine z_get (j := 7) X dd_Reader_checkLast_1 kc_5 ki_5 (by decide) km_481 (zgi_v ev1) ?_
  refine z_sipush (v := 200) X dd_Reader_checkLast_4 (by decide) ?_
  refine z_icmp_ne (tgt := 35) X dd_Reader_checkLast_7 (by decide) (fun q2 => ?_) (fun q2 => ?_)
  · rw [if_neg q2] at h
    refine z_sub [] rfl ?_
    exact t_Reader_checkLast_35 X H h
  · rw [if_pos q2] at h
    refine z_iload_n X dd_Reader_checkLast_10 rfl 1 rfl ?_
    refine z_iconst (v := 1) X dd_Reader_checkLast_11 (by decide) ?_
    refine z_icmp_eq (tgt := 35) X dd_Reader_checkLast_12 (by decide) (fun q3 => ?_) (fun q3 => ?_)
    · rw [if_pos q3] at h
      refine z_sub [] rfl ?_
      exact t_Reader_checkLast_35 X H h
    · rw [if_neg q3] at h
      refine z_aload_n X dd_Reader_checkLast_15 rfl 0 rfl ?_
      obtain ⟨v4, ev4, h⟩ := zb h
      refine z_get (j := 9) X dd_Reader_checkLast_16 kc_5 ki_5 (by decide) km_483 (zgi_v ev4) ?_
      refine z_if_eq (tgt := 30) X dd_Reader_checkLast_19 (by decide) (fun q5 => ?_) (fun q5 => ?_)
      · rw [if_pos q5] at h
        refine z_sub [0] rfl ?_
        exact t_Reader_checkLast_30 X H h
      · rw [if_neg q5] at h
        refine z_aload_n X dd_Reader_checkLast_22 rfl 0 rfl ?_
        obtain ⟨v8, ev8, h⟩ := zb h
        refine z_get (j := 9) X dd_Reader_checkLast_23 kc_5 ki_5 (by decide) km_483 (zgi_v ev8) ?_
        refine z_iconst (v := 3) X dd_Reader_checkLast_26 (by decide) ?_
        refine z_icmp_le (tgt := 35) X dd_Reader_checkLast_27 (by decide) (fun q9 => ?_) (fun q9 => ?_)
        · rw [if_pos q9] at h
          refine z_sub [] rfl ?_
          exact t_Reader_checkLast_35 X H h
        · rw [if_neg q9] at h
          refine z_sub [0] rfl ?_
          exact t_Reader_checkLast_30 X H h
theorem dd_Reader_read_0 : decode bb_Reader_read 0 = .ok (.aload_n 0, 1) := by decide +kernel
theorem dd_Reader_read_1 : decode bb_Reader_read 1 = .ok (.aload_n 3, 1) := by decide +kernel
theorem dd_Reader_read_2 : decode bb_Reader_read 2 = .ok (.iload 4, 2) := by decide +kernel
theorem dd_Reader_read_4 : decode bb_Reader_read 4 = .ok (.invokevirtual 91, 3) := by decide +kernel
theorem dd_Reader_read_7 : decode bb_Reader_read 7 = .ok (.aload_n 0, 1) := by decide +kernel
theorem dd_Reader_read_8 : decode bb_Reader_read 8 = .ok (.getfield 18, 3) := by decide +kernel
theorem dd_Reader_read_11 : decode bb_Reader_read 11 = .ok (.aload_n 1, 1) := by decide +kernel
theorem dd_Reader_read_12 : decode bb_Reader_read 12 = .ok (.iload_n 2, 1) := by decide +kernel
theorem dd_Reader_read_13 : decode bb_Reader_read 13 = .ok (.invokevirtual 95, 3) := by decide +kernel
theorem dd_Reader_read_16 : decode bb_Reader_read 16 = .ok (.iconst 0, 1) := by decide +kernel
theorem dd_Reader_read_17 : decode bb_Reader_read 17 = .ok (.istore 5, 2) := by decide +kernel
theorem dd_Reader_read_19 : decode bb_Reader_read 19 = .ok (.iload 5, 2) := by decide +kernel
theorem dd_Reader_read_21 : decode bb_Reader_read 21 = .ok (.aload_n 0, 1) := by decide +kernel
theorem dd_Reader_read_22 : decode bb_Reader_read 22 = .ok (.getfield 18, 3) := by decide +kernel
theorem dd_Reader_read_25 : decode bb_Reader_read 25 = .ok (.getfield 99, 3) := by decide +kernel
theorem dd_Reader_read_28 : decode bb_Reader_read 28 = .ok (.if_icmp .gt 90, 3) := by decide +kernel
theorem dd_Reader_read_31 : decode bb_Reader_read 31 = .ok (.aload_n 0, 1) := by decide +kernel
theorem dd_Reader_read_32 : decode bb_Reader_read 32 = .ok (.getfield 36, 3) := by decide +kernel
theorem dd_Reader_read_35 : decode bb_Reader_read 35 = .ok (.ifCond .ne 83, 3) := by decide +kernel
theorem dd_Reader_read_38 : decode bb_Reader_read 38 = .ok (.aload_n 0, 1) := by decide +kernel
theorem dd_Reader_read_39 : decode bb_Reader_read 39 = .ok (.iload 5, 2) := by decide +kernel
theorem dd_Reader_read_41 : decode bb_Reader_read 41 = .ok (.putfield 30, 3) := by decide +kernel
theorem dd_Reader_read_44 : decode bb_Reader_read 44 = .ok (.aload_n 0, 1) := by decide +kernel
theorem dd_Reader_read_45 : decode bb_Reader_read 45 = .ok (.iconst 0, 1) := by decide +kernel
theorem dd_Reader_read_46 : decode bb_Reader_read 46 = .ok (.putfield 66, 3) := by decide +kernel
theorem dd_Reader_read_49 : decode bb_Reader_read 49 = .ok (.iconst 0, 1) := by decide +kernel
theorem dd_Reader_read_50 : decode bb_Reader_read 50 = .ok (.istore 6, 2) := by decide +kernel
theorem dd_Reader_read_52 : decode bb_Reader_read 52 = .ok (.iload 6, 2) := by decide +kernel
theorem dd_Reader_read_54 : decode bb_Reader_read 54 = .ok (.bipush 8, 2) := by decide +kernel
theorem dd_Reader_read_56 : decode bb_Reader_read 56 = .ok (.if_icmp .ge 42, 3) := by decide +kernel
theorem dd_Reader_read_59 : decode bb_Reader_read 59 = .ok (.aload_n 0, 1) := by decide +kernel
theorem dd_Reader_read_60 : decode bb_Reader_read 60 = .ok (.getfield 66, 3) := by decide +kernel
theorem dd_Reader_read_63 : decode bb_Reader_read 63 = .ok (.ifCond .ne 35, 3) := by decide +kernel
theorem dd_Reader_read_66 : decode bb_Reader_read 66 = .ok (.aload_n 0, 1) := by decide +kernel
theorem dd_Reader_read_67 : decode bb_Reader_read 67 = .ok (.getfield 36, 3) := by decide +kernel
theorem dd_Reader_read_70 : decode bb_Reader_read 70 = .ok (.ifCond .ne 28, 3) := by decide +kernel
theorem dd_Reader_read_73 : decode bb_Reader_read 73 = .ok (.aload_n 0, 1) := by decide +kernel
theorem dd_Reader_read_74 : decode bb_Reader_read 74 = .ok (.iconst 1, 1) := by decide +kernel
theorem dd_Reader_read_75 : decode bb_Reader_read 75 = .ok (.putfield 66, 3) := by decide +kernel
theorem dd_Reader_read_78 : decode bb_Reader_read 78 = .ok (.aload_n 0, 1) := by decide +kernel
theorem dd_Reader_read_79 : decode bb_Reader_read 79 = .ok (.aload_n 0, 1) := by decide +kernel
theorem dd_Reader_read_80 : decode bb_Reader_read 80 = .ok (.getfield 18, 3) := by decide +kernel
theorem dd_Reader_read_83 : decode bb_Reader_read 83 = .ok (.getfield 102, 3) := by decide +kernel
theorem dd_Reader_read_86 : decode bb_Reader_read 86 = .ok (.iload 5, 2) := by decide +kernel
theorem dd_Reader_read_88 : decode bb_Reader_read 88 = .ok (.iaload, 1) := by decide +kernel
theorem dd_Reader_read_89 : decode bb_Reader_read 89 = .ok (.invokevirtual 105, 3) := by decide +kernel
theorem dd_Reader_read_92 : decode bb_Reader_read 92 = .ok (.iinc 6 1, 3) := by decide +kernel
theorem dd_Reader_read_95 : decode bb_Reader_read 95 = .ok (.goto (-43), 3) := by decide +kernel
theorem dd_Reader_read_98 : decode bb_Reader_read 98 = .ok (.aload_n 0, 1) := by decide +kernel
theorem dd_Reader_read_99 : decode bb_Reader_read 99 = .ok (.aload_n 0, 1) := by decide +kernel
theorem dd_Reader_read_100 : decode bb_Reader_read 100 = .ok (.getfield 18, 3) := by decide +kernel
theorem dd_Reader_read_103 : decode bb_Reader_read 103 = .ok (.getfield 102, 3) := by decide +kernel
theorem dd_Reader_read_106 : decode bb_Reader_read 106 = .ok (.iload 5, 2) := by decide +kernel
theorem dd_Reader_read_108 : decode bb_Reader_read 108 = .ok (.iaload, 1) := by decide +kernel
theorem dd_Reader_read_109 : decode bb_Reader_read 109 = .ok (.invokevirtual 109, 3) := by decide +kernel
theorem dd_Reader_read_112 : decode bb_Reader_read 112 = .ok (.iinc 5 1, 3) := by decide +kernel
theorem dd_Reader_read_115 : decode bb_Reader_read 115 = .ok (.goto (-96), 3) := by decide +kernel
theorem dd_Reader_read_118 : decode bb_Reader_read 118 = .ok (.aload_n 3, 1) := by decide +kernel
theorem dd_Reader_read_119 : decode bb_Reader_read 119 = .ok (.aload_n 0, 1) := by decide +kernel
theorem dd_Reader_read_120 : decode bb_Reader_read 120 = .ok (.getfield 36, 3) := by decide +kernel
theorem dd_Reader_read_123 : decode bb_Reader_read 123 = .ok (.ifCond .ne 7, 3) := by decide +kernel
theorem dd_Reader_read_126 : decode bb_Reader_read 126 = .ok (.iconst 1, 1) := by decide +kernel
theorem dd_Reader_read_127 : decode bb_Reader_read 127 = .ok (.goto 4, 3) := by decide +kernel
theorem dd_Reader_read_130 : decode bb_Reader_read 130 = .ok (.iconst 0, 1) := by decide +kernel
theorem dd_Reader_read_131 : decode bb_Reader_read 131 = .ok (.putfield 112, 3) := by decide +kernel
theorem dd_Reader_read_134 : decode bb_Reader_read 134 = .ok (.aload_n 0, 1) := by decide +kernel
theorem dd_Reader_read_135 : decode bb_Reader_read 135 = .ok (.getfield 36, 3) := by decide +kernel
theorem dd_Reader_read_138 : decode bb_Reader_read 138 = .ok (.ireturn, 1) := by decide +kernel
set_option maxRecDepth 100000 in
set_option maxHeartbeats 4000000 in
theorem u_Reader_read_52  (X : zX p s m args cd D cid B bb_Reader_read 7 rr_Reader zT) (H : zH s meth B n0 (some (.int)) "read") {nf : Nat} {x0 : Nat} {x3 : Nat} {x5 : Int32} {x6 : Int32} {c : Zc} {r : (Nat × Nat × Int32 × Int32 × Zc) ⊕ (Nat × Nat × Int32 × Zc)} (h : g_Reader_read_52 nf x0 x3 x5 x6 c = some r) (k0 : ∀ a, r = .inl a → (fun a : Nat × Nat × Int32 × Int32 × Zc => Zz p l e (zRm 9 203 0 0) s m args below meth cd Q D cid B 7 0 0 a.2.2.2.2 52 [(0, .ref a.1), (3, .ref a.2.1), (5, .int a.2.2.1), (6, .int a.2.2.2.1)] []) a) (k1 : ∀ b, r = .inr b → (fun b : Nat × Nat × Int32 × Zc => Zz p l e (zRm 9 203 0 0) s m args below meth cd Q D cid B 7 0 0 b.2.2.2 98 [(0, .ref b.1), (3, .ref b.2.1), (5, .int b.2.2.1)] []) b) : Zz p l e (zRm 9 203 0 0) s m args below meth cd Q D cid B 7 0 0 c 52 [(0, .ref x0), (3, .ref x3), (5, .int x5), (6, .int x6)] [] := by
  unfold g_Reader_read_52 at h
  refine z_iload X dd_Reader_read_52 3 rfl ?_
  refine z_bipush (v := 8) X dd_Reader_read_54 (by decide) ?_
  refine z_icmp_ge (tgt := 98) X dd_Reader_read_56 (by decide) (fun q13 => ?_) (fun q13 => ?_)
  · rw [if_pos q13] at h
    refine z_sub [0, 1, 2] rfl ?_
    obtain rfl := Option.some.inj h
    exact k1 _ rfl
  · rw [if_neg q13] at h
    refine z_aload_n X dd_Reader_read_59 rfl 0 rfl ?_
    obtain ⟨v14, ev14, h⟩ := zb h
    refine z_get (j := 19) X dd_Reader_read_60 kc_5 ki_5 (by decide) km_493 (zgi_v ev14) ?_
    refine z_if_ne (tgt := 98) X dd_Reader_read_63 (by decide) (fun q15 => ?_) (fun q15 => ?_)
    · rw [if_neg q15] at h
      refine z_sub [0, 1, 2] rfl ?_
      obtain rfl := Option.some.inj h
      exact k1 _ rfl
    · rw [if_pos q15] at h
      refine z_aload_n X dd_Reader_read_66 rfl 0 rfl ?_
      obtain ⟨v16, ev16, h⟩ := zb h
      refine z_get (j := 9) X dd_Reader_read_67 kc_5 ki_5 (by decide) km_483 (zgi_v ev16) ?_
      refine z_if_ne (tgt := 98) X dd_Reader_read_70 (by decide) (fun q17 => ?_) (fun q17 => ?_)
      · rw [if_neg q17] at h
        refine z_sub [0, 1, 2] rfl ?_
        obtain rfl := Option.some.inj h
        exact k1 _ rfl
      · rw [if_pos q17] at h
        refine z_aload_n X dd_Reader_read_73 rfl 0 rfl ?_
        refine z_iconst (v := 1) X dd_Reader_read_74 (by decide) ?_
        obtain ⟨c18, ec18, h⟩ := zb h
        refine z_put (j := 19) X dd_Reader_read_75 kc_5 ki_5 tt_Reader tk_Reader nn_Reader (by decide) km_493 rfl (tk_Reader 19 (by decide)) rfl rfl ec18 ?_
        refine z_aload_n X dd_Reader_read_78 rfl 0 rfl ?_
        refine z_aload_n X dd_Reader_read_79 rfl 0 rfl ?_
        obtain ⟨v19, ev19, h⟩ := zb h
        refine z_get (j := 1) X dd_Reader_read_80 kc_5 ki_5 (by decide) km_475 (zgr_v ev19) ?_
        obtain ⟨v20, ev20, h⟩ := zb h
        refine z_get (j := 0) X dd_Reader_read_83 kc_3 ki_3 (by decide) km_417 (zgr_v ev20) ?_
        refine z_iload X dd_Reader_read_86 2 rfl ?_
        obtain ⟨v21, ev21, h⟩ := zb h
        refine z_iaload X dd_Reader_read_88 rfl ev21 ?_
        obtain ⟨w23, ew23, h⟩ := zb h
        obtain ⟨q22, eq22, h⟩ := zb h
        refine z_callVv X [.int v21] rfl dd_Reader_read_89 (c_Reader_take l eq22) (cwV 1 X.1.2.2.2.2 (zg_V km_994 km_996 km_10 km_130 km_997) rfl rfl rfl (by decide +kernel) ⟨Nat.le_of_ble_eq_true rfl, Nat.le_of_ble_eq_true rfl⟩) (zob_s ew23) kc_5 rfl (Nat.le_of_ble_eq_true rfl) ⟨Nat.le_of_ble_eq_true rfl, Nat.le_of_ble_eq_true rfl⟩ ?_
        refine z_iinc (v := (x6 + 1)) (lv' := [(6, .int (x6 + 1)), (0, .ref x0), (3, .ref x3), (5, .int x5)]) X dd_Reader_read_92 3 rfl rfl (by decide) rfl ?_
        refine z_goto (tgt := 52) X dd_Reader_read_95 (by decide) ?_
        refine z_sub [1, 2, 3, 0] rfl ?_
        obtain rfl := Option.some.inj h
        exact k0 _ rfl
set_option maxRecDepth 100000 in
set_option maxHeartbeats 4000000 in
theorem t_Reader_read_98  (X : zX p s m args cd D cid B bb_Reader_read 7 rr_Reader zT) (H : zH s meth B n0 (some (.int)) "read") {nf : Nat} {x0 : Nat} {x3 : Nat} {x5 : Int32} {c : Zc} {r : (Nat × Nat × Int32 × Zc) ⊕ (Nat × Nat × Zc)} (h : f_Reader_read_98 nf x0 x3 x5 c = some r) (k0 : ∀ a, r = .inl a → (fun a : Nat × Nat × Int32 × Zc => Zz p l e (zRm 9 203 0 0) s m args below meth cd Q D cid B 7 0 0 a.2.2.2 19 [(0, .ref a.1), (3, .ref a.2.1), (5, .int a.2.2.1)] []) a) (k1 : ∀ b, r = .inr b → (fun b : Nat × Nat × Zc => Zz p l e (zRm 9 203 0 0) s m args below meth cd Q D cid B 7 0 0 b.2.2 118 [(0, .ref b.1), (3, .ref b.2.1)] []) b) : Zz p l e (zRm 9 203 0 0) s m args below meth cd Q D cid B 7 0 0 c 98 [(0, .ref x0), (3, .ref x3), (5, .int x5)] [] := by
  unfold f_Reader_read_98 at h
  refine z_aload_n X dd_Reader_read_98 rfl 0 rfl ?_
  refine z_aload_n X dd_Reader_read_99 rfl 0 rfl ?_
  obtain ⟨v24, ev24, h⟩ := zb h
  refine z_get (j := 1) X dd_Reader_read_100 kc_5 ki_5 (by decide) km_475 (zgr_v ev24) ?_
  obtain ⟨v25, ev25, h⟩ := zb h
  refine z_get (j := 0) X dd_Reader_read_103 kc_3 ki_3 (by decide) km_417 (zgr_v ev25) ?_
  refine z_iload X dd_Reader_read_106 2 rfl ?_
  obtain ⟨v26, ev26, h⟩ := zb h
  refine z_iaload X dd_Reader_read_108 rfl ev26 ?_
  obtain ⟨w28, ew28, h⟩ := zb h
  obtain ⟨q27, eq27, h⟩ := zb h
  refine z_callVv X [.int v26] rfl dd_Reader_read_109 (c_Reader_checkLast l eq27) (cwV 1 X.1.2.2.2.2 (zg_V km_1226 km_1228 km_43 km_130 km_1229) rfl rfl rfl (by decide +kernel) ⟨Nat.le_of_ble_eq_true rfl, Nat.le_of_ble_eq_true rfl⟩) (zob_s ew28) kc_5 rfl (Nat.le_of_ble_eq_true rfl) ⟨Nat.le_of_ble_eq_true rfl, Nat.le_of_ble_eq_true rfl⟩ ?_
  refine z_iinc (v := (x5 + 1)) (lv' := [(5, .int (x5 + 1)), (0, .ref x0), (3, .ref x3)]) X dd_Reader_read_112 2 rfl rfl (by decide) rfl ?_
  refine z_goto (tgt := 19) X dd_Reader_read_115 (by decide) ?_
  refine z_sub [1, 2, 0] rfl ?_
  obtain rfl := Option.some.inj h
  exact k0 _ rfl
set_option maxRecDepth 100000 in
set_option maxHeartbeats 4000000 in
theorem t_Reader_read_52  (X : zX p s m args cd D cid B bb_Reader_read 7 rr_Reader zT) (H : zH s meth B n0 (some (.int)) "read") {nf : Nat} {x0 : Nat} {x3 : Nat} {x5 : Int32} {x6 : Int32} {c : Zc} {r : (Nat × Nat × Int32 × Zc) ⊕ (Nat × Nat × Zc)} (h : f_Reader_read_52 nf x0 x3 x5 x6 c = some r) (k0 : ∀ a, r = .inl a → (fun a : Nat × Nat × Int32 × Zc => Zz p l e (zRm 9 203 0 0) s m args below meth cd Q D cid B 7 0 0 a.2.2.2 19 [(0, .ref a.1), (3, .ref a.2.1), (5, .int a.2.2.1)] []) a) (k1 : ∀ b, r = .inr b → (fun b : Nat × Nat × Zc => Zz p l e (zRm 9 203 0 0) s m args below meth cd Q D cid B 7 0 0 b.2.2 118 [(0, .ref b.1), (3, .ref b.2.1)] []) b) : Zz p l e (zRm 9 203 0 0) s m args below meth cd Q D cid B 7 0 0 c 52 [(0, .ref x0), (3, .ref x3), (5, .int x5), (6, .int x6)] [] := by
  unfold f_Reader_read_52 at h
  obtain ⟨b, eb, h⟩ := zb h
  refine zlp_ok (P := fun a : Nat × Nat × Int32 × Int32 × Zc => Zz p l e (zRm 9 203 0 0) s m args below meth cd _ D cid B 7 0 0 a.2.2.2.2 52 [(0, .ref a.1), (3, .ref a.2.1), (5, .int a.2.2.1), (6, .int a.2.2.2.1)] []) (G := fun b : Nat × Nat × Int32 × Zc => Zz p l e (zRm 9 203 0 0) s m args below meth cd _ D cid B 7 0 0 b.2.2.2 98 [(0, .ref b.1), (3, .ref b.2.1), (5, .int b.2.2.1)] []) (fun a r ha k0 k1 => u_Reader_read_52 X H ha k0 k1) nf _ b eb ?_
  exact t_Reader_read_98 X H h k0 k1
set_option maxRecDepth 100000 in
set_option maxHeartbeats 4000000 in
theorem u_Reader_read_19  (X : zX p s m args cd D cid B bb_Reader_read 7 rr_Reader zT) (H : zH s meth B n0 (some (.int)) "read") {nf : Nat} {x0 : Nat} {x3 : Nat} {x5 : Int32} {c : Zc} {r : (Nat × Nat × Int32 × Zc) ⊕ (Nat × Nat × Zc)} (h : g_Reader_read_19 nf x0 x3 x5 c = some r) (k0 : ∀ a, r = .inl a → (fun a : Nat × Nat × Int32 × Zc => Zz p l e (zRm 9 203 0 0) s m args below meth cd Q D cid B 7 0 0 a.2.2.2 19 [(0, .ref a.1), (3, .ref a.2.1), (5, .int a.2.2.1)] []) a) (k1 : ∀ b, r = .inr b → (fun b : Nat × Nat × Zc => Zz p l e (zRm 9 203 0 0) s m args below meth cd Q D cid B 7 0 0 b.2.2 118 [(0, .ref b.1), (3, .ref b.2.1)] []) b) : Zz p l e (zRm 9 203 0 0) s m args below meth cd Q D cid B 7 0 0 c 19 [(0, .ref x0), (3, .ref x3), (5, .int x5)] [] := by
  unfold g_Reader_read_19 at h
  refine z_iload X dd_Reader_read_19 2 rfl ?_
  refine z_aload_n X dd_Reader_read_21 rfl 0 rfl ?_
  obtain ⟨v6, ev6, h⟩ := zb h
  refine z_get (j := 1) X dd_Reader_read_22 kc_5 ki_5 (by decide) km_475 (zgr_v ev6) ?_
  obtain ⟨v7, ev7, h⟩ := zb h
  refine z_get (j := 3) X dd_Reader_read_25 kc_3 ki_3 (by decide) km_423 (zgi_v ev7) ?_
  refine z_icmp_gt (tgt := 118) X dd_Reader_read_28 (by decide) (fun q8 => ?_) (fun q8 => ?_)
  · rw [if_pos q8] at h
    refine z_sub [0, 1] rfl ?_
    obtain rfl := Option.some.inj h
    exact k1 _ rfl
  · rw [if_neg q8] at h
    refine z_aload_n X dd_Reader_read_31 rfl 0 rfl ?_
    obtain ⟨v9, ev9, h⟩ := zb h
    refine z_get (j := 9) X dd_Reader_read_32 kc_5 ki_5 (by decide) km_483 (zgi_v ev9) ?_
    refine z_if_ne (tgt := 118) X dd_Reader_read_35 (by decide) (fun q10 => ?_) (fun q10 => ?_)
    · rw [if_neg q10] at h
      refine z_sub [0, 1] rfl ?_
      obtain rfl := Option.some.inj h
      exact k1 _ rfl
    · rw [if_pos q10] at h
      refine z_aload_n X dd_Reader_read_38 rfl 0 rfl ?_
      refine z_iload X dd_Reader_read_39 2 rfl ?_
      obtain ⟨c11, ec11, h⟩ := zb h
      refine z_put (j := 7) X dd_Reader_read_41 kc_5 ki_5 tt_Reader tk_Reader nn_Reader (by decide) km_481 rfl (tk_Reader 7 (by decide)) rfl rfl ec11 ?_
      refine z_aload_n X dd_Reader_read_44 rfl 0 rfl ?_
      refine z_iconst (v := 0) X dd_Reader_read_45 (by decide) ?_
      obtain ⟨c12, ec12, h⟩ := zb h
      refine z_put (j := 19) X dd_Reader_read_46 kc_5 ki_5 tt_Reader tk_Reader nn_Reader (by decide) km_493 rfl (tk_Reader 19 (by decide)) rfl rfl ec12 ?_
      refine z_iconst (v := 0) X dd_Reader_read_49 (by decide) ?_
      refine z_istore (lv' := [(6, .int 0), (0, .ref x0), (3, .ref x3), (5, .int x5)]) X dd_Reader_read_50 (by decide) rfl ?_
      refine z_sub [1, 2, 3, 0] rfl ?_
      exact t_Reader_read_52 X H h k0 k1
set_option maxRecDepth 100000 in
set_option maxHeartbeats 4000000 in
theorem t_Reader_read_131  (X : zX p s m args cd D cid B bb_Reader_read 7 rr_Reader zT) (H : zH s meth B n0 (some (.int)) "read") {nf : Nat} {x0 : Nat} {s0 : Nat} {s1 : Int32} {c : Zc} {res : Int32 × Zc} (h : f_Reader_read_131 nf x0 s0 s1 c = some res) : Zz p l e (zRm 9 203 0 0) s m args below meth cd (MQ below (zQi D cid B res.1 res.2 n0 0) args s 0 0 (fun q => B ≤ q)) D cid B 7 0 0 c 131 [(0, .ref x0)] [.int s1, .ref s0] := by
  unfold f_Reader_read_131 at h
  obtain ⟨c31, ec31, h⟩ := zb h
  obtain ⟨bc31, ec31⟩ := zpz_s ec31
  refine z_put (j := 0) X dd_Reader_read_131 kc_2 ki_2 tt_Text tk_Text nn_Text (by decide) km_300 rfl (tk_Text 0 (by decide)) (zn_z bc31) (zf_z bc31) ec31 ?_
  refine z_aload_n X dd_Reader_read_134 rfl 0 rfl ?_
  obtain ⟨v32, ev32, h⟩ := zb h
  refine z_get (j := 9) X dd_Reader_read_135 kc_5 ki_5 (by decide) km_483 (zgi_v ev32) ?_
  obtain rfl := Option.some.inj h
  exact z_iret X H.1 H.2.1 H.2.2.1 dd_Reader_read_138
set_option maxRecDepth 100000 in
set_option maxHeartbeats 4000000 in
theorem t_Reader_read_118  (X : zX p s m args cd D cid B bb_Reader_read 7 rr_Reader zT) (H : zH s meth B n0 (some (.int)) "read") {nf : Nat} {x0 : Nat} {x3 : Nat} {c : Zc} {res : Int32 × Zc} (h : f_Reader_read_118 nf x0 x3 c = some res) : Zz p l e (zRm 9 203 0 0) s m args below meth cd (MQ below (zQi D cid B res.1 res.2 n0 0) args s 0 0 (fun q => B ≤ q)) D cid B 7 0 0 c 118 [(0, .ref x0), (3, .ref x3)] [] := by
  unfold f_Reader_read_118 at h
  refine z_aload_n X dd_Reader_read_118 rfl 1 rfl ?_
  refine z_aload_n X dd_Reader_read_119 rfl 0 rfl ?_
  obtain ⟨v29, ev29, h⟩ := zb h
  refine z_get (j := 9) X dd_Reader_read_120 kc_5 ki_5 (by decide) km_483 (zgi_v ev29) ?_
  refine z_if_ne (tgt := 130) X dd_Reader_read_123 (by decide) (fun q30 => ?_) (fun q30 => ?_)
  · rw [if_neg q30] at h
    refine z_iconst (v := 0) X dd_Reader_read_130 (by decide) ?_
    refine z_sub [0] rfl ?_
    exact t_Reader_read_131 X H h
  · rw [if_pos q30] at h
    refine z_iconst (v := 1) X dd_Reader_read_126 (by decide) ?_
    refine z_goto (tgt := 131) X dd_Reader_read_127 (by decide) ?_
    refine z_sub [0] rfl ?_
    exact t_Reader_read_131 X H h
set_option maxRecDepth 100000 in
set_option maxHeartbeats 4000000 in
theorem t_Reader_read_19  (X : zX p s m args cd D cid B bb_Reader_read 7 rr_Reader zT) (H : zH s meth B n0 (some (.int)) "read") {nf : Nat} {x0 : Nat} {x3 : Nat} {x5 : Int32} {c : Zc} {res : Int32 × Zc} (h : f_Reader_read_19 nf x0 x3 x5 c = some res) : Zz p l e (zRm 9 203 0 0) s m args below meth cd (MQ below (zQi D cid B res.1 res.2 n0 0) args s 0 0 (fun q => B ≤ q)) D cid B 7 0 0 c 19 [(0, .ref x0), (3, .ref x3), (5, .int x5)] [] := by
  unfold f_Reader_read_19 at h
  obtain ⟨b, eb, h⟩ := zb h
  refine zlp_ok (P := fun a : Nat × Nat × Int32 × Zc => Zz p l e (zRm 9 203 0 0) s m args below meth cd _ D cid B 7 0 0 a.2.2.2 19 [(0, .ref a.1), (3, .ref a.2.1), (5, .int a.2.2.1)] []) (G := fun b : Nat × Nat × Zc => Zz p l e (zRm 9 203 0 0) s m args below meth cd _ D cid B 7 0 0 b.2.2 118 [(0, .ref b.1), (3, .ref b.2.1)] []) (fun a r ha k0 k1 => u_Reader_read_19 X H ha k0 k1) nf _ b eb ?_
  exact t_Reader_read_118 X H h
set_option maxRecDepth 100000 in
set_option maxHeartbeats 4000000 in
theorem c_Reader_read (l : Launch) {nf : Nat} {a0 : Nat} {a1 : Nat} {a2 : Int32} {a3 : Nat} {a4 : Int32} {c : Zc} {res : Int32 × Zc} (h : f_Reader_read nf a0 a1 a2 a3 a4 c = some res) : zM l yy_Reader_read ww_Reader_read 9 203 0 0 [.ref a0, .ref a1, .int a2, .ref a3, .int a4] c (fun D cid B => zQi D cid B res.1 res.2 c.length 0) := by
  refine z_met (cc := bb_Reader_read) (maxL := 7) (ret := (some (.int))) (by decide +kernel) rfl (Nat.le_of_ble_eq_true rfl) ?_
  intro p e s m args below meth cd D cid B X h1 h2 h3 h4
  have X : zX p s m args cd D cid B bb_Reader_read 7 rr_Reader zT := X
  have H : zH s meth B c.length (some (.int)) "read" := ⟨h1, h2, h4, h3⟩
  unfold f_Reader_read at h
  show Zz p l e (zRm 9 203 0 0) s m args below meth cd _ D cid B 7 0 0 c 0 [(0, .ref a0), (1, .ref a1), (2, .int a2), (3, .ref a3), (4, .int a4)] []
  refine z_aload_n X dd_Reader_read_0 rfl 0 rfl ?_
  refine z_aload_n X dd_Reader_read_1 rfl 3 rfl ?_
  refine z_iload X dd_Reader_read_2 4 rfl ?_
  obtain ⟨w2, ew2, h⟩ := zb h
  obtain ⟨q1, eq1, h⟩ := zb h
  refine z_callVv X [.ref a3, .int a4] rfl dd_Reader_read_4 (c_Reader_begin l eq1) (cwV 2 X.1.2.2.2.2 (zg_V km_816 km_818 km_1 km_130 km_819) rfl rfl rfl (by decide +kernel) ⟨Nat.le_of_ble_eq_true rfl, Nat.le_of_ble_eq_true rfl⟩) (zob_s ew2) kc_5 rfl (Nat.le_of_ble_eq_true rfl) ⟨Nat.le_of_ble_eq_true rfl, Nat.le_of_ble_eq_true rfl⟩ ?_
  refine z_aload_n X dd_Reader_read_7 rfl 0 rfl ?_
  obtain ⟨v3, ev3, h⟩ := zb h
  refine z_get (j := 1) X dd_Reader_read_8 kc_5 ki_5 (by decide) km_475 (zgr_v ev3) ?_
  refine z_aload_n X dd_Reader_read_11 rfl 1 rfl ?_
  refine z_iload_n X dd_Reader_read_12 rfl 2 rfl ?_
  obtain ⟨w5, ew5, h⟩ := zb h
  obtain ⟨q4, eq4, h⟩ := zb h
  refine z_callVv X [.ref a1, .int a2] rfl dd_Reader_read_13 (c_Tokens_split l eq4) (cwV 2 X.1.2.2.2.2 (zg_V km_837 km_838 km_839 km_131 km_840) rfl rfl rfl (by decide +kernel) ⟨Nat.le_of_ble_eq_true rfl, Nat.le_of_ble_eq_true rfl⟩) (zob_s ew5) kc_3 rfl (Nat.le_of_ble_eq_true rfl) ⟨Nat.le_of_ble_eq_true rfl, Nat.le_of_ble_eq_true rfl⟩ ?_
  refine z_iconst (v := 0) X dd_Reader_read_16 (by decide) ?_
  refine z_istore (lv' := [(5, .int 0), (0, .ref a0), (1, .ref a1), (2, .int a2), (3, .ref a3), (4, .int a4)]) X dd_Reader_read_17 (by decide) rfl ?_
  refine z_sub [1, 4, 0] rfl ?_
  exact t_Reader_read_19 X H h
theorem dd_Search_init_0 : decode bb_Search_init 0 = .ok (.aload_n 0, 1) := by decide +kernel
theorem dd_Search_init_1 : decode bb_Search_init 1 = .ok (.invokespecial 3, 3) := by decide +kernel
theorem dd_Search_init_4 : decode bb_Search_init 4 = .ok (.aload_n 0, 1) := by decide +kernel
theorem dd_Search_init_5 : decode bb_Search_init 5 = .ok (.bipush 8, 2) := by decide +kernel
theorem dd_Search_init_7 : decode bb_Search_init 7 = .ok (.newarray .int, 2) := by decide +kernel
theorem dd_Search_init_9 : decode bb_Search_init 9 = .ok (.putfield 9, 3) := by decide +kernel
theorem dd_Search_init_12 : decode bb_Search_init 12 = .ok (.aload_n 0, 1) := by decide +kernel
theorem dd_Search_init_13 : decode bb_Search_init 13 = .ok (.bipush 8, 2) := by decide +kernel
theorem dd_Search_init_15 : decode bb_Search_init 15 = .ok (.newarray .int, 2) := by decide +kernel
theorem dd_Search_init_17 : decode bb_Search_init 17 = .ok (.putfield 15, 3) := by decide +kernel
theorem dd_Search_init_20 : decode bb_Search_init 20 = .ok (.aload_n 0, 1) := by decide +kernel
theorem dd_Search_init_21 : decode bb_Search_init 21 = .ok (.bipush 8, 2) := by decide +kernel
theorem dd_Search_init_23 : decode bb_Search_init 23 = .ok (.newarray .int, 2) := by decide +kernel
theorem dd_Search_init_25 : decode bb_Search_init 25 = .ok (.putfield 18, 3) := by decide +kernel
theorem dd_Search_init_28 : decode bb_Search_init 28 = .ok (.aload_n 0, 1) := by decide +kernel
theorem dd_Search_init_29 : decode bb_Search_init 29 = .ok (.iconst 0, 1) := by decide +kernel
theorem dd_Search_init_30 : decode bb_Search_init 30 = .ok (.putfield 21, 3) := by decide +kernel
theorem dd_Search_init_33 : decode bb_Search_init 33 = .ok (.aload_n 0, 1) := by decide +kernel
theorem dd_Search_init_34 : decode bb_Search_init 34 = .ok (.iconst 0, 1) := by decide +kernel
theorem dd_Search_init_35 : decode bb_Search_init 35 = .ok (.putfield 25, 3) := by decide +kernel
theorem dd_Search_init_38 : decode bb_Search_init 38 = .ok (.aload_n 0, 1) := by decide +kernel
theorem dd_Search_init_39 : decode bb_Search_init 39 = .ok (.iconst 0, 1) := by decide +kernel
theorem dd_Search_init_40 : decode bb_Search_init 40 = .ok (.putfield 28, 3) := by decide +kernel
theorem dd_Search_init_43 : decode bb_Search_init 43 = .ok (.aload_n 0, 1) := by decide +kernel
theorem dd_Search_init_44 : decode bb_Search_init 44 = .ok (.iconst 0, 1) := by decide +kernel
theorem dd_Search_init_45 : decode bb_Search_init 45 = .ok (.putfield 31, 3) := by decide +kernel
theorem dd_Search_init_48 : decode bb_Search_init 48 = .ok (.aload_n 0, 1) := by decide +kernel
theorem dd_Search_init_49 : decode bb_Search_init 49 = .ok (.iconst 0, 1) := by decide +kernel
theorem dd_Search_init_50 : decode bb_Search_init 50 = .ok (.putfield 34, 3) := by decide +kernel
theorem dd_Search_init_53 : decode bb_Search_init 53 = .ok (.aload_n 0, 1) := by decide +kernel
theorem dd_Search_init_54 : decode bb_Search_init 54 = .ok (.iconst (-1), 1) := by decide +kernel
theorem dd_Search_init_55 : decode bb_Search_init 55 = .ok (.putfield 37, 3) := by decide +kernel
theorem dd_Search_init_58 : decode bb_Search_init 58 = .ok (.aload_n 0, 1) := by decide +kernel
theorem dd_Search_init_59 : decode bb_Search_init 59 = .ok (.aload_n 1, 1) := by decide +kernel
theorem dd_Search_init_60 : decode bb_Search_init 60 = .ok (.putfield 40, 3) := by decide +kernel
theorem dd_Search_init_63 : decode bb_Search_init 63 = .ok (.aload_n 0, 1) := by decide +kernel
theorem dd_Search_init_64 : decode bb_Search_init 64 = .ok (.aload_n 2, 1) := by decide +kernel
theorem dd_Search_init_65 : decode bb_Search_init 65 = .ok (.putfield 44, 3) := by decide +kernel
theorem dd_Search_init_68 : decode bb_Search_init 68 = .ok (.aload_n 0, 1) := by decide +kernel
theorem dd_Search_init_69 : decode bb_Search_init 69 = .ok (.aload_n 3, 1) := by decide +kernel
theorem dd_Search_init_70 : decode bb_Search_init 70 = .ok (.putfield 48, 3) := by decide +kernel
theorem dd_Search_init_73 : decode bb_Search_init 73 = .ok (.return_, 1) := by decide +kernel
set_option maxRecDepth 100000 in
set_option maxHeartbeats 4000000 in
theorem c_Search_init (l : Launch) {nf mc ms : Nat} {a0 : Nat} {a1 : Nat} {a2 : Nat} {a3 : Nat} {c : Zc} {res : Zc} (h : f_Search_init nf mc ms a0 a1 a2 a3 c = some res) : zM l yy_Search_init ww_Search_init 1 20 mc ms [.ref a0, .ref a1, .ref a2, .ref a3] c (fun D cid B => zQv D cid B res c.length mc) := by
  refine z_met (cc := bb_Search_init) (maxL := 4) (ret := none) (by decide +kernel) rfl (Nat.le_of_ble_eq_true rfl) ?_
  intro p e s m args below meth cd D cid B X h1 h2 h3 h4
  have X : zX p s m args cd D cid B bb_Search_init 4 rr_Search zT := X
  have H : zH s meth B c.length none "<init>" := ⟨h1, h2, h4, h3⟩
  unfold f_Search_init at h
  show Zz p l e (zRm 1 20 mc ms) s m args below meth cd _ D cid B 4 0 0 c 0 [(0, .ref a0), (1, .ref a1), (2, .ref a2), (3, .ref a3)] []
  refine z_aload_n X dd_Search_init_0 rfl 0 rfl ?_
  refine z_objInit X dd_Search_init_1 km_546 km_153 km_154 (Nat.le_of_ble_eq_true rfl) (Nat.le_of_ble_eq_true rfl) ?_
  refine z_aload_n X dd_Search_init_4 rfl 0 rfl ?_
  refine z_bipush (v := 8) X dd_Search_init_5 (by decide) ?_
  obtain ⟨u2, eu2, h⟩ := zb h
  obtain ⟨c1, ec1, h⟩ := zb h
  refine z_newaC (ty := .int) X dd_Search_init_7 rfl km_206 rfl (fun _ q => by cases q) (fun _ => rfl) (fun _ => rfl) (by decide) (by decide) (by decide) (zlim_s eu2).1 (zlim_s eu2).2 ec1 ?_
  obtain ⟨c3, ec3, h⟩ := zb h
  refine z_putF (j := 2) X dd_Search_init_9 kc_6 ki_6 tt_Search tk_Search nn_Search (by decide) km_549 rfl H.2.2.2 rfl (tk_Search 2 (by decide)) rfl rfl ec3 ?_
  refine z_aload_n X dd_Search_init_12 rfl 0 rfl ?_
  refine z_bipush (v := 8) X dd_Search_init_13 (by decide) ?_
  obtain ⟨u5, eu5, h⟩ := zb h
  obtain ⟨c4, ec4, h⟩ := zb h
  refine z_newaC (ty := .int) X dd_Search_init_15 rfl km_206 rfl (fun _ q => by cases q) (fun _ => rfl) (fun _ => rfl) (by decide) (by decide) (by decide) (zlim_s eu5).1 (zlim_s eu5).2 ec4 ?_
  obtain ⟨c6, ec6, h⟩ := zb h
  refine z_putF (j := 3) X dd_Search_init_17 kc_6 ki_6 tt_Search tk_Search nn_Search (by decide) km_550 rfl H.2.2.2 rfl (tk_Search 3 (by decide)) rfl rfl ec6 ?_
  refine z_aload_n X dd_Search_init_20 rfl 0 rfl ?_
  refine z_bipush (v := 8) X dd_Search_init_21 (by decide) ?_
  obtain ⟨u8, eu8, h⟩ := zb h
  obtain ⟨c7, ec7, h⟩ := zb h
  refine z_newaC (ty := .int) X dd_Search_init_23 rfl km_206 rfl (fun _ q => by cases q) (fun _ => rfl) (fun _ => rfl) (by decide) (by decide) (by decide) (zlim_s eu8).1 (zlim_s eu8).2 ec7 ?_
  obtain ⟨c9, ec9, h⟩ := zb h
  refine z_putF (j := 4) X dd_Search_init_25 kc_6 ki_6 tt_Search tk_Search nn_Search (by decide) km_551 rfl H.2.2.2 rfl (tk_Search 4 (by decide)) rfl rfl ec9 ?_
  refine z_aload_n X dd_Search_init_28 rfl 0 rfl ?_
  refine z_iconst (v := 0) X dd_Search_init_29 (by decide) ?_
  obtain ⟨c10, ec10, h⟩ := zb h
  refine z_put (j := 6) X dd_Search_init_30 kc_6 ki_6 tt_Search tk_Search nn_Search (by decide) km_553 rfl (tk_Search 6 (by decide)) rfl rfl ec10 ?_
  refine z_aload_n X dd_Search_init_33 rfl 0 rfl ?_
  refine z_iconst (v := 0) X dd_Search_init_34 (by decide) ?_
  obtain ⟨c11, ec11, h⟩ := zb h
  refine z_put (j := 7) X dd_Search_init_35 kc_6 ki_6 tt_Search tk_Search nn_Search (by decide) km_554 rfl (tk_Search 7 (by decide)) rfl rfl ec11 ?_
  refine z_aload_n X dd_Search_init_38 rfl 0 rfl ?_
  refine z_iconst (v := 0) X dd_Search_init_39 (by decide) ?_
  obtain ⟨c12, ec12, h⟩ := zb h
  refine z_put (j := 8) X dd_Search_init_40 kc_6 ki_6 tt_Search tk_Search nn_Search (by decide) km_555 rfl (tk_Search 8 (by decide)) rfl rfl ec12 ?_
  refine z_aload_n X dd_Search_init_43 rfl 0 rfl ?_
  refine z_iconst (v := 0) X dd_Search_init_44 (by decide) ?_
  obtain ⟨c13, ec13, h⟩ := zb h
  refine z_put (j := 9) X dd_Search_init_45 kc_6 ki_6 tt_Search tk_Search nn_Search (by decide) km_556 rfl (tk_Search 9 (by decide)) rfl rfl ec13 ?_
  refine z_aload_n X dd_Search_init_48 rfl 0 rfl ?_
  refine z_iconst (v := 0) X dd_Search_init_49 (by decide) ?_
  obtain ⟨c14, ec14, h⟩ := zb h
  refine z_put (j := 10) X dd_Search_init_50 kc_6 ki_6 tt_Search tk_Search nn_Search (by decide) km_557 rfl (tk_Search 10 (by decide)) rfl rfl ec14 ?_
  refine z_aload_n X dd_Search_init_53 rfl 0 rfl ?_
  refine z_iconst (v := (-1)) X dd_Search_init_54 (by decide) ?_
  obtain ⟨c15, ec15, h⟩ := zb h
  refine z_put (j := 11) X dd_Search_init_55 kc_6 ki_6 tt_Search tk_Search nn_Search (by decide) km_558 rfl (tk_Search 11 (by decide)) rfl rfl ec15 ?_
  refine z_aload_n X dd_Search_init_58 rfl 0 rfl ?_
  refine z_aload_n X dd_Search_init_59 rfl 1 rfl ?_
  obtain ⟨c16, ec16, h⟩ := zb h
  refine z_putF (j := 0) X dd_Search_init_60 kc_6 ki_6 tt_Search tk_Search nn_Search (by decide) km_547 rfl H.2.2.2 rfl (tk_Search 0 (by decide)) rfl rfl ec16 ?_
  refine z_aload_n X dd_Search_init_63 rfl 0 rfl ?_
  refine z_aload_n X dd_Search_init_64 rfl 2 rfl ?_
  obtain ⟨c17, ec17, h⟩ := zb h
  refine z_put (j := 5) X dd_Search_init_65 kc_6 ki_6 tt_Search tk_Search nn_Search (by decide) km_552 rfl (tk_Search 5 (by decide)) rfl rfl ec17 ?_
  refine z_aload_n X dd_Search_init_68 rfl 0 rfl ?_
  refine z_aload_n X dd_Search_init_69 rfl 3 rfl ?_
  obtain ⟨c18, ec18, h⟩ := zb h
  refine z_putF (j := 1) X dd_Search_init_70 kc_6 ki_6 tt_Search tk_Search nn_Search (by decide) km_548 rfl H.2.2.2 rfl (tk_Search 1 (by decide)) rfl rfl ec18 ?_
  obtain ⟨u19, eu19, h⟩ := zb h
  refine z_wid (zend_s eu19).1 (zend_s eu19).2 ?_
  obtain rfl := Option.some.inj h
  exact z_vret X H.1 H.2.1 H.2.2.1 dd_Search_init_73
theorem dd_Search_candidates_0 : decode bb_Search_candidates 0 = .ok (.aload_n 0, 1) := by decide +kernel
theorem dd_Search_candidates_1 : decode bb_Search_candidates 1 = .ok (.getfield 9, 3) := by decide +kernel
theorem dd_Search_candidates_4 : decode bb_Search_candidates 4 = .ok (.iload_n 1, 1) := by decide +kernel
theorem dd_Search_candidates_5 : decode bb_Search_candidates 5 = .ok (.iaload, 1) := by decide +kernel
theorem dd_Search_candidates_6 : decode bb_Search_candidates 6 = .ok (.istore_n 2, 1) := by decide +kernel
theorem dd_Search_candidates_7 : decode bb_Search_candidates 7 = .ok (.aload_n 0, 1) := by decide +kernel
theorem dd_Search_candidates_8 : decode bb_Search_candidates 8 = .ok (.getfield 15, 3) := by decide +kernel
theorem dd_Search_candidates_11 : decode bb_Search_candidates 11 = .ok (.iload_n 1, 1) := by decide +kernel
theorem dd_Search_candidates_12 : decode bb_Search_candidates 12 = .ok (.iaload, 1) := by decide +kernel
theorem dd_Search_candidates_13 : decode bb_Search_candidates 13 = .ok (.istore_n 3, 1) := by decide +kernel
theorem dd_Search_candidates_14 : decode bb_Search_candidates 14 = .ok (.iconst 1, 1) := by decide +kernel
theorem dd_Search_candidates_15 : decode bb_Search_candidates 15 = .ok (.aload_n 0, 1) := by decide +kernel
theorem dd_Search_candidates_16 : decode bb_Search_candidates 16 = .ok (.getfield 40, 3) := by decide +kernel
theorem dd_Search_candidates_19 : decode bb_Search_candidates 19 = .ok (.getfield 84, 3) := by decide +kernel
theorem dd_Search_candidates_22 : decode bb_Search_candidates 22 = .ok (.ishl, 1) := by decide +kernel
theorem dd_Search_candidates_23 : decode bb_Search_candidates 23 = .ok (.iconst 1, 1) := by decide +kernel
theorem dd_Search_candidates_24 : decode bb_Search_candidates 24 = .ok (.isub, 1) := by decide +kernel
theorem dd_Search_candidates_25 : decode bb_Search_candidates 25 = .ok (.istore 4, 2) := by decide +kernel
theorem dd_Search_candidates_27 : decode bb_Search_candidates 27 = .ok (.aload_n 0, 1) := by decide +kernel
theorem dd_Search_candidates_28 : decode bb_Search_candidates 28 = .ok (.getfield 28, 3) := by decide +kernel
theorem dd_Search_candidates_31 : decode bb_Search_candidates 31 = .ok (.istore 5, 2) := by decide +kernel
theorem dd_Search_candidates_33 : decode bb_Search_candidates 33 = .ok (.iload 5, 2) := by decide +kernel
theorem dd_Search_candidates_35 : decode bb_Search_candidates 35 = .ok (.aload_n 0, 1) := by decide +kernel
theorem dd_Search_candidates_36 : decode bb_Search_candidates 36 = .ok (.getfield 31, 3) := by decide +kernel
theorem dd_Search_candidates_39 : decode bb_Search_candidates 39 = .ok (.if_icmp .ge 42, 3) := by decide +kernel
theorem dd_Search_candidates_42 : decode bb_Search_candidates 42 = .ok (.aload_n 0, 1) := by decide +kernel
theorem dd_Search_candidates_43 : decode bb_Search_candidates 43 = .ok (.getfield 44, 3) := by decide +kernel
theorem dd_Search_candidates_46 : decode bb_Search_candidates 46 = .ok (.getfield 89, 3) := by decide +kernel
theorem dd_Search_candidates_49 : decode bb_Search_candidates 49 = .ok (.iload 5, 2) := by decide +kernel
theorem dd_Search_candidates_51 : decode bb_Search_candidates 51 = .ok (.iaload, 1) := by decide +kernel
theorem dd_Search_candidates_52 : decode bb_Search_candidates 52 = .ok (.sipush 256, 3) := by decide +kernel
theorem dd_Search_candidates_55 : decode bb_Search_candidates 55 = .ok (.idiv, 1) := by decide +kernel
theorem dd_Search_candidates_56 : decode bb_Search_candidates 56 = .ok (.iload_n 2, 1) := by decide +kernel
theorem dd_Search_candidates_57 : decode bb_Search_candidates 57 = .ok (.if_icmp .ne 18, 3) := by decide +kernel
theorem dd_Search_candidates_60 : decode bb_Search_candidates 60 = .ok (.iload 4, 2) := by decide +kernel
theorem dd_Search_candidates_62 : decode bb_Search_candidates 62 = .ok (.aload_n 0, 1) := by decide +kernel
theorem dd_Search_candidates_63 : decode bb_Search_candidates 63 = .ok (.getfield 44, 3) := by decide +kernel
theorem dd_Search_candidates_66 : decode bb_Search_candidates 66 = .ok (.getfield 92, 3) := by decide +kernel
theorem dd_Search_candidates_69 : decode bb_Search_candidates 69 = .ok (.iload 5, 2) := by decide +kernel
theorem dd_Search_candidates_71 : decode bb_Search_candidates 71 = .ok (.iaload, 1) := by decide +kernel
theorem dd_Search_candidates_72 : decode bb_Search_candidates 72 = .ok (.iand, 1) := by decide +kernel
theorem dd_Search_candidates_73 : decode bb_Search_candidates 73 = .ok (.istore 4, 2) := by decide +kernel
theorem dd_Search_candidates_75 : decode bb_Search_candidates 75 = .ok (.iinc 5 1, 3) := by decide +kernel
theorem dd_Search_candidates_78 : decode bb_Search_candidates 78 = .ok (.goto (-45), 3) := by decide +kernel
theorem dd_Search_candidates_81 : decode bb_Search_candidates 81 = .ok (.aload_n 0, 1) := by decide +kernel
theorem dd_Search_candidates_82 : decode bb_Search_candidates 82 = .ok (.getfield 21, 3) := by decide +kernel
theorem dd_Search_candidates_85 : decode bb_Search_candidates 85 = .ok (.istore 5, 2) := by decide +kernel
theorem dd_Search_candidates_87 : decode bb_Search_candidates 87 = .ok (.iload 5, 2) := by decide +kernel
theorem dd_Search_candidates_89 : decode bb_Search_candidates 89 = .ok (.aload_n 0, 1) := by decide +kernel
theorem dd_Search_candidates_90 : decode bb_Search_candidates 90 = .ok (.getfield 25, 3) := by decide +kernel
theorem dd_Search_candidates_93 : decode bb_Search_candidates 93 = .ok (.if_icmp .ge 144, 3) := by decide +kernel
theorem dd_Search_candidates_96 : decode bb_Search_candidates 96 = .ok (.iload 4, 2) := by decide +kernel
theorem dd_Search_candidates_98 : decode bb_Search_candidates 98 = .ok (.ifCond .eq 139, 3) := by decide +kernel
theorem dd_Search_candidates_101 : decode bb_Search_candidates 101 = .ok (.aload_n 0, 1) := by decide +kernel
theorem dd_Search_candidates_102 : decode bb_Search_candidates 102 = .ok (.getfield 44, 3) := by decide +kernel
theorem dd_Search_candidates_105 : decode bb_Search_candidates 105 = .ok (.getfield 95, 3) := by decide +kernel
theorem dd_Search_candidates_108 : decode bb_Search_candidates 108 = .ok (.iload 5, 2) := by decide +kernel
theorem dd_Search_candidates_110 : decode bb_Search_candidates 110 = .ok (.aaload, 1) := by decide +kernel
theorem dd_Search_candidates_111 : decode bb_Search_candidates 111 = .ok (.astore 6, 2) := by decide +kernel
theorem dd_Search_candidates_113 : decode bb_Search_candidates 113 = .ok (.aload 6, 2) := by decide +kernel
theorem dd_Search_candidates_115 : decode bb_Search_candidates 115 = .ok (.getfield 99, 3) := by decide +kernel
theorem dd_Search_candidates_118 : decode bb_Search_candidates 118 = .ok (.iload_n 2, 1) := by decide +kernel
theorem dd_Search_candidates_119 : decode bb_Search_candidates 119 = .ok (.if_icmp .ne 25, 3) := by decide +kernel
theorem dd_Search_candidates_122 : decode bb_Search_candidates 122 = .ok (.aload 6, 2) := by decide +kernel
theorem dd_Search_candidates_124 : decode bb_Search_candidates 124 = .ok (.getfield 104, 3) := by decide +kernel
theorem dd_Search_candidates_127 : decode bb_Search_candidates 127 = .ok (.iload_n 2, 1) := by decide +kernel
theorem dd_Search_candidates_128 : decode bb_Search_candidates 128 = .ok (.if_icmp .ne 16, 3) := by decide +kernel
theorem dd_Search_candidates_131 : decode bb_Search_candidates 131 = .ok (.iload 4, 2) := by decide +kernel
theorem dd_Search_candidates_133 : decode bb_Search_candidates 133 = .ok (.aload 6, 2) := by decide +kernel
theorem dd_Search_candidates_135 : decode bb_Search_candidates 135 = .ok (.getfield 107, 3) := by decide +kernel
theorem dd_Search_candidates_138 : decode bb_Search_candidates 138 = .ok (.iand, 1) := by decide +kernel
theorem dd_Search_candidates_139 : decode bb_Search_candidates 139 = .ok (.istore 4, 2) := by decide +kernel
theorem dd_Search_candidates_141 : decode bb_Search_candidates 141 = .ok (.goto 90, 3) := by decide +kernel
theorem dd_Search_candidates_144 : decode bb_Search_candidates 144 = .ok (.aload 6, 2) := by decide +kernel
theorem dd_Search_candidates_146 : decode bb_Search_candidates 146 = .ok (.getfield 99, 3) := by decide +kernel
theorem dd_Search_candidates_149 : decode bb_Search_candidates 149 = .ok (.iload_n 2, 1) := by decide +kernel
theorem dd_Search_candidates_150 : decode bb_Search_candidates 150 = .ok (.if_icmp .ne 39, 3) := by decide +kernel
theorem dd_Search_candidates_153 : decode bb_Search_candidates 153 = .ok (.iload_n 3, 1) := by decide +kernel
theorem dd_Search_candidates_154 : decode bb_Search_candidates 154 = .ok (.aload 6, 2) := by decide +kernel
theorem dd_Search_candidates_156 : decode bb_Search_candidates 156 = .ok (.getfield 104, 3) := by decide +kernel
theorem dd_Search_candidates_159 : decode bb_Search_candidates 159 = .ok (.ishr, 1) := by decide +kernel
theorem dd_Search_candidates_160 : decode bb_Search_candidates 160 = .ok (.iconst 1, 1) := by decide +kernel
theorem dd_Search_candidates_161 : decode bb_Search_candidates 161 = .ok (.iand, 1) := by decide +kernel
theorem dd_Search_candidates_162 : decode bb_Search_candidates 162 = .ok (.ifCond .eq 27, 3) := by decide +kernel
theorem dd_Search_candidates_165 : decode bb_Search_candidates 165 = .ok (.iload 4, 2) := by decide +kernel
theorem dd_Search_candidates_167 : decode bb_Search_candidates 167 = .ok (.aload 6, 2) := by decide +kernel
theorem dd_Search_candidates_169 : decode bb_Search_candidates 169 = .ok (.getfield 110, 3) := by decide +kernel
theorem dd_Search_candidates_172 : decode bb_Search_candidates 172 = .ok (.aload_n 0, 1) := by decide +kernel
theorem dd_Search_candidates_173 : decode bb_Search_candidates 173 = .ok (.getfield 48, 3) := by decide +kernel
theorem dd_Search_candidates_176 : decode bb_Search_candidates 176 = .ok (.aload 6, 2) := by decide +kernel
theorem dd_Search_candidates_178 : decode bb_Search_candidates 178 = .ok (.getfield 104, 3) := by decide +kernel
theorem dd_Search_candidates_181 : decode bb_Search_candidates 181 = .ok (.iaload, 1) := by decide +kernel
theorem dd_Search_candidates_182 : decode bb_Search_candidates 182 = .ok (.iaload, 1) := by decide +kernel
theorem dd_Search_candidates_183 : decode bb_Search_candidates 183 = .ok (.iand, 1) := by decide +kernel
theorem dd_Search_candidates_184 : decode bb_Search_candidates 184 = .ok (.istore 4, 2) := by decide +kernel
theorem dd_Search_candidates_186 : decode bb_Search_candidates 186 = .ok (.goto 45, 3) := by decide +kernel
theorem dd_Search_candidates_189 : decode bb_Search_candidates 189 = .ok (.aload 6, 2) := by decide +kernel
theorem dd_Search_candidates_191 : decode bb_Search_candidates 191 = .ok (.getfield 104, 3) := by decide +kernel
theorem dd_Search_candidates_194 : decode bb_Search_candidates 194 = .ok (.iload_n 2, 1) := by decide +kernel
theorem dd_Search_candidates_195 : decode bb_Search_candidates 195 = .ok (.if_icmp .ne 36, 3) := by decide +kernel
theorem dd_Search_candidates_198 : decode bb_Search_candidates 198 = .ok (.iload_n 3, 1) := by decide +kernel
theorem dd_Search_candidates_199 : decode bb_Search_candidates 199 = .ok (.aload 6, 2) := by decide +kernel
theorem dd_Search_candidates_201 : decode bb_Search_candidates 201 = .ok (.getfield 99, 3) := by decide +kernel
theorem dd_Search_candidates_204 : decode bb_Search_candidates 204 = .ok (.ishr, 1) := by decide +kernel
theorem dd_Search_candidates_205 : decode bb_Search_candidates 205 = .ok (.iconst 1, 1) := by decide +kernel
theorem dd_Search_candidates_206 : decode bb_Search_candidates 206 = .ok (.iand, 1) := by decide +kernel
theorem dd_Search_candidates_207 : decode bb_Search_candidates 207 = .ok (.ifCond .eq 24, 3) := by decide +kernel
theorem dd_Search_candidates_210 : decode bb_Search_candidates 210 = .ok (.iload 4, 2) := by decide +kernel
theorem dd_Search_candidates_212 : decode bb_Search_candidates 212 = .ok (.aload 6, 2) := by decide +kernel
theorem dd_Search_candidates_214 : decode bb_Search_candidates 214 = .ok (.getfield 113, 3) := by decide +kernel
theorem dd_Search_candidates_217 : decode bb_Search_candidates 217 = .ok (.aload_n 0, 1) := by decide +kernel
theorem dd_Search_candidates_218 : decode bb_Search_candidates 218 = .ok (.getfield 48, 3) := by decide +kernel
theorem dd_Search_candidates_221 : decode bb_Search_candidates 221 = .ok (.aload 6, 2) := by decide +kernel
theorem dd_Search_candidates_223 : decode bb_Search_candidates 223 = .ok (.getfield 99, 3) := by decide +kernel
theorem dd_Search_candidates_226 : decode bb_Search_candidates 226 = .ok (.iaload, 1) := by decide +kernel
theorem dd_Search_candidates_227 : decode bb_Search_candidates 227 = .ok (.iaload, 1) := by decide +kernel
theorem dd_Search_candidates_228 : decode bb_Search_candidates 228 = .ok (.iand, 1) := by decide +kernel
theorem dd_Search_candidates_229 : decode bb_Search_candidates 229 = .ok (.istore 4, 2) := by decide +kernel
theorem dd_Search_candidates_231 : decode bb_Search_candidates 231 = .ok (.iinc 5 1, 3) := by decide +kernel
theorem dd_Search_candidates_234 : decode bb_Search_candidates 234 = .ok (.goto (-147), 3) := by decide +kernel
theorem dd_Search_candidates_237 : decode bb_Search_candidates 237 = .ok (.iload 4, 2) := by decide +kernel
theorem dd_Search_candidates_239 : decode bb_Search_candidates 239 = .ok (.ireturn, 1) := by decide +kernel
set_option maxRecDepth 100000 in
set_option maxHeartbeats 4000000 in
theorem t_Search_candidates_75  (X : zX p s m args cd D cid B bb_Search_candidates 7 rr_Search zT) (H : zH s meth B n0 (some (.int)) "candidates") {nf : Nat} {x0 : Nat} {x2 : Int32} {x3 : Int32} {x4 : Int32} {x5 : Int32} {c : Zc} {r : (Nat × Int32 × Int32 × Int32 × Int32 × Zc) ⊕ (Nat × Int32 × Int32 × Int32 × Zc)} (h : f_Search_candidates_75 nf x0 x2 x3 x4 x5 c = some r) (k0 : ∀ a, r = .inl a → (fun a : Nat × Int32 × Int32 × Int32 × Int32 × Zc => Zz p l e (zRm 0 0 0 0) s m args below meth cd Q D cid B 7 0 0 a.2.2.2.2.2 33 [(0, .ref a.1), (2, .int a.2.1), (3, .int a.2.2.1), (4, .int a.2.2.2.1), (5, .int a.2.2.2.2.1)] []) a) (k1 : ∀ b, r = .inr b → (fun b : Nat × Int32 × Int32 × Int32 × Zc => Zz p l e (zRm 0 0 0 0) s m args below meth cd Q D cid B 7 0 0 b.2.2.2.2 81 [(0, .ref b.1), (2, .int b.2.1), (3, .int b.2.2.1), (4, .int b.2.2.2.1)] []) b) : Zz p l e (zRm 0 0 0 0) s m args below meth cd Q D cid B 7 0 0 c 75 [(0, .ref x0), (2, .int x2), (3, .int x3), (4, .int x4), (5, .int x5)] [] := by
  unfold f_Search_candidates_75 at h
  refine z_iinc (v := (x5 + 1)) (lv' := [(5, .int (x5 + 1)), (0, .ref x0), (2, .int x2), (3, .int x3), (4, .int x4)]) X dd_Search_candidates_75 4 rfl rfl (by decide) rfl ?_
  refine z_goto (tgt := 33) X dd_Search_candidates_78 (by decide) ?_
  refine z_sub [1, 2, 3, 4, 0] rfl ?_
  obtain rfl := Option.some.inj h
  exact k0 _ rfl
set_option maxRecDepth 100000 in
set_option maxHeartbeats 4000000 in
theorem u_Search_candidates_33  (X : zX p s m args cd D cid B bb_Search_candidates 7 rr_Search zT) (H : zH s meth B n0 (some (.int)) "candidates") {nf : Nat} {x0 : Nat} {x2 : Int32} {x3 : Int32} {x4 : Int32} {x5 : Int32} {c : Zc} {r : (Nat × Int32 × Int32 × Int32 × Int32 × Zc) ⊕ (Nat × Int32 × Int32 × Int32 × Zc)} (h : g_Search_candidates_33 nf x0 x2 x3 x4 x5 c = some r) (k0 : ∀ a, r = .inl a → (fun a : Nat × Int32 × Int32 × Int32 × Int32 × Zc => Zz p l e (zRm 0 0 0 0) s m args below meth cd Q D cid B 7 0 0 a.2.2.2.2.2 33 [(0, .ref a.1), (2, .int a.2.1), (3, .int a.2.2.1), (4, .int a.2.2.2.1), (5, .int a.2.2.2.2.1)] []) a) (k1 : ∀ b, r = .inr b → (fun b : Nat × Int32 × Int32 × Int32 × Zc => Zz p l e (zRm 0 0 0 0) s m args below meth cd Q D cid B 7 0 0 b.2.2.2.2 81 [(0, .ref b.1), (2, .int b.2.1), (3, .int b.2.2.1), (4, .int b.2.2.2.1)] []) b) : Zz p l e (zRm 0 0 0 0) s m args below meth cd Q D cid B 7 0 0 c 33 [(0, .ref x0), (2, .int x2), (3, .int x3), (4, .int x4), (5, .int x5)] [] := by
  unfold g_Search_candidates_33 at h
  refine z_iload X dd_Search_candidates_33 4 rfl ?_
  refine z_aload_n X dd_Search_candidates_35 rfl 0 rfl ?_
  obtain ⟨v8, ev8, h⟩ := zb h
  refine z_get (j := 9) X dd_Search_candidates_36 kc_6 ki_6 (by decide) km_556 (zgi_v ev8) ?_
  refine z_icmp_ge (tgt := 81) X dd_Search_candidates_39 (by decide) (fun q9 => ?_) (fun q9 => ?_)
  · rw [if_pos q9] at h
    refine z_sub [0, 1, 2, 3] rfl ?_
    obtain rfl := Option.some.inj h
    exact k1 _ rfl
  · rw [if_neg q9] at h
    refine z_aload_n X dd_Search_candidates_42 rfl 0 rfl ?_
    obtain ⟨v10, ev10, h⟩ := zb h
    refine z_get (j := 5) X dd_Search_candidates_43 kc_6 ki_6 (by decide) km_552 (zgr_v ev10) ?_
    obtain ⟨v11, ev11, h⟩ := zb h
    refine z_get (j := 6) X dd_Search_candidates_46 kc_2 ki_2 (by decide) km_323 (zgr_v ev11) ?_
    refine z_iload X dd_Search_candidates_49 4 rfl ?_
    obtain ⟨v12, ev12, h⟩ := zb h
    refine z_iaload X dd_Search_candidates_51 rfl ev12 ?_
    refine z_sipush (v := 256) X dd_Search_candidates_52 (by decide) ?_
    refine z_idiv X dd_Search_candidates_55 (by decide) ?_
    refine z_iload_n X dd_Search_candidates_56 rfl 1 rfl ?_
    refine z_icmp_ne (tgt := 75) X dd_Search_candidates_57 (by decide) (fun q14 => ?_) (fun q14 => ?_)
    · rw [if_neg q14] at h
      exact t_Search_candidates_75 X H h k0 k1
    · rw [if_pos q14] at h
      refine z_iload X dd_Search_candidates_60 3 rfl ?_
      refine z_aload_n X dd_Search_candidates_62 rfl 0 rfl ?_
      obtain ⟨v15, ev15, h⟩ := zb h
      refine z_get (j := 5) X dd_Search_candidates_63 kc_6 ki_6 (by decide) km_552 (zgr_v ev15) ?_
      obtain ⟨v16, ev16, h⟩ := zb h
      refine z_get (j := 7) X dd_Search_candidates_66 kc_2 ki_2 (by decide) km_326 (zgr_v ev16) ?_
      refine z_iload X dd_Search_candidates_69 4 rfl ?_
      obtain ⟨v17, ev17, h⟩ := zb h
      refine z_iaload X dd_Search_candidates_71 rfl ev17 ?_
      refine z_iand X dd_Search_candidates_72 ?_
      refine z_istore (lv' := [(4, .int (x4 &&& v17)), (0, .ref x0), (2, .int x2), (3, .int x3), (5, .int x5)]) X dd_Search_candidates_73 (by decide) rfl ?_
      refine z_sub [1, 2, 3, 0, 4] rfl ?_
      exact t_Search_candidates_75 X H h k0 k1
set_option maxRecDepth 100000 in
set_option maxHeartbeats 4000000 in
theorem t_Search_candidates_231  (X : zX p s m args cd D cid B bb_Search_candidates 7 rr_Search zT) (H : zH s meth B n0 (some (.int)) "candidates") {nf : Nat} {x0 : Nat} {x2 : Int32} {x3 : Int32} {x4 : Int32} {x5 : Int32} {c : Zc} {r : (Nat × Int32 × Int32 × Int32 × Int32 × Zc) ⊕ (Int32 × Zc)} (h : f_Search_candidates_231 nf x0 x2 x3 x4 x5 c = some r) (k0 : ∀ a, r = .inl a → (fun a : Nat × Int32 × Int32 × Int32 × Int32 × Zc => Zz p l e (zRm 0 0 0 0) s m args below meth cd Q D cid B 7 0 0 a.2.2.2.2.2 87 [(0, .ref a.1), (2, .int a.2.1), (3, .int a.2.2.1), (4, .int a.2.2.2.1), (5, .int a.2.2.2.2.1)] []) a) (k1 : ∀ b, r = .inr b → (fun b : Int32 × Zc => Zz p l e (zRm 0 0 0 0) s m args below meth cd Q D cid B 7 0 0 b.2 237 [(4, .int b.1)] []) b) : Zz p l e (zRm 0 0 0 0) s m args below meth cd Q D cid B 7 0 0 c 231 [(0, .ref x0), (2, .int x2), (3, .int x3), (4, .int x4), (5, .int x5)] [] := by
  unfold f_Search_candidates_231 at h
  refine z_iinc (v := (x5 + 1)) (lv' := [(5, .int (x5 + 1)), (0, .ref x0), (2, .int x2), (3, .int x3), (4, .int x4)]) X dd_Search_candidates_231 4 rfl rfl (by decide) rfl ?_
  refine z_goto (tgt := 87) X dd_Search_candidates_234 (by decide) ?_
  refine z_sub [1, 2, 3, 4, 0] rfl ?_
  obtain rfl := Option.some.inj h
  exact k0 _ rfl
set_option maxRecDepth 100000 in
set_option maxHeartbeats 4000000 in
theorem t_Search_candidates_189  (X : zX p s m args cd D cid B bb_Search_candidates 7 rr_Search zT) (H : zH s meth B n0 (some (.int)) "candidates") {nf : Nat} {x0 : Nat} {x2 : Int32} {x3 : Int32} {x4 : Int32} {x5 : Int32} {x6 : Nat} {c : Zc} {r : (Nat × Int32 × Int32 × Int32 × Int32 × Zc) ⊕ (Int32 × Zc)} (h : f_Search_candidates_189 nf x0 x2 x3 x4 x5 x6 c = some r) (k0 : ∀ a, r = .inl a → (fun a : Nat × Int32 × Int32 × Int32 × Int32 × Zc => Zz p l e (zRm 0 0 0 0) s m args below meth cd Q D cid B 7 0 0 a.2.2.2.2.2 87 [(0, .ref a.1), (2, .int a.2.1), (3, .int a.2.2.1), (4, .int a.2.2.2.1), (5, .int a.2.2.2.2.1)] []) a) (k1 : ∀ b, r = .inr b → (fun b : Int32 × Zc => Zz p l e (zRm 0 0 0 0) s m args below meth cd Q D cid B 7 0 0 b.2 237 [(4, .int b.1)] []) b) : Zz p l e (zRm 0 0 0 0) s m args below meth cd Q D cid B 7 0 0 c 189 [(0, .ref x0), (2, .int x2), (3, .int x3), (4, .int x4), (5, .int x5), (6, .ref x6)] [] := by
  unfold f_Search_candidates_189 at h
  refine z_aload X dd_Search_candidates_189 5 rfl ?_
  obtain ⟨v29, ev29, h⟩ := zb h
  refine z_get (j := 1) X dd_Search_candidates_191 kc_1 ki_1 (by decide) km_226 (zgi_v ev29) ?_
  refine z_iload_n X dd_Search_candidates_194 rfl 1 rfl ?_
  refine z_icmp_ne (tgt := 231) X dd_Search_candidates_195 (by decide) (fun q30 => ?_) (fun q30 => ?_)
  · rw [if_neg q30] at h
    refine z_sub [0, 1, 2, 3, 4] rfl ?_
    exact t_Search_candidates_231 X H h k0 k1
  · rw [if_pos q30] at h
    refine z_iload_n X dd_Search_candidates_198 rfl 2 rfl ?_
    refine z_aload X dd_Search_candidates_199 5 rfl ?_
    obtain ⟨v31, ev31, h⟩ := zb h
    refine z_get (j := 0) X dd_Search_candidates_201 kc_1 ki_1 (by decide) km_223 (zgi_v ev31) ?_
    refine z_ishr X dd_Search_candidates_204 ?_
    refine z_iconst (v := 1) X dd_Search_candidates_205 (by decide) ?_
    refine z_iand X dd_Search_candidates_206 ?_
    refine z_if_eq (tgt := 231) X dd_Search_candidates_207 (by decide) (fun q32 => ?_) (fun q32 => ?_)
    · rw [if_pos q32] at h
      refine z_sub [0, 1, 2, 3, 4] rfl ?_
      exact t_Search_candidates_231 X H h k0 k1
    · rw [if_neg q32] at h
      refine z_iload X dd_Search_candidates_210 3 rfl ?_
      refine z_aload X dd_Search_candidates_212 5 rfl ?_
      obtain ⟨v33, ev33, h⟩ := zb h
      refine z_get (j := 14) X dd_Search_candidates_214 kc_1 ki_1 (by decide) km_251 (zgr_v ev33) ?_
      refine z_aload_n X dd_Search_candidates_217 rfl 0 rfl ?_
      obtain ⟨v34, ev34, h⟩ := zb h
      refine z_get (j := 1) X dd_Search_candidates_218 kc_6 ki_6 (by decide) km_548 (zgr_v ev34) ?_
      refine z_aload X dd_Search_candidates_221 5 rfl ?_
      obtain ⟨v35, ev35, h⟩ := zb h
      refine z_get (j := 0) X dd_Search_candidates_223 kc_1 ki_1 (by decide) km_223 (zgi_v ev35) ?_
      obtain ⟨v36, ev36, h⟩ := zb h
      refine z_iaload X dd_Search_candidates_226 rfl ev36 ?_
      obtain ⟨v37, ev37, h⟩ := zb h
      refine z_iaload X dd_Search_candidates_227 rfl ev37 ?_
      refine z_iand X dd_Search_candidates_228 ?_
      refine z_istore (lv' := [(4, .int (x4 &&& v37)), (0, .ref x0), (2, .int x2), (3, .int x3), (5, .int x5), (6, .ref x6)]) X dd_Search_candidates_229 (by decide) rfl ?_
      refine z_sub [1, 2, 3, 0, 4] rfl ?_
      exact t_Search_candidates_231 X H h k0 k1
set_option maxRecDepth 100000 in
set_option maxHeartbeats 4000000 in
theorem t_Search_candidates_144  (X : zX p s m args cd D cid B bb_Search_candidates 7 rr_Search zT) (H : zH s meth B n0 (some (.int)) "candidates") {nf : Nat} {x0 : Nat} {x2 : Int32} {x3 : Int32} {x4 : Int32} {x5 : Int32} {x6 : Nat} {c : Zc} {r : (Nat × Int32 × Int32 × Int32 × Int32 × Zc) ⊕ (Int32 × Zc)} (h : f_Search_candidates_144 nf x0 x2 x3 x4 x5 x6 c = some r) (k0 : ∀ a, r = .inl a → (fun a : Nat × Int32 × Int32 × Int32 × Int32 × Zc => Zz p l e (zRm 0 0 0 0) s m args below meth cd Q D cid B 7 0 0 a.2.2.2.2.2 87 [(0, .ref a.1), (2, .int a.2.1), (3, .int a.2.2.1), (4, .int a.2.2.2.1), (5, .int a.2.2.2.2.1)] []) a) (k1 : ∀ b, r = .inr b → (fun b : Int32 × Zc => Zz p l e (zRm 0 0 0 0) s m args below meth cd Q D cid B 7 0 0 b.2 237 [(4, .int b.1)] []) b) : Zz p l e (zRm 0 0 0 0) s m args below meth cd Q D cid B 7 0 0 c 144 [(0, .ref x0), (2, .int x2), (3, .int x3), (4, .int x4), (5, .int x5), (6, .ref x6)] [] := by
  unfold f_Search_candidates_144 at h
  refine z_aload X dd_Search_candidates_144 5 rfl ?_
  obtain ⟨v27, ev27, h⟩ := zb h
  refine z_get (j := 0) X dd_Search_candidates_146 kc_1 ki_1 (by decide) km_223 (zgi_v ev27) ?_
  refine z_iload_n X dd_Search_candidates_149 rfl 1 rfl ?_
  refine z_icmp_ne (tgt := 189) X dd_Search_candidates_150 (by decide) (fun q28 => ?_) (fun q28 => ?_)
  · rw [if_neg q28] at h
    exact t_Search_candidates_189 X H h k0 k1
  · rw [if_pos q28] at h
    refine z_iload_n X dd_Search_candidates_153 rfl 2 rfl ?_
    refine z_aload X dd_Search_candidates_154 5 rfl ?_
    obtain ⟨v38, ev38, h⟩ := zb h
    refine z_get (j := 1) X dd_Search_candidates_156 kc_1 ki_1 (by decide) km_226 (zgi_v ev38) ?_
    refine z_ishr X dd_Search_candidates_159 ?_
    refine z_iconst (v := 1) X dd_Search_candidates_160 (by decide) ?_
    refine z_iand X dd_Search_candidates_161 ?_
    refine z_if_eq (tgt := 189) X dd_Search_candidates_162 (by decide) (fun q39 => ?_) (fun q39 => ?_)
    · rw [if_pos q39] at h
      exact t_Search_candidates_189 X H h k0 k1
    · rw [if_neg q39] at h
      refine z_iload X dd_Search_candidates_165 3 rfl ?_
      refine z_aload X dd_Search_candidates_167 5 rfl ?_
      obtain ⟨v40, ev40, h⟩ := zb h
      refine z_get (j := 15) X dd_Search_candidates_169 kc_1 ki_1 (by decide) km_254 (zgr_v ev40) ?_
      refine z_aload_n X dd_Search_candidates_172 rfl 0 rfl ?_
      obtain ⟨v41, ev41, h⟩ := zb h
      refine z_get (j := 1) X dd_Search_candidates_173 kc_6 ki_6 (by decide) km_548 (zgr_v ev41) ?_
      refine z_aload X dd_Search_candidates_176 5 rfl ?_
      obtain ⟨v42, ev42, h⟩ := zb h
      refine z_get (j := 1) X dd_Search_candidates_178 kc_1 ki_1 (by decide) km_226 (zgi_v ev42) ?_
      obtain ⟨v43, ev43, h⟩ := zb h
      refine z_iaload X dd_Search_candidates_181 rfl ev43 ?_
      obtain ⟨v44, ev44, h⟩ := zb h
      refine z_iaload X dd_Search_candidates_182 rfl ev44 ?_
      refine z_iand X dd_Search_candidates_183 ?_
      refine z_istore (lv' := [(4, .int (x4 &&& v44)), (0, .ref x0), (2, .int x2), (3, .int x3), (5, .int x5), (6, .ref x6)]) X dd_Search_candidates_184 (by decide) rfl ?_
      refine z_goto (tgt := 231) X dd_Search_candidates_186 (by decide) ?_
      refine z_sub [1, 2, 3, 0, 4] rfl ?_
      exact t_Search_candidates_231 X H h k0 k1
set_option maxRecDepth 100000 in
set_option maxHeartbeats 4000000 in
theorem u_Search_candidates_87  (X : zX p s m args cd D cid B bb_Search_candidates 7 rr_Search zT) (H : zH s meth B n0 (some (.int)) "candidates") {nf : Nat} {x0 : Nat} {x2 : Int32} {x3 : Int32} {x4 : Int32} {x5 : Int32} {c : Zc} {r : (Nat × Int32 × Int32 × Int32 × Int32 × Zc) ⊕ (Int32 × Zc)} (h : g_Search_candidates_87 nf x0 x2 x3 x4 x5 c = some r) (k0 : ∀ a, r = .inl a → (fun a : Nat × Int32 × Int32 × Int32 × Int32 × Zc => Zz p l e (zRm 0 0 0 0) s m args below meth cd Q D cid B 7 0 0 a.2.2.2.2.2 87 [(0, .ref a.1), (2, .int a.2.1), (3, .int a.2.2.1), (4, .int a.2.2.2.1), (5, .int a.2.2.2.2.1)] []) a) (k1 : ∀ b, r = .inr b → (fun b : Int32 × Zc => Zz p l e (zRm 0 0 0 0) s m args below meth cd Q D cid B 7 0 0 b.2 237 [(4, .int b.1)] []) b) : Zz p l e (zRm 0 0 0 0) s m args below meth cd Q D cid B 7 0 0 c 87 [(0, .ref x0), (2, .int x2), (3, .int x3), (4, .int x4), (5, .int x5)] [] := by
  unfold g_Search_candidates_87 at h
  refine z_iload X dd_Search_candidates_87 4 rfl ?_
  refine z_aload_n X dd_Search_candidates_89 rfl 0 rfl ?_
  obtain ⟨v19, ev19, h⟩ := zb h
  refine z_get (j := 7) X dd_Search_candidates_90 kc_6 ki_6 (by decide) km_554 (zgi_v ev19) ?_
  refine z_icmp_ge (tgt := 237) X dd_Search_candidates_93 (by decide) (fun q20 => ?_) (fun q20 => ?_)
  · rw [if_pos q20] at h
    refine z_sub [3] rfl ?_
    obtain rfl := Option.some.inj h
    exact k1 _ rfl
  · rw [if_neg q20] at h
    refine z_iload X dd_Search_candidates_96 3 rfl ?_
    refine z_if_eq (tgt := 237) X dd_Search_candidates_98 (by decide) (fun q21 => ?_) (fun q21 => ?_)
    · rw [if_pos q21] at h
      refine z_sub [3] rfl ?_
      obtain rfl := Option.some.inj h
      exact k1 _ rfl
    · rw [if_neg q21] at h
      refine z_aload_n X dd_Search_candidates_101 rfl 0 rfl ?_
      obtain ⟨v22, ev22, h⟩ := zb h
      refine z_get (j := 5) X dd_Search_candidates_102 kc_6 ki_6 (by decide) km_552 (zgr_v ev22) ?_
      obtain ⟨v23, ev23, h⟩ := zb h
      refine z_get (j := 4) X dd_Search_candidates_105 kc_2 ki_2 (by decide) km_316 (zgr_v ev23) ?_
      refine z_iload X dd_Search_candidates_108 4 rfl ?_
      obtain ⟨v24, ev24, h⟩ := zb h
      refine z_aaload X dd_Search_candidates_110 rfl ev24 ?_
      refine z_astore (lv' := [(6, .ref v24), (0, .ref x0), (2, .int x2), (3, .int x3), (4, .int x4), (5, .int x5)]) X dd_Search_candidates_111 (by decide) rfl ?_
      refine z_aload X dd_Search_candidates_113 0 rfl ?_
      obtain ⟨v25, ev25, h⟩ := zb h
      refine z_get (j := 0) X dd_Search_candidates_115 kc_1 ki_1 (by decide) km_223 (zgi_v ev25) ?_
      refine z_iload_n X dd_Search_candidates_118 rfl 2 rfl ?_
      refine z_icmp_ne (tgt := 144) X dd_Search_candidates_119 (by decide) (fun q26 => ?_) (fun q26 => ?_)
      · rw [if_neg q26] at h
        refine z_sub [1, 2, 3, 4, 5, 0] rfl ?_
        exact t_Search_candidates_144 X H h k0 k1
      · rw [if_pos q26] at h
        refine z_aload X dd_Search_candidates_122 0 rfl ?_
        obtain ⟨v45, ev45, h⟩ := zb h
        refine z_get (j := 1) X dd_Search_candidates_124 kc_1 ki_1 (by decide) km_226 (zgi_v ev45) ?_
        refine z_iload_n X dd_Search_candidates_127 rfl 2 rfl ?_
        refine z_icmp_ne (tgt := 144) X dd_Search_candidates_128 (by decide) (fun q46 => ?_) (fun q46 => ?_)
        · rw [if_neg q46] at h
          refine z_sub [1, 2, 3, 4, 5, 0] rfl ?_
          exact t_Search_candidates_144 X H h k0 k1
        · rw [if_pos q46] at h
          refine z_iload X dd_Search_candidates_131 4 rfl ?_
          refine z_aload X dd_Search_candidates_133 0 rfl ?_
          obtain ⟨v47, ev47, h⟩ := zb h
          refine z_get (j := 16) X dd_Search_candidates_135 kc_1 ki_1 (by decide) km_256 (zgi_v ev47) ?_
          refine z_iand X dd_Search_candidates_138 ?_
          refine z_istore (lv' := [(4, .int (x4 &&& v47)), (6, .ref v24), (0, .ref x0), (2, .int x2), (3, .int x3), (5, .int x5)]) X dd_Search_candidates_139 (by decide) rfl ?_
          refine z_goto (tgt := 231) X dd_Search_candidates_141 (by decide) ?_
          refine z_sub [2, 3, 4, 0, 5] rfl ?_
          exact t_Search_candidates_231 X H h k0 k1
set_option maxRecDepth 100000 in
set_option maxHeartbeats 4000000 in
theorem t_Search_candidates_237  (X : zX p s m args cd D cid B bb_Search_candidates 7 rr_Search zT) (H : zH s meth B n0 (some (.int)) "candidates") {nf : Nat} {x4 : Int32} {c : Zc} {res : Int32 × Zc} (h : f_Search_candidates_237 nf x4 c = some res) : Zz p l e (zRm 0 0 0 0) s m args below meth cd (MQ below (zQi D cid B res.1 res.2 n0 0) args s 0 0 (fun q => B ≤ q)) D cid B 7 0 0 c 237 [(4, .int x4)] [] := by
  unfold f_Search_candidates_237 at h
  refine z_iload X dd_Search_candidates_237 0 rfl ?_
  obtain rfl := Option.some.inj h
  exact z_iret X H.1 H.2.1 H.2.2.1 dd_Search_candidates_239
set_option maxRecDepth 100000 in
set_option maxHeartbeats 4000000 in
theorem t_Search_candidates_87  (X : zX p s m args cd D cid B bb_Search_candidates 7 rr_Search zT) (H : zH s meth B n0 (some (.int)) "candidates") {nf : Nat} {x0 : Nat} {x2 : Int32} {x3 : Int32} {x4 : Int32} {x5 : Int32} {c : Zc} {res : Int32 × Zc} (h : f_Search_candidates_87 nf x0 x2 x3 x4 x5 c = some res) : Zz p l e (zRm 0 0 0 0) s m args below meth cd (MQ below (zQi D cid B res.1 res.2 n0 0) args s 0 0 (fun q => B ≤ q)) D cid B 7 0 0 c 87 [(0, .ref x0), (2, .int x2), (3, .int x3), (4, .int x4), (5, .int x5)] [] := by
  unfold f_Search_candidates_87 at h
  obtain ⟨b, eb, h⟩ := zb h
  refine zlp_ok (P := fun a : Nat × Int32 × Int32 × Int32 × Int32 × Zc => Zz p l e (zRm 0 0 0 0) s m args below meth cd _ D cid B 7 0 0 a.2.2.2.2.2 87 [(0, .ref a.1), (2, .int a.2.1), (3, .int a.2.2.1), (4, .int a.2.2.2.1), (5, .int a.2.2.2.2.1)] []) (G := fun b : Int32 × Zc => Zz p l e (zRm 0 0 0 0) s m args below meth cd _ D cid B 7 0 0 b.2 237 [(4, .int b.1)] []) (fun a r ha k0 k1 => u_Search_candidates_87 X H ha k0 k1) nf _ b eb ?_
  exact t_Search_candidates_237 X H h
set_option maxRecDepth 100000 in
set_option maxHeartbeats 4000000 in
theorem t_Search_candidates_33  (X : zX p s m args cd D cid B bb_Search_candidates 7 rr_Search zT) (H : zH s meth B n0 (some (.int)) "candidates") {nf : Nat} {x0 : Nat} {x2 : Int32} {x3 : Int32} {x4 : Int32} {x5 : Int32} {c : Zc} {res : Int32 × Zc} (h : f_Search_candidates_33 nf x0 x2 x3 x4 x5 c = some res) : Zz p l e (zRm 0 0 0 0) s m args below meth cd (MQ below (zQi D cid B res.1 res.2 n0 0) args s 0 0 (fun q => B ≤ q)) D cid B 7 0 0 c 33 [(0, .ref x0), (2, .int x2), (3, .int x3), (4, .int x4), (5, .int x5)] [] := by
  unfold f_Search_candidates_33 at h
  obtain ⟨b, eb, h⟩ := zb h
  refine zlp_ok (P := fun a : Nat × Int32 × Int32 × Int32 × Int32 × Zc => Zz p l e (zRm 0 0 0 0) s m args below meth cd _ D cid B 7 0 0 a.2.2.2.2.2 33 [(0, .ref a.1), (2, .int a.2.1), (3, .int a.2.2.1), (4, .int a.2.2.2.1), (5, .int a.2.2.2.2.1)] []) (G := fun b : Nat × Int32 × Int32 × Int32 × Zc => Zz p l e (zRm 0 0 0 0) s m args below meth cd _ D cid B 7 0 0 b.2.2.2.2 81 [(0, .ref b.1), (2, .int b.2.1), (3, .int b.2.2.1), (4, .int b.2.2.2.1)] []) (fun a r ha k0 k1 => u_Search_candidates_33 X H ha k0 k1) nf _ b eb ?_
  refine z_aload_n X dd_Search_candidates_81 rfl 0 rfl ?_
  obtain ⟨v18, ev18, h⟩ := zb h
  refine z_get (j := 6) X dd_Search_candidates_82 kc_6 ki_6 (by decide) km_553 (zgi_v ev18) ?_
  refine z_istore (lv' := [(5, .int v18), (0, .ref b.1), (2, .int b.2.1), (3, .int b.2.2.1), (4, .int b.2.2.2.1)]) X dd_Search_candidates_85 (by decide) rfl ?_
  refine z_sub [1, 2, 3, 4, 0] rfl ?_
  exact t_Search_candidates_87 X H h
set_option maxRecDepth 100000 in
set_option maxHeartbeats 4000000 in
theorem c_Search_candidates (l : Launch) {nf : Nat} {a0 : Nat} {a1 : Int32} {c : Zc} {res : Int32 × Zc} (h : f_Search_candidates nf a0 a1 c = some res) : zM l yy_Search_candidates ww_Search_candidates 0 0 0 0 [.ref a0, .int a1] c (fun D cid B => zQi D cid B res.1 res.2 c.length 0) := by
  refine z_met (cc := bb_Search_candidates) (maxL := 7) (ret := (some (.int))) (by decide +kernel) rfl (Nat.le_of_ble_eq_true rfl) ?_
  intro p e s m args below meth cd D cid B X h1 h2 h3 h4
  have X : zX p s m args cd D cid B bb_Search_candidates 7 rr_Search zT := X
  have H : zH s meth B c.length (some (.int)) "candidates" := ⟨h1, h2, h4, h3⟩
  unfold f_Search_candidates at h
  show Zz p l e (zRm 0 0 0 0) s m args below meth cd _ D cid B 7 0 0 c 0 [(0, .ref a0), (1, .int a1)] []
  refine z_aload_n X dd_Search_candidates_0 rfl 0 rfl ?_
  obtain ⟨v1, ev1, h⟩ := zb h
  refine z_get (j := 2) X dd_Search_candidates_1 kc_6 ki_6 (by decide) km_549 (zgr_v ev1) ?_
  refine z_iload_n X dd_Search_candidates_4 rfl 1 rfl ?_
  obtain ⟨v2, ev2, h⟩ := zb h
  refine z_iaload X dd_Search_candidates_5 rfl ev2 ?_
  refine z_istore_n (lv' := [(2, .int v2), (0, .ref a0), (1, .int a1)]) X dd_Search_candidates_6 rfl (by decide) rfl ?_
  refine z_aload_n X dd_Search_candidates_7 rfl 1 rfl ?_
  obtain ⟨v3, ev3, h⟩ := zb h
  refine z_get (j := 3) X dd_Search_candidates_8 kc_6 ki_6 (by decide) km_550 (zgr_v ev3) ?_
  refine z_iload_n X dd_Search_candidates_11 rfl 2 rfl ?_
  obtain ⟨v4, ev4, h⟩ := zb h
  refine z_iaload X dd_Search_candidates_12 rfl ev4 ?_
  refine z_istore_n (lv' := [(3, .int v4), (2, .int v2), (0, .ref a0), (1, .int a1)]) X dd_Search_candidates_13 rfl (by decide) rfl ?_
  refine z_iconst (v := 1) X dd_Search_candidates_14 (by decide) ?_
  refine z_aload_n X dd_Search_candidates_15 rfl 2 rfl ?_
  obtain ⟨v5, ev5, h⟩ := zb h
  refine z_get (j := 0) X dd_Search_candidates_16 kc_6 ki_6 (by decide) km_547 (zgr_v ev5) ?_
  obtain ⟨v6, ev6, h⟩ := zb h
  refine z_get (j := 7) X dd_Search_candidates_19 kc_0 ki_0 (by decide) km_174 (zgi_v ev6) ?_
  refine z_ishl X dd_Search_candidates_22 ?_
  refine z_iconst (v := 1) X dd_Search_candidates_23 (by decide) ?_
  refine z_isub X dd_Search_candidates_24 ?_
  refine z_istore (lv' := [(4, .int ((1 <<< (v6 &&& 31)) - 1)), (3, .int v4), (2, .int v2), (0, .ref a0), (1, .int a1)]) X dd_Search_candidates_25 (by decide) rfl ?_
  refine z_aload_n X dd_Search_candidates_27 rfl 3 rfl ?_
  obtain ⟨v7, ev7, h⟩ := zb h
  refine z_get (j := 8) X dd_Search_candidates_28 kc_6 ki_6 (by decide) km_555 (zgi_v ev7) ?_
  refine z_istore (lv' := [(5, .int v7), (4, .int ((1 <<< (v6 &&& 31)) - 1)), (3, .int v4), (2, .int v2), (0, .ref a0), (1, .int a1)]) X dd_Search_candidates_31 (by decide) rfl ?_
  refine z_sub [4, 3, 2, 1, 0] rfl ?_
  exact t_Search_candidates_33 X H h
theorem dd_Search_begin_0 : decode bb_Search_begin 0 = .ok (.aload_n 0, 1) := by decide +kernel
theorem dd_Search_begin_1 : decode bb_Search_begin 1 = .ok (.aload_n 1, 1) := by decide +kernel
theorem dd_Search_begin_2 : decode bb_Search_begin 2 = .ok (.putfield 44, 3) := by decide +kernel
theorem dd_Search_begin_5 : decode bb_Search_begin 5 = .ok (.aload_n 0, 1) := by decide +kernel
theorem dd_Search_begin_6 : decode bb_Search_begin 6 = .ok (.iload_n 2, 1) := by decide +kernel
theorem dd_Search_begin_7 : decode bb_Search_begin 7 = .ok (.ifCond .ne 7, 3) := by decide +kernel
theorem dd_Search_begin_10 : decode bb_Search_begin 10 = .ok (.iconst 0, 1) := by decide +kernel
theorem dd_Search_begin_11 : decode bb_Search_begin 11 = .ok (.goto 14, 3) := by decide +kernel
theorem dd_Search_begin_14 : decode bb_Search_begin 14 = .ok (.aload_n 0, 1) := by decide +kernel
theorem dd_Search_begin_15 : decode bb_Search_begin 15 = .ok (.getfield 44, 3) := by decide +kernel
theorem dd_Search_begin_18 : decode bb_Search_begin 18 = .ok (.getfield 51, 3) := by decide +kernel
theorem dd_Search_begin_21 : decode bb_Search_begin 21 = .ok (.iload_n 2, 1) := by decide +kernel
theorem dd_Search_begin_22 : decode bb_Search_begin 22 = .ok (.iconst 1, 1) := by decide +kernel
theorem dd_Search_begin_23 : decode bb_Search_begin 23 = .ok (.isub, 1) := by decide +kernel
theorem dd_Search_begin_24 : decode bb_Search_begin 24 = .ok (.iaload, 1) := by decide +kernel
theorem dd_Search_begin_25 : decode bb_Search_begin 25 = .ok (.putfield 21, 3) := by decide +kernel
theorem dd_Search_begin_28 : decode bb_Search_begin 28 = .ok (.aload_n 0, 1) := by decide +kernel
theorem dd_Search_begin_29 : decode bb_Search_begin 29 = .ok (.aload_n 0, 1) := by decide +kernel
theorem dd_Search_begin_30 : decode bb_Search_begin 30 = .ok (.getfield 44, 3) := by decide +kernel
theorem dd_Search_begin_33 : decode bb_Search_begin 33 = .ok (.getfield 51, 3) := by decide +kernel
theorem dd_Search_begin_36 : decode bb_Search_begin 36 = .ok (.iload_n 2, 1) := by decide +kernel
theorem dd_Search_begin_37 : decode bb_Search_begin 37 = .ok (.iaload, 1) := by decide +kernel
theorem dd_Search_begin_38 : decode bb_Search_begin 38 = .ok (.putfield 25, 3) := by decide +kernel
theorem dd_Search_begin_41 : decode bb_Search_begin 41 = .ok (.aload_n 0, 1) := by decide +kernel
theorem dd_Search_begin_42 : decode bb_Search_begin 42 = .ok (.iload_n 2, 1) := by decide +kernel
theorem dd_Search_begin_43 : decode bb_Search_begin 43 = .ok (.ifCond .ne 7, 3) := by decide +kernel
theorem dd_Search_begin_46 : decode bb_Search_begin 46 = .ok (.iconst 0, 1) := by decide +kernel
theorem dd_Search_begin_47 : decode bb_Search_begin 47 = .ok (.goto 14, 3) := by decide +kernel
theorem dd_Search_begin_50 : decode bb_Search_begin 50 = .ok (.aload_n 0, 1) := by decide +kernel
theorem dd_Search_begin_51 : decode bb_Search_begin 51 = .ok (.getfield 44, 3) := by decide +kernel
theorem dd_Search_begin_54 : decode bb_Search_begin 54 = .ok (.getfield 56, 3) := by decide +kernel
theorem dd_Search_begin_57 : decode bb_Search_begin 57 = .ok (.iload_n 2, 1) := by decide +kernel
theorem dd_Search_begin_58 : decode bb_Search_begin 58 = .ok (.iconst 1, 1) := by decide +kernel
theorem dd_Search_begin_59 : decode bb_Search_begin 59 = .ok (.isub, 1) := by decide +kernel
theorem dd_Search_begin_60 : decode bb_Search_begin 60 = .ok (.iaload, 1) := by decide +kernel
theorem dd_Search_begin_61 : decode bb_Search_begin 61 = .ok (.putfield 28, 3) := by decide +kernel
theorem dd_Search_begin_64 : decode bb_Search_begin 64 = .ok (.aload_n 0, 1) := by decide +kernel
theorem dd_Search_begin_65 : decode bb_Search_begin 65 = .ok (.aload_n 0, 1) := by decide +kernel
theorem dd_Search_begin_66 : decode bb_Search_begin 66 = .ok (.getfield 44, 3) := by decide +kernel
theorem dd_Search_begin_69 : decode bb_Search_begin 69 = .ok (.getfield 56, 3) := by decide +kernel
theorem dd_Search_begin_72 : decode bb_Search_begin 72 = .ok (.iload_n 2, 1) := by decide +kernel
theorem dd_Search_begin_73 : decode bb_Search_begin 73 = .ok (.iaload, 1) := by decide +kernel
theorem dd_Search_begin_74 : decode bb_Search_begin 74 = .ok (.putfield 31, 3) := by decide +kernel
theorem dd_Search_begin_77 : decode bb_Search_begin 77 = .ok (.aload_n 0, 1) := by decide +kernel
theorem dd_Search_begin_78 : decode bb_Search_begin 78 = .ok (.iconst 0, 1) := by decide +kernel
theorem dd_Search_begin_79 : decode bb_Search_begin 79 = .ok (.putfield 34, 3) := by decide +kernel
theorem dd_Search_begin_82 : decode bb_Search_begin 82 = .ok (.iload_n 2, 1) := by decide +kernel
theorem dd_Search_begin_83 : decode bb_Search_begin 83 = .ok (.ifCond .ne 7, 3) := by decide +kernel
theorem dd_Search_begin_86 : decode bb_Search_begin 86 = .ok (.iconst 0, 1) := by decide +kernel
theorem dd_Search_begin_87 : decode bb_Search_begin 87 = .ok (.goto 12, 3) := by decide +kernel
theorem dd_Search_begin_90 : decode bb_Search_begin 90 = .ok (.aload_n 0, 1) := by decide +kernel
theorem dd_Search_begin_91 : decode bb_Search_begin 91 = .ok (.getfield 44, 3) := by decide +kernel
theorem dd_Search_begin_94 : decode bb_Search_begin 94 = .ok (.getfield 59, 3) := by decide +kernel
theorem dd_Search_begin_97 : decode bb_Search_begin 97 = .ok (.iconst 0, 1) := by decide +kernel
theorem dd_Search_begin_98 : decode bb_Search_begin 98 = .ok (.iaload, 1) := by decide +kernel
theorem dd_Search_begin_99 : decode bb_Search_begin 99 = .ok (.istore_n 3, 1) := by decide +kernel
theorem dd_Search_begin_100 : decode bb_Search_begin 100 = .ok (.iconst 0, 1) := by decide +kernel
theorem dd_Search_begin_101 : decode bb_Search_begin 101 = .ok (.istore 4, 2) := by decide +kernel
theorem dd_Search_begin_103 : decode bb_Search_begin 103 = .ok (.iload 4, 2) := by decide +kernel
theorem dd_Search_begin_105 : decode bb_Search_begin 105 = .ok (.bipush 8, 2) := by decide +kernel
theorem dd_Search_begin_107 : decode bb_Search_begin 107 = .ok (.if_icmp .ge 64, 3) := by decide +kernel
theorem dd_Search_begin_110 : decode bb_Search_begin 110 = .ok (.aload_n 0, 1) := by decide +kernel
theorem dd_Search_begin_111 : decode bb_Search_begin 111 = .ok (.getfield 44, 3) := by decide +kernel
theorem dd_Search_begin_114 : decode bb_Search_begin 114 = .ok (.getfield 59, 3) := by decide +kernel
theorem dd_Search_begin_117 : decode bb_Search_begin 117 = .ok (.iload_n 2, 1) := by decide +kernel
theorem dd_Search_begin_118 : decode bb_Search_begin 118 = .ok (.iaload, 1) := by decide +kernel
theorem dd_Search_begin_119 : decode bb_Search_begin 119 = .ok (.iload 4, 2) := by decide +kernel
theorem dd_Search_begin_121 : decode bb_Search_begin 121 = .ok (.ishr, 1) := by decide +kernel
theorem dd_Search_begin_122 : decode bb_Search_begin 122 = .ok (.iconst 1, 1) := by decide +kernel
theorem dd_Search_begin_123 : decode bb_Search_begin 123 = .ok (.iand, 1) := by decide +kernel
theorem dd_Search_begin_124 : decode bb_Search_begin 124 = .ok (.ifCond .eq 41, 3) := by decide +kernel
theorem dd_Search_begin_127 : decode bb_Search_begin 127 = .ok (.aload_n 0, 1) := by decide +kernel
theorem dd_Search_begin_128 : decode bb_Search_begin 128 = .ok (.getfield 9, 3) := by decide +kernel
theorem dd_Search_begin_131 : decode bb_Search_begin 131 = .ok (.aload_n 0, 1) := by decide +kernel
theorem dd_Search_begin_132 : decode bb_Search_begin 132 = .ok (.getfield 34, 3) := by decide +kernel
theorem dd_Search_begin_135 : decode bb_Search_begin 135 = .ok (.iload 4, 2) := by decide +kernel
theorem dd_Search_begin_137 : decode bb_Search_begin 137 = .ok (.iastore, 1) := by decide +kernel
theorem dd_Search_begin_138 : decode bb_Search_begin 138 = .ok (.aload_n 0, 1) := by decide +kernel
theorem dd_Search_begin_139 : decode bb_Search_begin 139 = .ok (.getfield 15, 3) := by decide +kernel
theorem dd_Search_begin_142 : decode bb_Search_begin 142 = .ok (.aload_n 0, 1) := by decide +kernel
theorem dd_Search_begin_143 : decode bb_Search_begin 143 = .ok (.getfield 34, 3) := by decide +kernel
theorem dd_Search_begin_146 : decode bb_Search_begin 146 = .ok (.iload_n 3, 1) := by decide +kernel
theorem dd_Search_begin_147 : decode bb_Search_begin 147 = .ok (.iastore, 1) := by decide +kernel
theorem dd_Search_begin_148 : decode bb_Search_begin 148 = .ok (.iload_n 3, 1) := by decide +kernel
theorem dd_Search_begin_149 : decode bb_Search_begin 149 = .ok (.iconst 1, 1) := by decide +kernel
theorem dd_Search_begin_150 : decode bb_Search_begin 150 = .ok (.iload 4, 2) := by decide +kernel
theorem dd_Search_begin_152 : decode bb_Search_begin 152 = .ok (.ishl, 1) := by decide +kernel
theorem dd_Search_begin_153 : decode bb_Search_begin 153 = .ok (.ior, 1) := by decide +kernel
theorem dd_Search_begin_154 : decode bb_Search_begin 154 = .ok (.istore_n 3, 1) := by decide +kernel
theorem dd_Search_begin_155 : decode bb_Search_begin 155 = .ok (.aload_n 0, 1) := by decide +kernel
theorem dd_Search_begin_156 : decode bb_Search_begin 156 = .ok (.dup, 1) := by decide +kernel
theorem dd_Search_begin_157 : decode bb_Search_begin 157 = .ok (.getfield 34, 3) := by decide +kernel
theorem dd_Search_begin_160 : decode bb_Search_begin 160 = .ok (.iconst 1, 1) := by decide +kernel
theorem dd_Search_begin_161 : decode bb_Search_begin 161 = .ok (.iadd, 1) := by decide +kernel
theorem dd_Search_begin_162 : decode bb_Search_begin 162 = .ok (.putfield 34, 3) := by decide +kernel
theorem dd_Search_begin_165 : decode bb_Search_begin 165 = .ok (.iinc 4 1, 3) := by decide +kernel
theorem dd_Search_begin_168 : decode bb_Search_begin 168 = .ok (.goto (-65), 3) := by decide +kernel
theorem dd_Search_begin_171 : decode bb_Search_begin 171 = .ok (.aload_n 0, 1) := by decide +kernel
theorem dd_Search_begin_172 : decode bb_Search_begin 172 = .ok (.iconst 0, 1) := by decide +kernel
theorem dd_Search_begin_173 : decode bb_Search_begin 173 = .ok (.putfield 37, 3) := by decide +kernel
theorem dd_Search_begin_176 : decode bb_Search_begin 176 = .ok (.aload_n 0, 1) := by decide +kernel
theorem dd_Search_begin_177 : decode bb_Search_begin 177 = .ok (.getfield 18, 3) := by decide +kernel
theorem dd_Search_begin_180 : decode bb_Search_begin 180 = .ok (.iconst 0, 1) := by decide +kernel
theorem dd_Search_begin_181 : decode bb_Search_begin 181 = .ok (.aload_n 0, 1) := by decide +kernel
theorem dd_Search_begin_182 : decode bb_Search_begin 182 = .ok (.getfield 34, 3) := by decide +kernel
theorem dd_Search_begin_185 : decode bb_Search_begin 185 = .ok (.ifCond .ne 7, 3) := by decide +kernel
theorem dd_Search_begin_188 : decode bb_Search_begin 188 = .ok (.iconst 0, 1) := by decide +kernel
theorem dd_Search_begin_189 : decode bb_Search_begin 189 = .ok (.goto 8, 3) := by decide +kernel
theorem dd_Search_begin_192 : decode bb_Search_begin 192 = .ok (.aload_n 0, 1) := by decide +kernel
theorem dd_Search_begin_193 : decode bb_Search_begin 193 = .ok (.iconst 0, 1) := by decide +kernel
theorem dd_Search_begin_194 : decode bb_Search_begin 194 = .ok (.invokevirtual 62, 3) := by decide +kernel
theorem dd_Search_begin_197 : decode bb_Search_begin 197 = .ok (.iastore, 1) := by decide +kernel
theorem dd_Search_begin_198 : decode bb_Search_begin 198 = .ok (.return_, 1) := by decide +kernel
set_option maxRecDepth 100000 in
set_option maxHeartbeats 4000000 in
theorem t_Search_begin_165  (X : zX p s m args cd D cid B bb_Search_begin 5 rr_Search zT) (H : zH s meth B n0 none "begin") {nf : Nat} {x0 : Nat} {x2 : Int32} {x3 : Int32} {x4 : Int32} {c : Zc} {r : (Nat × Int32 × Int32 × Int32 × Zc) ⊕ (Nat × Zc)} (h : f_Search_begin_165 nf x0 x2 x3 x4 c = some r) (k0 : ∀ a, r = .inl a → (fun a : Nat × Int32 × Int32 × Int32 × Zc => Zz p l e (zRm 1 26 0 0) s m args below meth cd Q D cid B 5 0 0 a.2.2.2.2 103 [(0, .ref a.1), (2, .int a.2.1), (3, .int a.2.2.1), (4, .int a.2.2.2.1)] []) a) (k1 : ∀ b, r = .inr b → (fun b : Nat × Zc => Zz p l e (zRm 1 26 0 0) s m args below meth cd Q D cid B 5 0 0 b.2 171 [(0, .ref b.1)] []) b) : Zz p l e (zRm 1 26 0 0) s m args below meth cd Q D cid B 5 0 0 c 165 [(0, .ref x0), (2, .int x2), (3, .int x3), (4, .int x4)] [] := by
  unfold f_Search_begin_165 at h
  refine z_iinc (v := (x4 + 1)) (lv' := [(4, .int (x4 + 1)), (0, .ref x0), (2, .int x2), (3, .int x3)]) X dd_Search_begin_165 3 rfl rfl (by decide) rfl ?_
  refine z_goto (tgt := 103) X dd_Search_begin_168 (by decide) ?_
  refine z_sub [1, 2, 3, 0] rfl ?_
  obtain rfl := Option.some.inj h
  exact k0 _ rfl
set_option maxRecDepth 100000 in
set_option maxHeartbeats 4000000 in
theorem u_Search_begin_103  (X : zX p s m args cd D cid B bb_Search_begin 5 rr_Search zT) (H : zH s meth B n0 none "begin") {nf : Nat} {x0 : Nat} {x2 : Int32} {x3 : Int32} {x4 : Int32} {c : Zc} {r : (Nat × Int32 × Int32 × Int32 × Zc) ⊕ (Nat × Zc)} (h : g_Search_begin_103 nf x0 x2 x3 x4 c = some r) (k0 : ∀ a, r = .inl a → (fun a : Nat × Int32 × Int32 × Int32 × Zc => Zz p l e (zRm 1 26 0 0) s m args below meth cd Q D cid B 5 0 0 a.2.2.2.2 103 [(0, .ref a.1), (2, .int a.2.1), (3, .int a.2.2.1), (4, .int a.2.2.2.1)] []) a) (k1 : ∀ b, r = .inr b → (fun b : Nat × Zc => Zz p l e (zRm 1 26 0 0) s m args below meth cd Q D cid B 5 0 0 b.2 171 [(0, .ref b.1)] []) b) : Zz p l e (zRm 1 26 0 0) s m args below meth cd Q D cid B 5 0 0 c 103 [(0, .ref x0), (2, .int x2), (3, .int x3), (4, .int x4)] [] := by
  unfold g_Search_begin_103 at h
  refine z_iload X dd_Search_begin_103 3 rfl ?_
  refine z_bipush (v := 8) X dd_Search_begin_105 (by decide) ?_
  refine z_icmp_ge (tgt := 171) X dd_Search_begin_107 (by decide) (fun q25 => ?_) (fun q25 => ?_)
  · rw [if_pos q25] at h
    refine z_sub [0] rfl ?_
    obtain rfl := Option.some.inj h
    exact k1 _ rfl
  · rw [if_neg q25] at h
    refine z_aload_n X dd_Search_begin_110 rfl 0 rfl ?_
    obtain ⟨v26, ev26, h⟩ := zb h
    refine z_get (j := 5) X dd_Search_begin_111 kc_6 ki_6 (by decide) km_552 (zgr_v ev26) ?_
    obtain ⟨v27, ev27, h⟩ := zb h
    refine z_get (j := 9) X dd_Search_begin_114 kc_2 ki_2 (by decide) km_330 (zgr_v ev27) ?_
    refine z_iload_n X dd_Search_begin_117 rfl 1 rfl ?_
    obtain ⟨v28, ev28, h⟩ := zb h
    refine z_iaload X dd_Search_begin_118 rfl ev28 ?_
    refine z_iload X dd_Search_begin_119 3 rfl ?_
    refine z_ishr X dd_Search_begin_121 ?_
    refine z_iconst (v := 1) X dd_Search_begin_122 (by decide) ?_
    refine z_iand X dd_Search_begin_123 ?_
    refine z_if_eq (tgt := 165) X dd_Search_begin_124 (by decide) (fun q29 => ?_) (fun q29 => ?_)
    · rw [if_pos q29] at h
      exact t_Search_begin_165 X H h k0 k1
    · rw [if_neg q29] at h
      refine z_aload_n X dd_Search_begin_127 rfl 0 rfl ?_
      obtain ⟨v30, ev30, h⟩ := zb h
      refine z_get (j := 2) X dd_Search_begin_128 kc_6 ki_6 (by decide) km_549 (zgr_v ev30) ?_
      refine z_aload_n X dd_Search_begin_131 rfl 0 rfl ?_
      obtain ⟨v31, ev31, h⟩ := zb h
      refine z_get (j := 10) X dd_Search_begin_132 kc_6 ki_6 (by decide) km_557 (zgi_v ev31) ?_
      refine z_iload X dd_Search_begin_135 3 rfl ?_
      obtain ⟨c32, ec32, h⟩ := zb h
      refine z_iastore X dd_Search_begin_137 rfl ec32 ?_
      refine z_aload_n X dd_Search_begin_138 rfl 0 rfl ?_
      obtain ⟨v33, ev33, h⟩ := zb h
      refine z_get (j := 3) X dd_Search_begin_139 kc_6 ki_6 (by decide) km_550 (zgr_v ev33) ?_
      refine z_aload_n X dd_Search_begin_142 rfl 0 rfl ?_
      obtain ⟨v34, ev34, h⟩ := zb h
      refine z_get (j := 10) X dd_Search_begin_143 kc_6 ki_6 (by decide) km_557 (zgi_v ev34) ?_
      refine z_iload_n X dd_Search_begin_146 rfl 2 rfl ?_
      obtain ⟨c35, ec35, h⟩ := zb h
      refine z_iastore X dd_Search_begin_147 rfl ec35 ?_
      refine z_iload_n X dd_Search_begin_148 rfl 2 rfl ?_
      refine z_iconst (v := 1) X dd_Search_begin_149 (by decide) ?_
      refine z_iload X dd_Search_begin_150 3 rfl ?_
      refine z_ishl X dd_Search_begin_152 ?_
      refine z_ior X dd_Search_begin_153 ?_
      refine z_istore_n (lv' := [(3, .int (x3 ||| (1 <<< (x4 &&& 31)))), (0, .ref x0), (2, .int x2), (4, .int x4)]) X dd_Search_begin_154 rfl (by decide) rfl ?_
      refine z_aload_n X dd_Search_begin_155 rfl 1 rfl ?_
      refine z_dup X dd_Search_begin_156 rfl ?_
      obtain ⟨v36, ev36, h⟩ := zb h
      refine z_get (j := 10) X dd_Search_begin_157 kc_6 ki_6 (by decide) km_557 (zgi_v ev36) ?_
      refine z_iconst (v := 1) X dd_Search_begin_160 (by decide) ?_
      refine z_iadd X dd_Search_begin_161 ?_
      obtain ⟨c37, ec37, h⟩ := zb h
      refine z_put (j := 10) X dd_Search_begin_162 kc_6 ki_6 tt_Search tk_Search nn_Search (by decide) km_557 rfl (tk_Search 10 (by decide)) rfl rfl ec37 ?_
      refine z_sub [1, 2, 0, 3] rfl ?_
      exact t_Search_begin_165 X H h k0 k1
set_option maxRecDepth 100000 in
set_option maxHeartbeats 4000000 in
theorem t_Search_begin_197  (X : zX p s m args cd D cid B bb_Search_begin 5 rr_Search zT) (H : zH s meth B n0 none "begin") {nf : Nat} {s0 : Nat} {s1 : Int32} {s2 : Int32} {c : Zc} {res : Zc} (h : f_Search_begin_197 nf s0 s1 s2 c = some res) : Zz p l e (zRm 1 26 0 0) s m args below meth cd (MQ below (zQv D cid B res n0 0) args s 0 0 (fun q => B ≤ q)) D cid B 5 0 0 c 197 [] [.int s2, .int s1, .ref s0] := by
  unfold f_Search_begin_197 at h
  obtain ⟨c44, ec44, h⟩ := zb h
  refine z_iastore X dd_Search_begin_197 rfl ec44 ?_
  obtain rfl := Option.some.inj h
  exact z_vret X H.1 H.2.1 H.2.2.1 dd_Search_begin_198
set_option maxRecDepth 100000 in
set_option maxHeartbeats 4000000 in
theorem t_Search_begin_103  (X : zX p s m args cd D cid B bb_Search_begin 5 rr_Search zT) (H : zH s meth B n0 none "begin") {nf : Nat} {x0 : Nat} {x2 : Int32} {x3 : Int32} {x4 : Int32} {c : Zc} {res : Zc} (h : f_Search_begin_103 nf x0 x2 x3 x4 c = some res) : Zz p l e (zRm 1 26 0 0) s m args below meth cd (MQ below (zQv D cid B res n0 0) args s 0 0 (fun q => B ≤ q)) D cid B 5 0 0 c 103 [(0, .ref x0), (2, .int x2), (3, .int x3), (4, .int x4)] [] := by
  unfold f_Search_begin_103 at h
  obtain ⟨b, eb, h⟩ := zb h
  refine zlp_ok (P := fun a : Nat × Int32 × Int32 × Int32 × Zc => Zz p l e (zRm 1 26 0 0) s m args below meth cd _ D cid B 5 0 0 a.2.2.2.2 103 [(0, .ref a.1), (2, .int a.2.1), (3, .int a.2.2.1), (4, .int a.2.2.2.1)] []) (G := fun b : Nat × Zc => Zz p l e (zRm 1 26 0 0) s m args below meth cd _ D cid B 5 0 0 b.2 171 [(0, .ref b.1)] []) (fun a r ha k0 k1 => u_Search_begin_103 X H ha k0 k1) nf _ b eb ?_
  refine z_aload_n X dd_Search_begin_171 rfl 0 rfl ?_
  refine z_iconst (v := 0) X dd_Search_begin_172 (by decide) ?_
  obtain ⟨c38, ec38, h⟩ := zb h
  refine z_put (j := 11) X dd_Search_begin_173 kc_6 ki_6 tt_Search tk_Search nn_Search (by decide) km_558 rfl (tk_Search 11 (by decide)) rfl rfl ec38 ?_
  refine z_aload_n X dd_Search_begin_176 rfl 0 rfl ?_
  obtain ⟨v39, ev39, h⟩ := zb h
  refine z_get (j := 4) X dd_Search_begin_177 kc_6 ki_6 (by decide) km_551 (zgr_v ev39) ?_
  refine z_iconst (v := 0) X dd_Search_begin_180 (by decide) ?_
  refine z_aload_n X dd_Search_begin_181 rfl 0 rfl ?_
  obtain ⟨v40, ev40, h⟩ := zb h
  refine z_get (j := 10) X dd_Search_begin_182 kc_6 ki_6 (by decide) km_557 (zgi_v ev40) ?_
  refine z_if_ne (tgt := 192) X dd_Search_begin_185 (by decide) (fun q41 => ?_) (fun q41 => ?_)
  · rw [if_neg q41] at h
    refine z_aload_n X dd_Search_begin_192 rfl 0 rfl ?_
    refine z_iconst (v := 0) X dd_Search_begin_193 (by decide) ?_
    obtain ⟨w43, ew43, h⟩ := zb h
    obtain ⟨q42, eq42, h⟩ := zb h
    refine z_callVi X [.int 0] rfl dd_Search_begin_194 (c_Search_candidates l eq42) (cwV 1 X.1.2.2.2.2 (zg_V km_1332 km_1334 km_51 km_134 km_1335) rfl rfl rfl (by decide +kernel) ⟨Nat.le_of_ble_eq_true rfl, Nat.le_of_ble_eq_true rfl⟩) (zob_s ew43) kc_6 rfl (Nat.le_of_ble_eq_true rfl) ⟨Nat.le_of_ble_eq_true rfl, Nat.le_of_ble_eq_true rfl⟩ ?_
    refine z_sub [] rfl ?_
    exact t_Search_begin_197 X H h
  · rw [if_pos q41] at h
    refine z_iconst (v := 0) X dd_Search_begin_188 (by decide) ?_
    refine z_goto (tgt := 197) X dd_Search_begin_189 (by decide) ?_
    refine z_sub [] rfl ?_
    exact t_Search_begin_197 X H h
set_option maxRecDepth 100000 in
set_option maxHeartbeats 4000000 in
theorem t_Search_begin_99  (X : zX p s m args cd D cid B bb_Search_begin 5 rr_Search zT) (H : zH s meth B n0 none "begin") {nf : Nat} {x0 : Nat} {x2 : Int32} {s0 : Int32} {c : Zc} {res : Zc} (h : f_Search_begin_99 nf x0 x2 s0 c = some res) : Zz p l e (zRm 1 26 0 0) s m args below meth cd (MQ below (zQv D cid B res n0 0) args s 0 0 (fun q => B ≤ q)) D cid B 5 0 0 c 99 [(0, .ref x0), (2, .int x2)] [.int s0] := by
  unfold f_Search_begin_99 at h
  refine z_istore_n (lv' := [(3, .int s0), (0, .ref x0), (2, .int x2)]) X dd_Search_begin_99 rfl (by decide) rfl ?_
  refine z_iconst (v := 0) X dd_Search_begin_100 (by decide) ?_
  refine z_istore (lv' := [(4, .int 0), (3, .int s0), (0, .ref x0), (2, .int x2)]) X dd_Search_begin_101 (by decide) rfl ?_
  refine z_sub [2, 3, 1, 0] rfl ?_
  exact t_Search_begin_103 X H h
set_option maxRecDepth 100000 in
set_option maxHeartbeats 4000000 in
theorem t_Search_begin_61  (X : zX p s m args cd D cid B bb_Search_begin 5 rr_Search zT) (H : zH s meth B n0 none "begin") {nf : Nat} {x0 : Nat} {x2 : Int32} {s0 : Nat} {s1 : Int32} {c : Zc} {res : Zc} (h : f_Search_begin_61 nf x0 x2 s0 s1 c = some res) : Zz p l e (zRm 1 26 0 0) s m args below meth cd (MQ below (zQv D cid B res n0 0) args s 0 0 (fun q => B ≤ q)) D cid B 5 0 0 c 61 [(0, .ref x0), (2, .int x2)] [.int s1, .ref s0] := by
  unfold f_Search_begin_61 at h
  obtain ⟨c15, ec15, h⟩ := zb h
  refine z_put (j := 8) X dd_Search_begin_61 kc_6 ki_6 tt_Search tk_Search nn_Search (by decide) km_555 rfl (tk_Search 8 (by decide)) rfl rfl ec15 ?_
  refine z_aload_n X dd_Search_begin_64 rfl 0 rfl ?_
  refine z_aload_n X dd_Search_begin_65 rfl 0 rfl ?_
  obtain ⟨v16, ev16, h⟩ := zb h
  refine z_get (j := 5) X dd_Search_begin_66 kc_6 ki_6 (by decide) km_552 (zgr_v ev16) ?_
  obtain ⟨v17, ev17, h⟩ := zb h
  refine z_get (j := 11) X dd_Search_begin_69 kc_2 ki_2 (by decide) km_335 (zgr_v ev17) ?_
  refine z_iload_n X dd_Search_begin_72 rfl 1 rfl ?_
  obtain ⟨v18, ev18, h⟩ := zb h
  refine z_iaload X dd_Search_begin_73 rfl ev18 ?_
  obtain ⟨c19, ec19, h⟩ := zb h
  refine z_put (j := 9) X dd_Search_begin_74 kc_6 ki_6 tt_Search tk_Search nn_Search (by decide) km_556 rfl (tk_Search 9 (by decide)) rfl rfl ec19 ?_
  refine z_aload_n X dd_Search_begin_77 rfl 0 rfl ?_
  refine z_iconst (v := 0) X dd_Search_begin_78 (by decide) ?_
  obtain ⟨c20, ec20, h⟩ := zb h
  refine z_put (j := 10) X dd_Search_begin_79 kc_6 ki_6 tt_Search tk_Search nn_Search (by decide) km_557 rfl (tk_Search 10 (by decide)) rfl rfl ec20 ?_
  refine z_iload_n X dd_Search_begin_82 rfl 1 rfl ?_
  refine z_if_ne (tgt := 90) X dd_Search_begin_83 (by decide) (fun q21 => ?_) (fun q21 => ?_)
  · rw [if_neg q21] at h
    refine z_aload_n X dd_Search_begin_90 rfl 0 rfl ?_
    obtain ⟨v22, ev22, h⟩ := zb h
    refine z_get (j := 5) X dd_Search_begin_91 kc_6 ki_6 (by decide) km_552 (zgr_v ev22) ?_
    obtain ⟨v23, ev23, h⟩ := zb h
    refine z_get (j := 9) X dd_Search_begin_94 kc_2 ki_2 (by decide) km_330 (zgr_v ev23) ?_
    refine z_iconst (v := 0) X dd_Search_begin_97 (by decide) ?_
    obtain ⟨v24, ev24, h⟩ := zb h
    refine z_iaload X dd_Search_begin_98 rfl ev24 ?_
    exact t_Search_begin_99 X H h
  · rw [if_pos q21] at h
    refine z_iconst (v := 0) X dd_Search_begin_86 (by decide) ?_
    refine z_goto (tgt := 99) X dd_Search_begin_87 (by decide) ?_
    exact t_Search_begin_99 X H h
set_option maxRecDepth 100000 in
set_option maxHeartbeats 4000000 in
theorem t_Search_begin_25  (X : zX p s m args cd D cid B bb_Search_begin 5 rr_Search zT) (H : zH s meth B n0 none "begin") {nf : Nat} {x0 : Nat} {x2 : Int32} {s0 : Nat} {s1 : Int32} {c : Zc} {res : Zc} (h : f_Search_begin_25 nf x0 x2 s0 s1 c = some res) : Zz p l e (zRm 1 26 0 0) s m args below meth cd (MQ below (zQv D cid B res n0 0) args s 0 0 (fun q => B ≤ q)) D cid B 5 0 0 c 25 [(0, .ref x0), (2, .int x2)] [.int s1, .ref s0] := by
  unfold f_Search_begin_25 at h
  obtain ⟨c6, ec6, h⟩ := zb h
  refine z_put (j := 6) X dd_Search_begin_25 kc_6 ki_6 tt_Search tk_Search nn_Search (by decide) km_553 rfl (tk_Search 6 (by decide)) rfl rfl ec6 ?_
  refine z_aload_n X dd_Search_begin_28 rfl 0 rfl ?_
  refine z_aload_n X dd_Search_begin_29 rfl 0 rfl ?_
  obtain ⟨v7, ev7, h⟩ := zb h
  refine z_get (j := 5) X dd_Search_begin_30 kc_6 ki_6 (by decide) km_552 (zgr_v ev7) ?_
  obtain ⟨v8, ev8, h⟩ := zb h
  refine z_get (j := 10) X dd_Search_begin_33 kc_2 ki_2 (by decide) km_333 (zgr_v ev8) ?_
  refine z_iload_n X dd_Search_begin_36 rfl 1 rfl ?_
  obtain ⟨v9, ev9, h⟩ := zb h
  refine z_iaload X dd_Search_begin_37 rfl ev9 ?_
  obtain ⟨c10, ec10, h⟩ := zb h
  refine z_put (j := 7) X dd_Search_begin_38 kc_6 ki_6 tt_Search tk_Search nn_Search (by decide) km_554 rfl (tk_Search 7 (by decide)) rfl rfl ec10 ?_
  refine z_aload_n X dd_Search_begin_41 rfl 0 rfl ?_
  refine z_iload_n X dd_Search_begin_42 rfl 1 rfl ?_
  refine z_if_ne (tgt := 50) X dd_Search_begin_43 (by decide) (fun q11 => ?_) (fun q11 => ?_)
  · rw [if_neg q11] at h
    refine z_aload_n X dd_Search_begin_50 rfl 0 rfl ?_
    obtain ⟨v12, ev12, h⟩ := zb h
    refine z_get (j := 5) X dd_Search_begin_51 kc_6 ki_6 (by decide) km_552 (zgr_v ev12) ?_
    obtain ⟨v13, ev13, h⟩ := zb h
    refine z_get (j := 11) X dd_Search_begin_54 kc_2 ki_2 (by decide) km_335 (zgr_v ev13) ?_
    refine z_iload_n X dd_Search_begin_57 rfl 1 rfl ?_
    refine z_iconst (v := 1) X dd_Search_begin_58 (by decide) ?_
    refine z_isub X dd_Search_begin_59 ?_
    obtain ⟨v14, ev14, h⟩ := zb h
    refine z_iaload X dd_Search_begin_60 rfl ev14 ?_
    exact t_Search_begin_61 X H h
  · rw [if_pos q11] at h
    refine z_iconst (v := 0) X dd_Search_begin_46 (by decide) ?_
    refine z_goto (tgt := 61) X dd_Search_begin_47 (by decide) ?_
    exact t_Search_begin_61 X H h
set_option maxRecDepth 100000 in
set_option maxHeartbeats 4000000 in
theorem c_Search_begin (l : Launch) {nf : Nat} {a0 : Nat} {a1 : Nat} {a2 : Int32} {c : Zc} {res : Zc} (h : f_Search_begin nf a0 a1 a2 c = some res) : zM l yy_Search_begin ww_Search_begin 1 26 0 0 [.ref a0, .ref a1, .int a2] c (fun D cid B => zQv D cid B res c.length 0) := by
  refine z_met (cc := bb_Search_begin) (maxL := 5) (ret := none) (by decide +kernel) rfl (Nat.le_of_ble_eq_true rfl) ?_
  intro p e s m args below meth cd D cid B X h1 h2 h3 h4
  have X : zX p s m args cd D cid B bb_Search_begin 5 rr_Search zT := X
  have H : zH s meth B c.length none "begin" := ⟨h1, h2, h4, h3⟩
  unfold f_Search_begin at h
  show Zz p l e (zRm 1 26 0 0) s m args below meth cd _ D cid B 5 0 0 c 0 [(0, .ref a0), (1, .ref a1), (2, .int a2)] []
  refine z_aload_n X dd_Search_begin_0 rfl 0 rfl ?_
  refine z_aload_n X dd_Search_begin_1 rfl 1 rfl ?_
  obtain ⟨c1, ec1, h⟩ := zb h
  refine z_put (j := 5) X dd_Search_begin_2 kc_6 ki_6 tt_Search tk_Search nn_Search (by decide) km_552 rfl (tk_Search 5 (by decide)) rfl rfl ec1 ?_
  refine z_aload_n X dd_Search_begin_5 rfl 0 rfl ?_
  refine z_iload_n X dd_Search_begin_6 rfl 2 rfl ?_
  refine z_if_ne (tgt := 14) X dd_Search_begin_7 (by decide) (fun q2 => ?_) (fun q2 => ?_)
  · rw [if_neg q2] at h
    refine z_aload_n X dd_Search_begin_14 rfl 0 rfl ?_
    obtain ⟨v3, ev3, h⟩ := zb h
    refine z_get (j := 5) X dd_Search_begin_15 kc_6 ki_6 (by decide) km_552 (zgr_v ev3) ?_
    obtain ⟨v4, ev4, h⟩ := zb h
    refine z_get (j := 10) X dd_Search_begin_18 kc_2 ki_2 (by decide) km_333 (zgr_v ev4) ?_
    refine z_iload_n X dd_Search_begin_21 rfl 2 rfl ?_
    refine z_iconst (v := 1) X dd_Search_begin_22 (by decide) ?_
    refine z_isub X dd_Search_begin_23 ?_
    obtain ⟨v5, ev5, h⟩ := zb h
    refine z_iaload X dd_Search_begin_24 rfl ev5 ?_
    refine z_sub [0, 2] rfl ?_
    exact t_Search_begin_25 X H h
  · rw [if_pos q2] at h
    refine z_iconst (v := 0) X dd_Search_begin_10 (by decide) ?_
    refine z_goto (tgt := 25) X dd_Search_begin_11 (by decide) ?_
    refine z_sub [0, 2] rfl ?_
    exact t_Search_begin_25 X H h
end ZzM
