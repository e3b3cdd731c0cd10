section ZzT
abbrev M_Mo_begin : List (Nat × Nat) := [(64, 13), (64, 17), (64, 18), (64, 19), (64, 21), (64, 25), (64, 52), (64, 53), (64, 56), (64, 57), (74, 0), (75, 0), (76, 0), (79, 0), (80, 0), (81, 0), (83, 0), (84, 0), (96, 0), (99, 0), (100, 0), (105, 0), (106, 0)]
set_option maxRecDepth 100000 in
set_option maxHeartbeats 4000000 in
theorem p_Mo_begin {nf : Nat} (hn : 8589934592 ≤ nf) {G : List Nat} {c : Zc} (W : Zwt zty G c) {a0 : Nat}  (t_a0 : G[a0]? = some 64) (hb_Zwo : Zwo G c a0) : ∃ q, f_Mo_begin nf a0 c = some q ∧ Zwt zty G q ∧ Zfr G M_Mo_begin c q ∧ ZVB G q a0 := by
  have F0 : Zfr G M_Mo_begin c c := Zfr.rf
  unfold f_Mo_begin
  obtain ⟨k0Zwo0, k1Zwo0⟩ := hb_Zwo
  obtain ⟨v1, ev1, lv1, uv1⟩ := gf_64_24 W t_a0
  refine wb ev1 ?_
  obtain ⟨c2, ec2, Wc2, fc2, gc2⟩ := pf_64_25 W t_a0 (x := v1) (rgi (by omega) (by omega))
  refine wb ec2 ?_
  have e1 := (Zfr.gi fc2 t_a0 (by decide)).trans ev1
  have k2 := GtW_fr k0Zwo0 fc2 t_a0 W (by decide)
  have k3 := TkN_fr k1Zwo0 fc2 t_a0 W (by decide)
  have F4 := Zfr.tr F0 fc2 (by decide)
  have k5 := GtP_mk k2 e1 gc2
  obtain ⟨v3, ev3, tv3⟩ := gf_64_26 Wc2 t_a0
  refine wb ev3 ?_
  refine wb gc2 ?_
  have := li_0
  obtain ⟨c5, ec5, Wc5, fc5, gc5⟩ := pa_79 Wc2 tv3 (i := v1) (by omega) (by omega) (x := 0) (rgi (by omega) (by omega))
  refine wb ec5 ?_
  have e6 := (Zfr.gi fc5 t_a0 (by decide)).trans e1
  have e7 := (Zfr.gi fc5 t_a0 (by decide)).trans gc2
  have e8 := (Zfr.gr fc5 t_a0 (by decide)).trans ev3
  have k9 := TkN_fr k3 fc5 t_a0 Wc2 (by decide)
  have k10 := GtP_fr k5 fc5 t_a0 Wc2 (by decide)
  have F11 := Zfr.tr F4 fc5 (by decide)
  obtain ⟨v6, ev6, tv6⟩ := gf_64_27 Wc5 t_a0
  refine wb ev6 ?_
  refine wb e7 ?_
  obtain ⟨c8, ec8, Wc8, fc8, gc8⟩ := pa_80 Wc5 tv6 (i := v1) (by omega) (by omega) (x := 0) (rgi (by omega) (by omega))
  refine wb ec8 ?_
  have e12 := (Zfr.gi fc8 t_a0 (by decide)).trans e6
  have e13 := (Zfr.gi fc8 t_a0 (by decide)).trans e7
  have e14 := (Zfr.gr fc8 t_a0 (by decide)).trans e8
  have e15 := (Zfr.ai fc8 tv3 (by decide)).trans gc5
  have e16 := (Zfr.gr fc8 t_a0 (by decide)).trans ev6
  have k17 := TkN_fr k9 fc8 t_a0 Wc5 (by decide)
  have k18 := GtP_fr k10 fc8 t_a0 Wc5 (by decide)
  have F19 := Zfr.tr F11 fc8 (by decide)
  obtain ⟨v9, ev9, tv9⟩ := gf_64_28 Wc8 t_a0
  refine wb ev9 ?_
  refine wb e13 ?_
  obtain ⟨c11, ec11, Wc11, fc11, gc11⟩ := pa_81 Wc8 tv9 (i := v1) (by omega) (by omega) (x := 0) (rgi (by omega) (by omega))
  refine wb ec11 ?_
  have e20 := (Zfr.gi fc11 t_a0 (by decide)).trans e12
  have e21 := (Zfr.gi fc11 t_a0 (by decide)).trans e13
  have e22 := (Zfr.gr fc11 t_a0 (by decide)).trans e14
  have e23 := (Zfr.ai fc11 tv3 (by decide)).trans e15
  have e24 := (Zfr.gr fc11 t_a0 (by decide)).trans e16
  have e25 := (Zfr.ai fc11 tv6 (by decide)).trans gc8
  have e26 := (Zfr.gr fc11 t_a0 (by decide)).trans ev9
  have k27 := TkN_fr k17 fc11 t_a0 Wc8 (by decide)
  have k28 := GtP_fr k18 fc11 t_a0 Wc8 (by decide)
  have F29 := Zfr.tr F19 fc11 (by decide)
  obtain ⟨v12, ev12, tv12⟩ := gf_64_31 Wc11 t_a0
  refine wb ev12 ?_
  refine wb e21 ?_
  obtain ⟨c14, ec14, Wc14, fc14, gc14⟩ := pa_84 Wc11 tv12 (i := v1) (by omega) (by omega) (x := 0) (rgi (by omega) (by omega))
  refine wb ec14 ?_
  have e30 := (Zfr.gi fc14 t_a0 (by decide)).trans e20
  have e31 := (Zfr.gi fc14 t_a0 (by decide)).trans e21
  have e32 := (Zfr.gr fc14 t_a0 (by decide)).trans e22
  have e33 := (Zfr.ai fc14 tv3 (by decide)).trans e23
  have e34 := (Zfr.gr fc14 t_a0 (by decide)).trans e24
  have e35 := (Zfr.ai fc14 tv6 (by decide)).trans e25
  have e36 := (Zfr.gr fc14 t_a0 (by decide)).trans e26
  have e37 := (Zfr.ai fc14 tv9 (by decide)).trans gc11
  have e38 := (Zfr.gr fc14 t_a0 (by decide)).trans ev12
  have k39 := TkN_fr k27 fc14 t_a0 Wc11 (by decide)
  have k40 := GtP_w31 k28 Wc11 t_a0 fc14 e21 ev12 ec14 (by omega) (by omega) (by omega)
  have F41 := Zfr.tr F29 fc14 (by decide)
  obtain ⟨v15, ev15, tv15⟩ := gf_64_43 Wc14 t_a0
  refine wb ev15 ?_
  refine wb e31 ?_
  obtain ⟨c17, ec17, Wc17, fc17, gc17⟩ := pa_96 Wc14 tv15 (i := v1) (by omega) (by omega) (x := 0) (rgi (by omega) (by omega))
  refine wb ec17 ?_
  have e42 := (Zfr.gi fc17 t_a0 (by decide)).trans e30
  have e43 := (Zfr.gi fc17 t_a0 (by decide)).trans e31
  have e44 := (Zfr.gr fc17 t_a0 (by decide)).trans e32
  have e45 := (Zfr.ai fc17 tv3 (by decide)).trans e33
  have e46 := (Zfr.gr fc17 t_a0 (by decide)).trans e34
  have e47 := (Zfr.ai fc17 tv6 (by decide)).trans e35
  have e48 := (Zfr.gr fc17 t_a0 (by decide)).trans e36
  have e49 := (Zfr.ai fc17 tv9 (by decide)).trans e37
  have e50 := (Zfr.gr fc17 t_a0 (by decide)).trans e38
  have e51 := (Zfr.ai fc17 tv12 (by decide)).trans gc14
  have e52 := (Zfr.gr fc17 t_a0 (by decide)).trans ev15
  have k53 := TkN_fr k39 fc17 t_a0 Wc14 (by decide)
  have k54 := GtP_w43 k40 Wc14 t_a0 fc17 e31 ev15 ec17 (by omega) (by omega) (by omega)
  have F55 := Zfr.tr F41 fc17 (by decide)
  obtain ⟨v18, ev18, tv18⟩ := gf_64_47 Wc17 t_a0
  refine wb ev18 ?_
  refine wb e43 ?_
  obtain ⟨c20, ec20, Wc20, fc20, gc20⟩ := pa_100 Wc17 tv18 (i := v1) (by omega) (by omega) (x := 0) (rgi (by omega) (by omega))
  refine wb ec20 ?_
  have e56 := (Zfr.gi fc20 t_a0 (by decide)).trans e42
  have e57 := (Zfr.gi fc20 t_a0 (by decide)).trans e43
  have e58 := (Zfr.gr fc20 t_a0 (by decide)).trans e44
  have e59 := (Zfr.ai fc20 tv3 (by decide)).trans e45
  have e60 := (Zfr.gr fc20 t_a0 (by decide)).trans e46
  have e61 := (Zfr.ai fc20 tv6 (by decide)).trans e47
  have e62 := (Zfr.gr fc20 t_a0 (by decide)).trans e48
  have e63 := (Zfr.ai fc20 tv9 (by decide)).trans e49
  have e64 := (Zfr.gr fc20 t_a0 (by decide)).trans e50
  have e65 := (Zfr.ai fc20 tv12 (by decide)).trans e51
  have e66 := (Zfr.gr fc20 t_a0 (by decide)).trans e52
  have e67 := (Zfr.ai fc20 tv15 (by decide)).trans gc17
  have e68 := (Zfr.gr fc20 t_a0 (by decide)).trans ev18
  have k69 := TkN_fr k53 fc20 t_a0 Wc17 (by decide)
  have k70 := GtP_fr k54 fc20 t_a0 Wc17 (by decide)
  have F71 := Zfr.tr F55 fc20 (by decide)
  obtain ⟨v21, ev21, tv21⟩ := gf_64_46 Wc20 t_a0
  refine wb ev21 ?_
  refine wb e57 ?_
  have := li_m1
  obtain ⟨c23, ec23, Wc23, fc23, gc23⟩ := pa_99 Wc20 tv21 (i := v1) (by omega) (by omega) (x := (-1)) (rgi (by omega) (by omega))
  refine wb ec23 ?_
  have e72 := (Zfr.gi fc23 t_a0 (by decide)).trans e56
  have e73 := (Zfr.gi fc23 t_a0 (by decide)).trans e57
  have e74 := (Zfr.gr fc23 t_a0 (by decide)).trans e58
  have e75 := (Zfr.ai fc23 tv3 (by decide)).trans e59
  have e76 := (Zfr.gr fc23 t_a0 (by decide)).trans e60
  have e77 := (Zfr.ai fc23 tv6 (by decide)).trans e61
  have e78 := (Zfr.gr fc23 t_a0 (by decide)).trans e62
  have e79 := (Zfr.ai fc23 tv9 (by decide)).trans e63
  have e80 := (Zfr.gr fc23 t_a0 (by decide)).trans e64
  have e81 := (Zfr.ai fc23 tv12 (by decide)).trans e65
  have e82 := (Zfr.gr fc23 t_a0 (by decide)).trans e66
  have e83 := (Zfr.ai fc23 tv15 (by decide)).trans e67
  have e84 := (Zfr.gr fc23 t_a0 (by decide)).trans e68
  have e85 := (Zfr.ai fc23 tv18 (by decide)).trans gc20
  have e86 := (Zfr.gr fc23 t_a0 (by decide)).trans ev21
  have k87 := TkN_fr k69 fc23 t_a0 Wc20 (by decide)
  have k88 := GtP_w46 k70 Wc20 t_a0 fc23 e57 ev21 ec23 (by omega) (by omega) (by omega)
  have F89 := Zfr.tr F71 fc23 (by decide)
  obtain ⟨c24, ec24, Wc24, fc24, gc24⟩ := pf_64_52 Wc23 t_a0 (x := 0) (rgi (by omega) (by omega))
  refine wb ec24 ?_
  have e90 := (Zfr.gi fc24 t_a0 (by decide)).trans e72
  have e91 := (Zfr.gi fc24 t_a0 (by decide)).trans e73
  have e92 := (Zfr.gr fc24 t_a0 (by decide)).trans e74
  have e93 := (Zfr.ai fc24 tv3 (by decide)).trans e75
  have e94 := (Zfr.gr fc24 t_a0 (by decide)).trans e76
  have e95 := (Zfr.ai fc24 tv6 (by decide)).trans e77
  have e96 := (Zfr.gr fc24 t_a0 (by decide)).trans e78
  have e97 := (Zfr.ai fc24 tv9 (by decide)).trans e79
  have e98 := (Zfr.gr fc24 t_a0 (by decide)).trans e80
  have e99 := (Zfr.ai fc24 tv12 (by decide)).trans e81
  have e100 := (Zfr.gr fc24 t_a0 (by decide)).trans e82
  have e101 := (Zfr.ai fc24 tv15 (by decide)).trans e83
  have e102 := (Zfr.gr fc24 t_a0 (by decide)).trans e84
  have e103 := (Zfr.ai fc24 tv18 (by decide)).trans e85
  have e104 := (Zfr.gr fc24 t_a0 (by decide)).trans e86
  have e105 := (Zfr.ai fc24 tv21 (by decide)).trans gc23
  have k106 := TkN_fr k87 fc24 t_a0 Wc23 (by decide)
  have k107 := GtP_fr k88 fc24 t_a0 Wc23 (by decide)
  have F108 := Zfr.tr F89 fc24 (by decide)
  obtain ⟨c25, ec25, Wc25, fc25, gc25⟩ := pf_64_57 Wc24 t_a0 (x := 0) (rgi (by omega) (by omega))
  refine wb ec25 ?_
  have e109 := (Zfr.gi fc25 t_a0 (by decide)).trans e90
  have e110 := (Zfr.gi fc25 t_a0 (by decide)).trans e91
  have e111 := (Zfr.gr fc25 t_a0 (by decide)).trans e92
  have e112 := (Zfr.ai fc25 tv3 (by decide)).trans e93
  have e113 := (Zfr.gr fc25 t_a0 (by decide)).trans e94
  have e114 := (Zfr.ai fc25 tv6 (by decide)).trans e95
  have e115 := (Zfr.gr fc25 t_a0 (by decide)).trans e96
  have e116 := (Zfr.ai fc25 tv9 (by decide)).trans e97
  have e117 := (Zfr.gr fc25 t_a0 (by decide)).trans e98
  have e118 := (Zfr.ai fc25 tv12 (by decide)).trans e99
  have e119 := (Zfr.gr fc25 t_a0 (by decide)).trans e100
  have e120 := (Zfr.ai fc25 tv15 (by decide)).trans e101
  have e121 := (Zfr.gr fc25 t_a0 (by decide)).trans e102
  have e122 := (Zfr.ai fc25 tv18 (by decide)).trans e103
  have e123 := (Zfr.gr fc25 t_a0 (by decide)).trans e104
  have e124 := (Zfr.ai fc25 tv21 (by decide)).trans e105
  have e125 := (Zfr.gi fc25 t_a0 (by decide)).trans gc24
  have k126 := TkN_fr k106 fc25 t_a0 Wc24 (by decide)
  have k127 := GtP_fr k107 fc25 t_a0 Wc24 (by decide)
  have F128 := Zfr.tr F108 fc25 (by decide)
  obtain ⟨c26, ec26, Wc26, fc26, gc26⟩ := pf_64_56 Wc25 t_a0 (x := 0) (rgi (by omega) (by omega))
  refine wb ec26 ?_
  have e129 := (Zfr.gi fc26 t_a0 (by decide)).trans e109
  have e130 := (Zfr.gi fc26 t_a0 (by decide)).trans e110
  have e131 := (Zfr.gr fc26 t_a0 (by decide)).trans e111
  have e132 := (Zfr.ai fc26 tv3 (by decide)).trans e112
  have e133 := (Zfr.gr fc26 t_a0 (by decide)).trans e113
  have e134 := (Zfr.ai fc26 tv6 (by decide)).trans e114
  have e135 := (Zfr.gr fc26 t_a0 (by decide)).trans e115
  have e136 := (Zfr.ai fc26 tv9 (by decide)).trans e116
  have e137 := (Zfr.gr fc26 t_a0 (by decide)).trans e117
  have e138 := (Zfr.ai fc26 tv12 (by decide)).trans e118
  have e139 := (Zfr.gr fc26 t_a0 (by decide)).trans e119
  have e140 := (Zfr.ai fc26 tv15 (by decide)).trans e120
  have e141 := (Zfr.gr fc26 t_a0 (by decide)).trans e121
  have e142 := (Zfr.ai fc26 tv18 (by decide)).trans e122
  have e143 := (Zfr.gr fc26 t_a0 (by decide)).trans e123
  have e144 := (Zfr.ai fc26 tv21 (by decide)).trans e124
  have e145 := (Zfr.gi fc26 t_a0 (by decide)).trans e125
  have e146 := (Zfr.gi fc26 t_a0 (by decide)).trans gc25
  have k147 := TkN_fr k126 fc26 t_a0 Wc25 (by decide)
  have k148 := GtP_fr k127 fc26 t_a0 Wc25 (by decide)
  have F149 := Zfr.tr F128 fc26 (by decide)
  obtain ⟨c27, ec27, Wc27, fc27, gc27⟩ := pf_64_53 Wc26 t_a0 (x := 0) (rgi (by omega) (by omega))
  refine wb ec27 ?_
  have e150 := (Zfr.gi fc27 t_a0 (by decide)).trans e129
  have e151 := (Zfr.gi fc27 t_a0 (by decide)).trans e130
  have e152 := (Zfr.gr fc27 t_a0 (by decide)).trans e131
  have e153 := (Zfr.ai fc27 tv3 (by decide)).trans e132
  have e154 := (Zfr.gr fc27 t_a0 (by decide)).trans e133
  have e155 := (Zfr.ai fc27 tv6 (by decide)).trans e134
  have e156 := (Zfr.gr fc27 t_a0 (by decide)).trans e135
  have e157 := (Zfr.ai fc27 tv9 (by decide)).trans e136
  have e158 := (Zfr.gr fc27 t_a0 (by decide)).trans e137
  have e159 := (Zfr.ai fc27 tv12 (by decide)).trans e138
  have e160 := (Zfr.gr fc27 t_a0 (by decide)).trans e139
  have e161 := (Zfr.ai fc27 tv15 (by decide)).trans e140
  have e162 := (Zfr.gr fc27 t_a0 (by decide)).trans e141
  have e163 := (Zfr.ai fc27 tv18 (by decide)).trans e142
  have e164 := (Zfr.gr fc27 t_a0 (by decide)).trans e143
  have e165 := (Zfr.ai fc27 tv21 (by decide)).trans e144
  have e166 := (Zfr.gi fc27 t_a0 (by decide)).trans e145
  have e167 := (Zfr.gi fc27 t_a0 (by decide)).trans e146
  have k168 := TkN_fr k147 fc27 t_a0 Wc26 (by decide)
  have k169 := GtP_fr k148 fc27 t_a0 Wc26 (by decide)
  have F170 := Zfr.tr F149 fc27 (by decide)
  obtain ⟨c28, ec28, Wc28, fc28, gc28⟩ := pf_64_19 Wc27 t_a0 (x := 0) (rgi (by omega) (by omega))
  refine wb ec28 ?_
  have e171 := (Zfr.gi fc28 t_a0 (by decide)).trans e150
  have e172 := (Zfr.gi fc28 t_a0 (by decide)).trans e151
  have e173 := (Zfr.gr fc28 t_a0 (by decide)).trans e152
  have e174 := (Zfr.ai fc28 tv3 (by decide)).trans e153
  have e175 := (Zfr.gr fc28 t_a0 (by decide)).trans e154
  have e176 := (Zfr.ai fc28 tv6 (by decide)).trans e155
  have e177 := (Zfr.gr fc28 t_a0 (by decide)).trans e156
  have e178 := (Zfr.ai fc28 tv9 (by decide)).trans e157
  have e179 := (Zfr.gr fc28 t_a0 (by decide)).trans e158
  have e180 := (Zfr.ai fc28 tv12 (by decide)).trans e159
  have e181 := (Zfr.gr fc28 t_a0 (by decide)).trans e160
  have e182 := (Zfr.ai fc28 tv15 (by decide)).trans e161
  have e183 := (Zfr.gr fc28 t_a0 (by decide)).trans e162
  have e184 := (Zfr.ai fc28 tv18 (by decide)).trans e163
  have e185 := (Zfr.gr fc28 t_a0 (by decide)).trans e164
  have e186 := (Zfr.ai fc28 tv21 (by decide)).trans e165
  have e187 := (Zfr.gi fc28 t_a0 (by decide)).trans e166
  have e188 := (Zfr.gi fc28 t_a0 (by decide)).trans e167
  have e189 := (Zfr.gi fc28 t_a0 (by decide)).trans gc27
  have k190 := TkN_fr k168 fc28 t_a0 Wc27 (by decide)
  have k191 := GtP_fr k169 fc28 t_a0 Wc27 (by decide)
  have F192 := Zfr.tr F170 fc28 (by decide)
  obtain ⟨c29, ec29, Wc29, fc29, gc29⟩ := pf_64_18 Wc28 t_a0 (x := 0) (rgi (by omega) (by omega))
  refine wb ec29 ?_
  have e193 := (Zfr.gi fc29 t_a0 (by decide)).trans e171
  have e194 := (Zfr.gi fc29 t_a0 (by decide)).trans e172
  have e195 := (Zfr.gr fc29 t_a0 (by decide)).trans e173
  have e196 := (Zfr.ai fc29 tv3 (by decide)).trans e174
  have e197 := (Zfr.gr fc29 t_a0 (by decide)).trans e175
  have e198 := (Zfr.ai fc29 tv6 (by decide)).trans e176
  have e199 := (Zfr.gr fc29 t_a0 (by decide)).trans e177
  have e200 := (Zfr.ai fc29 tv9 (by decide)).trans e178
  have e201 := (Zfr.gr fc29 t_a0 (by decide)).trans e179
  have e202 := (Zfr.ai fc29 tv12 (by decide)).trans e180
  have e203 := (Zfr.gr fc29 t_a0 (by decide)).trans e181
  have e204 := (Zfr.ai fc29 tv15 (by decide)).trans e182
  have e205 := (Zfr.gr fc29 t_a0 (by decide)).trans e183
  have e206 := (Zfr.ai fc29 tv18 (by decide)).trans e184
  have e207 := (Zfr.gr fc29 t_a0 (by decide)).trans e185
  have e208 := (Zfr.ai fc29 tv21 (by decide)).trans e186
  have e209 := (Zfr.gi fc29 t_a0 (by decide)).trans e187
  have e210 := (Zfr.gi fc29 t_a0 (by decide)).trans e188
  have e211 := (Zfr.gi fc29 t_a0 (by decide)).trans e189
  have e212 := (Zfr.gi fc29 t_a0 (by decide)).trans gc28
  have k213 := TkN_fr k190 fc29 t_a0 Wc28 (by decide)
  have k214 := GtP_fr k191 fc29 t_a0 Wc28 (by decide)
  have F215 := Zfr.tr F192 fc29 (by decide)
  unfold f_Mo_begin_110
  have L216 : ∃ b, zlp (fun a : Nat × Int32 × Zc => g_Mo_begin_110 nf a.1 a.2.1 a.2.2) nf (a0, 0, c29) = some b ∧ (fun b : (Nat × Zc) => a0 = b.1 ∧ Zwt zty G b.2 ∧ Zfr G ([(83, 0)] : List (Nat × Nat)) c29 b.2) b := by
    refine wlp (fun a : Nat × Int32 × Zc => a0 = a.1 ∧ Zwt zty G a.2.2 ∧ Zfr G ([(83, 0)] : List (Nat × Nat)) c29 a.2.2 ∧ 0 ≤ a.2.1.toInt ∧ a.2.1.toInt ≤ 640) (fun a => (640 - a.2.1.toInt).toNat) (fun b : (Nat × Zc) => a0 = b.1 ∧ Zwt zty G b.2 ∧ Zfr G ([(83, 0)] : List (Nat × Nat)) c29 b.2) ?_ ?_ ?_
    · rintro ⟨x0_217, x1_217, c_217⟩ hI
      try dsimp only at hI ⊢
      obtain ⟨rfl, WLc_217, FLc_217, j218, j219⟩ := hI
      have e220 := (Zfr.gi FLc_217 t_a0 (by decide)).trans e193
      have e221 := (Zfr.gi FLc_217 t_a0 (by decide)).trans e194
      have e222 := (Zfr.gr FLc_217 t_a0 (by decide)).trans e195
      have e223 := (Zfr.ai FLc_217 tv3 (by decide)).trans e196
      have e224 := (Zfr.gr FLc_217 t_a0 (by decide)).trans e197
      have e225 := (Zfr.ai FLc_217 tv6 (by decide)).trans e198
      have e226 := (Zfr.gr FLc_217 t_a0 (by decide)).trans e199
      have e227 := (Zfr.ai FLc_217 tv9 (by decide)).trans e200
      have e228 := (Zfr.gr FLc_217 t_a0 (by decide)).trans e201
      have e229 := (Zfr.ai FLc_217 tv12 (by decide)).trans e202
      have e230 := (Zfr.gr FLc_217 t_a0 (by decide)).trans e203
      have e231 := (Zfr.ai FLc_217 tv15 (by decide)).trans e204
      have e232 := (Zfr.gr FLc_217 t_a0 (by decide)).trans e205
      have e233 := (Zfr.ai FLc_217 tv18 (by decide)).trans e206
      have e234 := (Zfr.gr FLc_217 t_a0 (by decide)).trans e207
      have e235 := (Zfr.ai FLc_217 tv21 (by decide)).trans e208
      have e236 := (Zfr.gi FLc_217 t_a0 (by decide)).trans e209
      have e237 := (Zfr.gi FLc_217 t_a0 (by decide)).trans e210
      have e238 := (Zfr.gi FLc_217 t_a0 (by decide)).trans e211
      have e239 := (Zfr.gi FLc_217 t_a0 (by decide)).trans e212
      have e240 := (Zfr.gi FLc_217 t_a0 (by decide)).trans gc29
      have k241 := TkN_fr k213 FLc_217 t_a0 Wc29 (by decide)
      have k242 := GtP_fr k214 FLc_217 t_a0 Wc29 (by decide)
      unfold g_Mo_begin_110
      refine wi (fun hq243 => ?_) (fun hq243 => ?_)
      · have := li_640
        have hq243 := i_le hq243
        exact lInr ⟨rfl, WLc_217, FLc_217⟩
      · have := li_640
        have hq243 := i_nle hq243
        obtain ⟨v31, ev31, tv31⟩ := gf_64_30 WLc_217 t_a0
        refine wb ev31 ?_
        refine wb e221 ?_
        have := i_mull (a := 640) (b := v1) (n := 640) li_640 (by omega) (by omega)
        have := i_add (a := (640 * v1)) (b := x1_217) (by omega) (by omega)
        obtain ⟨c33, ec33, Wc33, fc33, gc33⟩ := pa_83 WLc_217 tv31 (i := ((640 * v1) + x1_217)) (by omega) (by omega) (x := 0) (trivial)
        refine wb ec33 ?_
        have e244 := (Zfr.gi fc33 t_a0 (by decide)).trans e220
        have e245 := (Zfr.gi fc33 t_a0 (by decide)).trans e221
        have e246 := (Zfr.gr fc33 t_a0 (by decide)).trans e222
        have e247 := (Zfr.ai fc33 tv3 (by decide)).trans e223
        have e248 := (Zfr.gr fc33 t_a0 (by decide)).trans e224
        have e249 := (Zfr.ai fc33 tv6 (by decide)).trans e225
        have e250 := (Zfr.gr fc33 t_a0 (by decide)).trans e226
        have e251 := (Zfr.ai fc33 tv9 (by decide)).trans e227
        have e252 := (Zfr.gr fc33 t_a0 (by decide)).trans e228
        have e253 := (Zfr.ai fc33 tv12 (by decide)).trans e229
        have e254 := (Zfr.gr fc33 t_a0 (by decide)).trans e230
        have e255 := (Zfr.ai fc33 tv15 (by decide)).trans e231
        have e256 := (Zfr.gr fc33 t_a0 (by decide)).trans e232
        have e257 := (Zfr.ai fc33 tv18 (by decide)).trans e233
        have e258 := (Zfr.gr fc33 t_a0 (by decide)).trans e234
        have e259 := (Zfr.ai fc33 tv21 (by decide)).trans e235
        have e260 := (Zfr.gi fc33 t_a0 (by decide)).trans e236
        have e261 := (Zfr.gi fc33 t_a0 (by decide)).trans e237
        have e262 := (Zfr.gi fc33 t_a0 (by decide)).trans e238
        have e263 := (Zfr.gi fc33 t_a0 (by decide)).trans e239
        have e264 := (Zfr.gi fc33 t_a0 (by decide)).trans e240
        have k265 := TkN_fr k241 fc33 t_a0 WLc_217 (by decide)
        have k266 := GtP_fr k242 fc33 t_a0 WLc_217 (by decide)
        have F267 := Zfr.tr FLc_217 fc33 (by decide)
        have := li_1
        have := i_add (a := x1_217) (b := 1) (by omega) (by omega)
        exact lInl ⟨rfl, Wc33, F267, by (try dsimp only); omega, by (try dsimp only); omega⟩ (by (try dsimp only); omega)
    · exact ⟨rfl, Wc29, Zfr.rf, by (try dsimp only); omega, by (try dsimp only); omega⟩
    · (try dsimp only); omega
  obtain ⟨b, eb, hb⟩ := L216
  refine wb eb ?_
  clear eb
  obtain ⟨z0_268, c_268⟩ := b
  try dsimp only at hb ⊢
  obtain ⟨rfl, WXc_268, FXc_268⟩ := hb
  have e269 := (Zfr.gi FXc_268 t_a0 (by decide)).trans e193
  have e270 := (Zfr.gi FXc_268 t_a0 (by decide)).trans e194
  have e271 := (Zfr.gr FXc_268 t_a0 (by decide)).trans e195
  have e272 := (Zfr.ai FXc_268 tv3 (by decide)).trans e196
  have e273 := (Zfr.gr FXc_268 t_a0 (by decide)).trans e197
  have e274 := (Zfr.ai FXc_268 tv6 (by decide)).trans e198
  have e275 := (Zfr.gr FXc_268 t_a0 (by decide)).trans e199
  have e276 := (Zfr.ai FXc_268 tv9 (by decide)).trans e200
  have e277 := (Zfr.gr FXc_268 t_a0 (by decide)).trans e201
  have e278 := (Zfr.ai FXc_268 tv12 (by decide)).trans e202
  have e279 := (Zfr.gr FXc_268 t_a0 (by decide)).trans e203
  have e280 := (Zfr.ai FXc_268 tv15 (by decide)).trans e204
  have e281 := (Zfr.gr FXc_268 t_a0 (by decide)).trans e205
  have e282 := (Zfr.ai FXc_268 tv18 (by decide)).trans e206
  have e283 := (Zfr.gr FXc_268 t_a0 (by decide)).trans e207
  have e284 := (Zfr.ai FXc_268 tv21 (by decide)).trans e208
  have e285 := (Zfr.gi FXc_268 t_a0 (by decide)).trans e209
  have e286 := (Zfr.gi FXc_268 t_a0 (by decide)).trans e210
  have e287 := (Zfr.gi FXc_268 t_a0 (by decide)).trans e211
  have e288 := (Zfr.gi FXc_268 t_a0 (by decide)).trans e212
  have e289 := (Zfr.gi FXc_268 t_a0 (by decide)).trans gc29
  have k290 := TkN_fr k213 FXc_268 t_a0 Wc29 (by decide)
  have k291 := GtP_fr k214 FXc_268 t_a0 Wc29 (by decide)
  have F292 := Zfr.tr F215 FXc_268 (by decide)
  unfold f_Mo_begin_141
  have L293 : ∃ b, zlp (fun a : Nat × Int32 × Zc => g_Mo_begin_141 nf a.1 a.2.1 a.2.2) nf (a0, 0, c_268) = some b ∧ (fun b : (Nat × Zc) => a0 = b.1 ∧ Zwt zty G b.2 ∧ Zfr G ([(105, 0), (106, 0)] : List (Nat × Nat)) c_268 b.2) b := by
    refine wlp (fun a : Nat × Int32 × Zc => a0 = a.1 ∧ Zwt zty G a.2.2 ∧ Zfr G ([(105, 0), (106, 0)] : List (Nat × Nat)) c_268 a.2.2 ∧ 0 ≤ a.2.1.toInt ∧ a.2.1.toInt ≤ 66) (fun a => (66 - a.2.1.toInt).toNat) (fun b : (Nat × Zc) => a0 = b.1 ∧ Zwt zty G b.2 ∧ Zfr G ([(105, 0), (106, 0)] : List (Nat × Nat)) c_268 b.2) ?_ ?_ ?_
    · rintro ⟨x0_294, x1_294, c_294⟩ hI
      try dsimp only at hI ⊢
      obtain ⟨rfl, WLc_294, FLc_294, j295, j296⟩ := hI
      have e297 := (Zfr.gi FLc_294 t_a0 (by decide)).trans e269
      have e298 := (Zfr.gi FLc_294 t_a0 (by decide)).trans e270
      have e299 := (Zfr.gr FLc_294 t_a0 (by decide)).trans e271
      have e300 := (Zfr.ai FLc_294 tv3 (by decide)).trans e272
      have e301 := (Zfr.gr FLc_294 t_a0 (by decide)).trans e273
      have e302 := (Zfr.ai FLc_294 tv6 (by decide)).trans e274
      have e303 := (Zfr.gr FLc_294 t_a0 (by decide)).trans e275
      have e304 := (Zfr.ai FLc_294 tv9 (by decide)).trans e276
      have e305 := (Zfr.gr FLc_294 t_a0 (by decide)).trans e277
      have e306 := (Zfr.ai FLc_294 tv12 (by decide)).trans e278
      have e307 := (Zfr.gr FLc_294 t_a0 (by decide)).trans e279
      have e308 := (Zfr.ai FLc_294 tv15 (by decide)).trans e280
      have e309 := (Zfr.gr FLc_294 t_a0 (by decide)).trans e281
      have e310 := (Zfr.ai FLc_294 tv18 (by decide)).trans e282
      have e311 := (Zfr.gr FLc_294 t_a0 (by decide)).trans e283
      have e312 := (Zfr.ai FLc_294 tv21 (by decide)).trans e284
      have e313 := (Zfr.gi FLc_294 t_a0 (by decide)).trans e285
      have e314 := (Zfr.gi FLc_294 t_a0 (by decide)).trans e286
      have e315 := (Zfr.gi FLc_294 t_a0 (by decide)).trans e287
      have e316 := (Zfr.gi FLc_294 t_a0 (by decide)).trans e288
      have e317 := (Zfr.gi FLc_294 t_a0 (by decide)).trans e289
      have k318 := TkN_fr k290 FLc_294 t_a0 WXc_268 (by decide)
      have k319 := GtP_fr k291 FLc_294 t_a0 WXc_268 (by decide)
      unfold g_Mo_begin_141
      refine wi (fun hq320 => ?_) (fun hq320 => ?_)
      · have := li_66
        have hq320 := i_le hq320
        exact lInr ⟨rfl, WLc_294, FLc_294⟩
      · have := li_66
        have hq320 := i_nle hq320
        obtain ⟨v35, ev35, tv35⟩ := gf_64_54 WLc_294 t_a0
        refine wb ev35 ?_
        obtain ⟨c36, ec36, Wc36, fc36, gc36⟩ := pa_105 WLc_294 tv35 (i := x1_294) (by omega) (by omega) (x := (-1)) (kni (by omega))
        refine wb ec36 ?_
        have e321 := (Zfr.gi fc36 t_a0 (by decide)).trans e297
        have e322 := (Zfr.gi fc36 t_a0 (by decide)).trans e298
        have e323 := (Zfr.gr fc36 t_a0 (by decide)).trans e299
        have e324 := (Zfr.ai fc36 tv3 (by decide)).trans e300
        have e325 := (Zfr.gr fc36 t_a0 (by decide)).trans e301
        have e326 := (Zfr.ai fc36 tv6 (by decide)).trans e302
        have e327 := (Zfr.gr fc36 t_a0 (by decide)).trans e303
        have e328 := (Zfr.ai fc36 tv9 (by decide)).trans e304
        have e329 := (Zfr.gr fc36 t_a0 (by decide)).trans e305
        have e330 := (Zfr.ai fc36 tv12 (by decide)).trans e306
        have e331 := (Zfr.gr fc36 t_a0 (by decide)).trans e307
        have e332 := (Zfr.ai fc36 tv15 (by decide)).trans e308
        have e333 := (Zfr.gr fc36 t_a0 (by decide)).trans e309
        have e334 := (Zfr.ai fc36 tv18 (by decide)).trans e310
        have e335 := (Zfr.gr fc36 t_a0 (by decide)).trans e311
        have e336 := (Zfr.ai fc36 tv21 (by decide)).trans e312
        have e337 := (Zfr.gi fc36 t_a0 (by decide)).trans e313
        have e338 := (Zfr.gi fc36 t_a0 (by decide)).trans e314
        have e339 := (Zfr.gi fc36 t_a0 (by decide)).trans e315
        have e340 := (Zfr.gi fc36 t_a0 (by decide)).trans e316
        have e341 := (Zfr.gi fc36 t_a0 (by decide)).trans e317
        have k342 := TkN_fr k318 fc36 t_a0 WLc_294 (by decide)
        have k343 := GtP_fr k319 fc36 t_a0 WLc_294 (by decide)
        have F344 := Zfr.tr FLc_294 fc36 (by decide)
        obtain ⟨v37, ev37, tv37⟩ := gf_64_55 Wc36 t_a0
        refine wb ev37 ?_
        obtain ⟨c38, ec38, Wc38, fc38, gc38⟩ := pa_106 Wc36 tv37 (i := x1_294) (by omega) (by omega) (x := (-1)) (kni (by omega))
        refine wb ec38 ?_
        have e345 := (Zfr.gi fc38 t_a0 (by decide)).trans e321
        have e346 := (Zfr.gi fc38 t_a0 (by decide)).trans e322
        have e347 := (Zfr.gr fc38 t_a0 (by decide)).trans e323
        have e348 := (Zfr.ai fc38 tv3 (by decide)).trans e324
        have e349 := (Zfr.gr fc38 t_a0 (by decide)).trans e325
        have e350 := (Zfr.ai fc38 tv6 (by decide)).trans e326
        have e351 := (Zfr.gr fc38 t_a0 (by decide)).trans e327
        have e352 := (Zfr.ai fc38 tv9 (by decide)).trans e328
        have e353 := (Zfr.gr fc38 t_a0 (by decide)).trans e329
        have e354 := (Zfr.ai fc38 tv12 (by decide)).trans e330
        have e355 := (Zfr.gr fc38 t_a0 (by decide)).trans e331
        have e356 := (Zfr.ai fc38 tv15 (by decide)).trans e332
        have e357 := (Zfr.gr fc38 t_a0 (by decide)).trans e333
        have e358 := (Zfr.ai fc38 tv18 (by decide)).trans e334
        have e359 := (Zfr.gr fc38 t_a0 (by decide)).trans e335
        have e360 := (Zfr.ai fc38 tv21 (by decide)).trans e336
        have e361 := (Zfr.gi fc38 t_a0 (by decide)).trans e337
        have e362 := (Zfr.gi fc38 t_a0 (by decide)).trans e338
        have e363 := (Zfr.gi fc38 t_a0 (by decide)).trans e339
        have e364 := (Zfr.gi fc38 t_a0 (by decide)).trans e340
        have e365 := (Zfr.gi fc38 t_a0 (by decide)).trans e341
        have e366 := (Zfr.ai fc38 tv35 (by decide)).trans gc36
        have k367 := TkN_fr k342 fc38 t_a0 Wc36 (by decide)
        have k368 := GtP_fr k343 fc38 t_a0 Wc36 (by decide)
        have F369 := Zfr.tr F344 fc38 (by decide)
        have := li_1
        have := i_add (a := x1_294) (b := 1) (by omega) (by omega)
        exact lInl ⟨rfl, Wc38, F369, by (try dsimp only); omega, by (try dsimp only); omega⟩ (by (try dsimp only); omega)
    · exact ⟨rfl, WXc_268, Zfr.rf, by (try dsimp only); omega, by (try dsimp only); omega⟩
    · (try dsimp only); omega
  obtain ⟨b, eb, hb⟩ := L293
  refine wb eb ?_
  clear eb
  obtain ⟨z0_370, c_370⟩ := b
  try dsimp only at hb ⊢
  obtain ⟨rfl, WXc_370, FXc_370⟩ := hb
  have e371 := (Zfr.gi FXc_370 t_a0 (by decide)).trans e269
  have e372 := (Zfr.gi FXc_370 t_a0 (by decide)).trans e270
  have e373 := (Zfr.gr FXc_370 t_a0 (by decide)).trans e271
  have e374 := (Zfr.ai FXc_370 tv3 (by decide)).trans e272
  have e375 := (Zfr.gr FXc_370 t_a0 (by decide)).trans e273
  have e376 := (Zfr.ai FXc_370 tv6 (by decide)).trans e274
  have e377 := (Zfr.gr FXc_370 t_a0 (by decide)).trans e275
  have e378 := (Zfr.ai FXc_370 tv9 (by decide)).trans e276
  have e379 := (Zfr.gr FXc_370 t_a0 (by decide)).trans e277
  have e380 := (Zfr.ai FXc_370 tv12 (by decide)).trans e278
  have e381 := (Zfr.gr FXc_370 t_a0 (by decide)).trans e279
  have e382 := (Zfr.ai FXc_370 tv15 (by decide)).trans e280
  have e383 := (Zfr.gr FXc_370 t_a0 (by decide)).trans e281
  have e384 := (Zfr.ai FXc_370 tv18 (by decide)).trans e282
  have e385 := (Zfr.gr FXc_370 t_a0 (by decide)).trans e283
  have e386 := (Zfr.ai FXc_370 tv21 (by decide)).trans e284
  have e387 := (Zfr.gi FXc_370 t_a0 (by decide)).trans e285
  have e388 := (Zfr.gi FXc_370 t_a0 (by decide)).trans e286
  have e389 := (Zfr.gi FXc_370 t_a0 (by decide)).trans e287
  have e390 := (Zfr.gi FXc_370 t_a0 (by decide)).trans e288
  have e391 := (Zfr.gi FXc_370 t_a0 (by decide)).trans e289
  have k392 := TkN_fr k290 FXc_370 t_a0 WXc_268 (by decide)
  have k393 := GtP_fr k291 FXc_370 t_a0 WXc_268 (by decide)
  have F394 := Zfr.tr F292 FXc_370 (by decide)
  obtain ⟨v39, ev39, lv39, uv39⟩ := gf_64_13 WXc_370 t_a0
  refine wb ev39 ?_
  obtain ⟨w41, ew41⟩ := go_64 WXc_370 t_a0
  refine wb ew41 ?_
  obtain ⟨w_395, ew_395, tw_395⟩ := gf_64_14 WXc_370 t_a0
  obtain ⟨w_396, ew_396, tw_396⟩ := gf_64_15 WXc_370 t_a0
  obtain ⟨q40, eq40, Wq40, fq40, pbZkq40⟩ := p_Mo_cutTokens hn WXc_370 (a1 := v39) t_a0 (by omega) (by omega) ⟨w_395, w_396, ew_395, ew_396, tw_395, tw_396, (k392 _ _ ew_395 ew_396)⟩
  refine wb eq40 ?_
  have e399 := (Zfr.gi fq40 t_a0 (by decide)).trans e371
  have e400 := (Zfr.gi fq40 t_a0 (by decide)).trans e372
  have e401 := (Zfr.gr fq40 t_a0 (by decide)).trans e373
  have e402 := (Zfr.ai fq40 tv3 (by decide)).trans e374
  have e403 := (Zfr.gr fq40 t_a0 (by decide)).trans e375
  have e404 := (Zfr.ai fq40 tv6 (by decide)).trans e376
  have e405 := (Zfr.gr fq40 t_a0 (by decide)).trans e377
  have e406 := (Zfr.ai fq40 tv9 (by decide)).trans e378
  have e407 := (Zfr.gr fq40 t_a0 (by decide)).trans e379
  have e408 := (Zfr.ai fq40 tv12 (by decide)).trans e380
  have e409 := (Zfr.gr fq40 t_a0 (by decide)).trans e381
  have e410 := (Zfr.ai fq40 tv15 (by decide)).trans e382
  have e411 := (Zfr.gr fq40 t_a0 (by decide)).trans e383
  have e412 := (Zfr.ai fq40 tv18 (by decide)).trans e384
  have e413 := (Zfr.gr fq40 t_a0 (by decide)).trans e385
  have e414 := (Zfr.ai fq40 tv21 (by decide)).trans e386
  have e415 := (Zfr.gi fq40 t_a0 (by decide)).trans e387
  have e416 := (Zfr.gi fq40 t_a0 (by decide)).trans e388
  have e417 := (Zfr.gi fq40 t_a0 (by decide)).trans e389
  have e418 := (Zfr.gi fq40 t_a0 (by decide)).trans e390
  have e419 := (Zfr.gi fq40 t_a0 (by decide)).trans e391
  have e420 := (Zfr.gi fq40 t_a0 (by decide)).trans ev39
  have e421 := (Zfr.gr fq40 t_a0 (by decide)).trans ew_395
  have e422 := (Zfr.gr fq40 t_a0 (by decide)).trans ew_396
  have k423 := GtP_fr k393 fq40 t_a0 WXc_370 (by decide)
  have F424 := Zfr.tr F394 fq40 (by decide)
  obtain ⟨bkkq40, bvvq40, h0Zkq40, h1Zkq40, tkkq40, tvvq40, k0Zkq40⟩ := pbZkq40
  obtain ⟨c42, ec42, Wc42, fc42, gc42⟩ := pf_64_13 Wq40 t_a0 (x := 0) (rgi (by omega) (by omega))
  refine wb ec42 ?_
  have e425 := (Zfr.gi fc42 t_a0 (by decide)).trans e399
  have e426 := (Zfr.gi fc42 t_a0 (by decide)).trans e400
  have e427 := (Zfr.gr fc42 t_a0 (by decide)).trans e401
  have e428 := (Zfr.ai fc42 tv3 (by decide)).trans e402
  have e429 := (Zfr.gr fc42 t_a0 (by decide)).trans e403
  have e430 := (Zfr.ai fc42 tv6 (by decide)).trans e404
  have e431 := (Zfr.gr fc42 t_a0 (by decide)).trans e405
  have e432 := (Zfr.ai fc42 tv9 (by decide)).trans e406
  have e433 := (Zfr.gr fc42 t_a0 (by decide)).trans e407
  have e434 := (Zfr.ai fc42 tv12 (by decide)).trans e408
  have e435 := (Zfr.gr fc42 t_a0 (by decide)).trans e409
  have e436 := (Zfr.ai fc42 tv15 (by decide)).trans e410
  have e437 := (Zfr.gr fc42 t_a0 (by decide)).trans e411
  have e438 := (Zfr.ai fc42 tv18 (by decide)).trans e412
  have e439 := (Zfr.gr fc42 t_a0 (by decide)).trans e413
  have e440 := (Zfr.ai fc42 tv21 (by decide)).trans e414
  have e441 := (Zfr.gi fc42 t_a0 (by decide)).trans e415
  have e442 := (Zfr.gi fc42 t_a0 (by decide)).trans e416
  have e443 := (Zfr.gi fc42 t_a0 (by decide)).trans e417
  have e444 := (Zfr.gi fc42 t_a0 (by decide)).trans e418
  have e445 := (Zfr.gi fc42 t_a0 (by decide)).trans e419
  have e446 := (Zfr.gr fc42 t_a0 (by decide)).trans h0Zkq40
  have e447 := (Zfr.gr fc42 t_a0 (by decide)).trans h1Zkq40
  have k448 := GtP_fr k423 fc42 t_a0 Wq40 (by decide)
  have k449 := TkM_fr k0Zkq40 fc42 tkkq40 tvvq40 (by decide) (by decide)
  have F450 := Zfr.tr F424 fc42 (by decide)
  obtain ⟨c43, ec43, Wc43, fc43, gc43⟩ := pf_64_21 Wc42 t_a0 (x := (-2)) (trivial)
  refine wb ec43 ?_
  have e451 := (Zfr.gi fc43 t_a0 (by decide)).trans e425
  have e452 := (Zfr.gi fc43 t_a0 (by decide)).trans e426
  have e453 := (Zfr.gr fc43 t_a0 (by decide)).trans e427
  have e454 := (Zfr.ai fc43 tv3 (by decide)).trans e428
  have e455 := (Zfr.gr fc43 t_a0 (by decide)).trans e429
  have e456 := (Zfr.ai fc43 tv6 (by decide)).trans e430
  have e457 := (Zfr.gr fc43 t_a0 (by decide)).trans e431
  have e458 := (Zfr.ai fc43 tv9 (by decide)).trans e432
  have e459 := (Zfr.gr fc43 t_a0 (by decide)).trans e433
  have e460 := (Zfr.ai fc43 tv12 (by decide)).trans e434
  have e461 := (Zfr.gr fc43 t_a0 (by decide)).trans e435
  have e462 := (Zfr.ai fc43 tv15 (by decide)).trans e436
  have e463 := (Zfr.gr fc43 t_a0 (by decide)).trans e437
  have e464 := (Zfr.ai fc43 tv18 (by decide)).trans e438
  have e465 := (Zfr.gr fc43 t_a0 (by decide)).trans e439
  have e466 := (Zfr.ai fc43 tv21 (by decide)).trans e440
  have e467 := (Zfr.gi fc43 t_a0 (by decide)).trans e441
  have e468 := (Zfr.gi fc43 t_a0 (by decide)).trans e442
  have e469 := (Zfr.gi fc43 t_a0 (by decide)).trans e443
  have e470 := (Zfr.gi fc43 t_a0 (by decide)).trans e444
  have e471 := (Zfr.gi fc43 t_a0 (by decide)).trans e445
  have e472 := (Zfr.gr fc43 t_a0 (by decide)).trans e446
  have e473 := (Zfr.gr fc43 t_a0 (by decide)).trans e447
  have e474 := (Zfr.gi fc43 t_a0 (by decide)).trans gc42
  have k475 := GtP_fr k448 fc43 t_a0 Wc42 (by decide)
  have k476 := TkM_fr k449 fc43 tkkq40 tvvq40 (by decide) (by decide)
  have F477 := Zfr.tr F450 fc43 (by decide)
  exact ⟨_, rfl, Wc43, F477, ⟨v1, (0 : Int32), (0 : Int32), (0 : Int32), v3, v6, v12, (0 : Int32), (0 : Int32), (0 : Int32), (0 : Int32), v9, (0 : Int32), (0 : Int32), v15, (0 : Int32), (0 : Int32), e452, e470, e471, e469, e453, e455, e459, e454, e456, e460, e468, e457, e458, e467, e461, e462, e474, tv3, tv6, tv12, tv9, tv15, by (try dsimp only); omega, by (try dsimp only); omega, by (try dsimp only); omega, by (try dsimp only); omega, by (try dsimp only); omega, by (try dsimp only); omega, by (try dsimp only); omega, by (try dsimp only); omega, by (try dsimp only); omega, by (try dsimp only); omega, by (try dsimp only); omega, by (try dsimp only); omega, by (try dsimp only); omega, k475, WyN_0 (by omega), TbI_0 (by omega), TbC_n e465 e452 e466 (by omega), (TkN_mk e472 e473 k476)⟩⟩

abbrev M_Mo_patterns : List (Nat × Nat) := [(64, 18), (64, 19), (64, 20), (64, 52), (64, 53), (64, 56), (64, 57), (64, 65), (64, 69), (79, 0), (80, 0), (81, 0), (82, 0), (83, 0), (84, 0), (85, 0), (86, 0), (87, 0), (88, 0), (89, 0), (90, 0), (91, 0), (92, 0), (93, 0), (94, 0), (95, 0), (99, 0), (103, 0), (104, 0), (105, 0), (106, 0), (107, 0), (108, 0), (109, 0), (110, 0), (111, 0), (112, 0), (113, 0), (114, 0), (115, 0), (116, 0), (134, 0)]
set_option maxRecDepth 100000 in
set_option maxHeartbeats 4000000 in
theorem p_Mo_patterns {nf : Nat} (hn : 8589934592 ≤ nf) {G : List Nat} {c : Zc} (W : Zwt zty G c) {a0 : Nat} {ni : Int32} {bc : Int32} {pv : Int32} {fv : Int32} {tv : Int32} {dv : Int32} {kg : Nat} {gc : Int32} {cd : Int32} (t_a0 : G[a0]? = some 64) (pl_pv : 0 ≤ pv.toInt) (pu_pv : pv.toInt ≤ 8) (pl_fv : 0 ≤ fv.toInt) (pu_fv : fv.toInt ≤ 6) (pl_tv : 0 ≤ tv.toInt) (pu_tv : tv.toInt ≤ 200) (pl_dv : 0 ≤ dv.toInt) (pu_dv : dv.toInt ≤ 11) (pl_gc : 0 ≤ gc.toInt) (pu_gc : gc.toInt ≤ 79) (pl_cd : 0 ≤ cd.toInt) (pu_cd : cd.toInt ≤ 400) (eh_pv : zgi c a0 12 25 = some pv) (eh_fv : zgi c a0 12 19 = some fv) (eh_tv : zgi c a0 12 18 = some tv) (eh_dv : zgi c a0 12 53 = some dv) (eh_kg : zgr c a0 12 28 = some kg) (eh_gc : zai c kg 0 pv = some gc) (eh_cd : zgi c a0 12 52 = some cd) (pp_6 : (¬ fv.toInt = 0 ∨ (3 * gc.toInt ≤ tv.toInt ∧ cd.toInt ≤ tv.toInt))) (hb_ZV : ZV G c a0 pv fv tv dv ni bc) : ∃ q, f_Mo_patterns nf a0 c = some q ∧ Zwt zty G q ∧ Zfr G M_Mo_patterns c q ∧ ZVh G q a0 pv fv tv dv ni bc := by
  have F0 : Zfr G M_Mo_patterns c c := Zfr.rf
  unfold f_Mo_patterns
  obtain ⟨xq, xe, tqw_1⟩ := gf_64_28 W t_a0
  rw [eh_kg] at xe; cases xe
  obtain ⟨bks0, bkl0, bkw0, bna0, blb0, bnw0, bvn0, h0ZV0, h1ZV0, h2ZV0, h3ZV0, h4ZV0, h5ZV0, h6ZV0, h7ZV0, h8ZV0, h9ZV0, h10ZV0, tks0, tkl0, tkw0, r0ZV0, r1ZV0, r2ZV0, r3ZV0, r4ZV0, r5ZV0, r6ZV0, r7ZV0, r8ZV0, r9ZV0, r10ZV0, r11ZV0, r12ZV0, r13ZV0, r14ZV0, r15ZV0, r16ZV0, r17ZV0, k0ZV0, k1ZV0, k2ZV0, k3ZV0, k4ZV0⟩ := hb_ZV
  obtain ⟨w2, ew2⟩ := go_64 W t_a0
  refine wb ew2 ?_
  have := li_100
  obtain ⟨q1, eq1, Wq1, fq1, pbZSq1⟩ := p_Mo_need hn W (a1 := 100) t_a0 (by omega) (by omega) (by omega) (by omega) h1ZV0 h2ZV0
  refine wb eq1 ?_
  have e4 := (Zfr.gi fq1 t_a0 (by decide)).trans h0ZV0
  have e5 := (Zfr.gi fq1 t_a0 (by decide)).trans h3ZV0
  have e6 := (Zfr.gr fq1 t_a0 (by decide)).trans eh_kg
  have e7 := (Zfr.ai fq1 tqw_1 (by decide)).trans eh_gc
  have e8 := (Zfr.gi fq1 t_a0 (by decide)).trans eh_cd
  have e9 := (Zfr.gr fq1 t_a0 (by decide)).trans h4ZV0
  have e10 := (Zfr.gr fq1 t_a0 (by decide)).trans h5ZV0
  have e11 := (Zfr.gr fq1 t_a0 (by decide)).trans h6ZV0
  have e12 := (Zfr.ai fq1 tks0 (by decide)).trans h7ZV0
  have e13 := (Zfr.ai fq1 tkl0 (by decide)).trans h8ZV0
  have e14 := (Zfr.ai fq1 tkw0 (by decide)).trans h9ZV0
  have e15 := (Zfr.gi fq1 t_a0 (by decide)).trans h10ZV0
  have k16 := GtP_fr k0ZV0 fq1 t_a0 W (by decide)
  have := li_1
  have sc18 : Sc c q1 a0 (1) (0) := by
    obtain ⟨yf2, yt2, z0y, z1y, x0y, x1y, x2y, x3y, x4y, x5y⟩ := pbZSq1
    exact Sc_mk h1ZV0 z0y h2ZV0 z1y h3ZV0 ((Zfr.gi (ci := 12) fq1 t_a0 (by decide)).trans h3ZV0) (by omega)
  have k17 := WyN_fr k1ZV0 fq1 t_a0 W (by decide) sc18
  have k19 := TbI_fr k2ZV0 fq1 t_a0 W (by decide) sc18
  have k20 := TbC_fr k3ZV0 fq1 t_a0 W (by decide) sc18
  have k21 := TkN_fr k4ZV0 fq1 t_a0 W (by decide)
  have F22 := Zfr.tr F0 fq1 (by decide)
  obtain ⟨bf2q1, bt2q1, h0ZSq1, h1ZSq1, r0ZSq1, r1ZSq1, r2ZSq1, r3ZSq1, r4ZSq1, r5ZSq1⟩ := pbZSq1
  refine wb h0ZSq1 ?_
  refine wi (fun hq23 => ?_) (fun hq23 => ?_)
  · have := li_0
    have hq23 := i_eq hq23
    obtain ⟨w22, ew22⟩ := go_64 Wq1 t_a0
    refine wb ew22 ?_
    obtain ⟨q21, eq21, Wq21, fq21, pbZVqq21⟩ := p_Mo_pattern hn Wq1 (ni := ni) (bc := bc) t_a0 (by omega) (by omega) (by omega) (by omega) (by omega) (by omega) (by omega) (by omega) e4 h0ZSq1 h1ZSq1 e5 ⟨bks0, bkl0, bkw0, bna0, blb0, bnw0, bvn0, e4, h0ZSq1, h1ZSq1, e5, e9, e10, e11, e12, e13, e14, e15, tks0, tkl0, tkw0, by (try dsimp only); omega, by (try dsimp only); omega, by (try dsimp only); omega, by (try dsimp only); omega, by (try dsimp only); omega, by (try dsimp only); omega, by (try dsimp only); omega, by (try dsimp only); omega, by (try dsimp only); omega, by (try dsimp only); omega, by (try dsimp only); omega, by (try dsimp only); omega, by (try dsimp only); omega, by (try dsimp only); omega, by (try dsimp only); omega, by (try dsimp only); omega, by (try dsimp only); omega, by (try dsimp only); omega, k16, k17, k19, k20, k21⟩
    refine wb eq21 ?_
    have e39 := (Zfr.gi fq21 t_a0 (by decide)).trans e4
    have e40 := (Zfr.gr fq21 t_a0 (by decide)).trans e6
    have e41 := (Zfr.ai fq21 tqw_1 (by decide)).trans e7
    have e42 := (Zfr.gi fq21 t_a0 (by decide)).trans e8
    have e43 := (Zfr.gr fq21 t_a0 (by decide)).trans e9
    have e44 := (Zfr.gr fq21 t_a0 (by decide)).trans e10
    have e45 := (Zfr.gr fq21 t_a0 (by decide)).trans e11
    have F46 := Zfr.tr F22 fq21 (by decide)
    have := li_2
    obtain ⟨bf2q21, bt2q21, bd2q21, bksq21, bklq21, bkwq21, bnaq21, blbq21, bnwq21, bvnq21, h0ZVqq21, h1ZVqq21, h2ZVqq21, h3ZVqq21, h4ZVqq21, h5ZVqq21, h6ZVqq21, h7ZVqq21, h8ZVqq21, h9ZVqq21, h10ZVqq21, tksq21, tklq21, tkwq21, r0ZVqq21, r1ZVqq21, r2ZVqq21, r3ZVqq21, r4ZVqq21, r5ZVqq21, r6ZVqq21, r7ZVqq21, r8ZVqq21, r9ZVqq21, r10ZVqq21, r11ZVqq21, r12ZVqq21, r13ZVqq21, r14ZVqq21, r15ZVqq21, r16ZVqq21, r17ZVqq21, r18ZVqq21, r19ZVqq21, k0ZVqq21, k1ZVqq21, k2ZVqq21, k3ZVqq21, k4ZVqq21⟩ := pbZVqq21
    unfold f_Mo_patterns_17
    have := vfi_e h2ZVqq21
    have L54 : ∃ b, zlp (fun a : Nat × Zc => g_Mo_patterns_17 nf a.1 a.2) nf (a0, q21) = some b ∧ (fun b : (Nat × Zc) => a0 = b.1 ∧ Zwt zty G b.2 ∧ Zfr G ([(64, 18), (64, 19), (64, 20), (64, 53), (64, 57), (64, 65), (79, 0), (80, 0), (82, 0), (83, 0), (84, 0), (85, 0), (86, 0), (87, 0), (88, 0), (89, 0), (90, 0), (91, 0), (92, 0), (93, 0), (94, 0), (95, 0), (105, 0), (106, 0), (107, 0), (108, 0), (109, 0), (110, 0), (111, 0), (112, 0), (113, 0), (134, 0)] : List (Nat × Nat)) q21 b.2 ∧ ZVr G b.2 a0 pv bf2q21 bt2q21 bd2q21 ni bc) b := by
      refine wlp (fun a : Nat × Zc => a0 = a.1 ∧ Zwt zty G a.2 ∧ Zfr G ([(64, 18), (64, 19), (64, 20), (64, 53), (64, 57), (64, 65), (79, 0), (80, 0), (82, 0), (83, 0), (84, 0), (85, 0), (86, 0), (87, 0), (88, 0), (89, 0), (90, 0), (91, 0), (92, 0), (93, 0), (94, 0), (95, 0), (105, 0), (106, 0), (107, 0), (108, 0), (109, 0), (110, 0), (111, 0), (112, 0), (113, 0), (134, 0)] : List (Nat × Nat)) q21 a.2 ∧ ZVr G a.2 a0 pv bf2q21 bt2q21 bd2q21 ni bc) (fun a => (201 - vfi a.2 a0 18).toNat) (fun b : (Nat × Zc) => a0 = b.1 ∧ Zwt zty G b.2 ∧ Zfr G ([(64, 18), (64, 19), (64, 20), (64, 53), (64, 57), (64, 65), (79, 0), (80, 0), (82, 0), (83, 0), (84, 0), (85, 0), (86, 0), (87, 0), (88, 0), (89, 0), (90, 0), (91, 0), (92, 0), (93, 0), (94, 0), (95, 0), (105, 0), (106, 0), (107, 0), (108, 0), (109, 0), (110, 0), (111, 0), (112, 0), (113, 0), (134, 0)] : List (Nat × Nat)) q21 b.2 ∧ ZVr G b.2 a0 pv bf2q21 bt2q21 bd2q21 ni bc) ?_ ?_ ?_
      · rintro ⟨x0_55, c_55⟩ hI
        try dsimp only at hI ⊢
        obtain ⟨rfl, WLc_55, FLc_55, hBZVr_55⟩ := hI
        have e56 := (Zfr.gi FLc_55 t_a0 (by decide)).trans h0ZVqq21
        have e57 := (Zfr.gr FLc_55 t_a0 (by decide)).trans e40
        have e58 := (Zfr.ai FLc_55 tqw_1 (by decide)).trans e41
        have e59 := (Zfr.gi FLc_55 t_a0 (by decide)).trans e42
        have e60 := (Zfr.gr FLc_55 t_a0 (by decide)).trans h4ZVqq21
        have e61 := (Zfr.gr FLc_55 t_a0 (by decide)).trans h5ZVqq21
        have e62 := (Zfr.gr FLc_55 t_a0 (by decide)).trans h6ZVqq21
        obtain ⟨bf2_55, bt2_55, bd2_55, bks_55, bkl_55, bkw_55, bna_55, blb_55, bnw_55, bvn_55, h0ZVr_55, h1ZVr_55, h2ZVr_55, h3ZVr_55, h4ZVr_55, h5ZVr_55, h6ZVr_55, h7ZVr_55, h8ZVr_55, h9ZVr_55, h10ZVr_55, tks_55, tkl_55, tkw_55, r0ZVr_55, r1ZVr_55, r2ZVr_55, r3ZVr_55, r4ZVr_55, r5ZVr_55, r6ZVr_55, r7ZVr_55, r8ZVr_55, r9ZVr_55, r10ZVr_55, r11ZVr_55, r12ZVr_55, r13ZVr_55, r14ZVr_55, r15ZVr_55, r16ZVr_55, r17ZVr_55, r18ZVr_55, r19ZVr_55, k0ZVr_55, k1ZVr_55, k2ZVr_55, k3ZVr_55, k4ZVr_55⟩ := hBZVr_55
        unfold g_Mo_patterns_17
        have := vfi_e h2ZVr_55
        obtain ⟨w6, ew6⟩ := go_64 WLc_55 t_a0
        refine wb ew6 ?_
        have := li_44
        obtain ⟨q5, eq5, Wq5, fq5, pl0q5, pu0q5, pbZSkq5⟩ := p_Mo_takes hn WLc_55 (a1 := 44) t_a0 (by omega) (by omega) (by omega) (by omega) h1ZVr_55 h2ZVr_55
        refine wb eq5 ?_
        have e66 := (Zfr.gi fq5 t_a0 (by decide)).trans h0ZVr_55
        have e67 := (Zfr.gr fq5 t_a0 (by decide)).trans e57
        have e68 := (Zfr.ai fq5 tqw_1 (by decide)).trans e58
        have e69 := (Zfr.gi fq5 t_a0 (by decide)).trans e59
        have e70 := (Zfr.gr fq5 t_a0 (by decide)).trans h4ZVr_55
        have e71 := (Zfr.gr fq5 t_a0 (by decide)).trans h5ZVr_55
        have e72 := (Zfr.gr fq5 t_a0 (by decide)).trans h6ZVr_55
        have e73 := (Zfr.gi fq5 t_a0 (by decide)).trans h3ZVr_55
        have e74 := (Zfr.ai fq5 tks_55 (by decide)).trans h7ZVr_55
        have e75 := (Zfr.ai fq5 tkl_55 (by decide)).trans h8ZVr_55
        have e76 := (Zfr.ai fq5 tkw_55 (by decide)).trans h9ZVr_55
        have e77 := (Zfr.gi fq5 t_a0 (by decide)).trans h10ZVr_55
        have k78 := GtP_fr k0ZVr_55 fq5 t_a0 WLc_55 (by decide)
        have sc80 : Sc c_55 q5.2 a0 (q5.1.toInt) (0) := by
          obtain ⟨yf2, yt2, z0y, z1y, x0y, x1y, x2y, x3y, x4y, x5y, x6y⟩ := pbZSkq5
          exact Sc_mk h1ZVr_55 z0y h2ZVr_55 z1y h3ZVr_55 ((Zfr.gi (ci := 12) fq5 t_a0 (by decide)).trans h3ZVr_55) (by omega)
        have k79 := WyN_fr k1ZVr_55 fq5 t_a0 WLc_55 (by decide) sc80
        have k81 := TbI_fr k2ZVr_55 fq5 t_a0 WLc_55 (by decide) sc80
        have k82 := TbC_fr k3ZVr_55 fq5 t_a0 WLc_55 (by decide) sc80
        have k83 := TkN_fr k4ZVr_55 fq5 t_a0 WLc_55 (by decide)
        have F84 := Zfr.tr FLc_55 fq5 (by decide)
        obtain ⟨bf2q5, bt2q5, h0ZSkq5, h1ZSkq5, r0ZSkq5, r1ZSkq5, r2ZSkq5, r3ZSkq5, r4ZSkq5, r5ZSkq5, r6ZSkq5⟩ := pbZSkq5
        refine wi (fun hq85 => ?_) (fun hq85 => ?_)
        · have hq85 := i_eq hq85
          exact lInr ⟨rfl, Wq5, F84, ⟨bf2q5, bt2q5, bd2_55, bks_55, bkl_55, bkw_55, bna_55, blb_55, bnw_55, bvn_55, e66, h0ZSkq5, h1ZSkq5, e73, e70, e71, e72, e74, e75, e76, e77, tks_55, tkl_55, tkw_55, by (try dsimp only); omega, by (try dsimp only); omega, by (try dsimp only); omega, by (try dsimp only); omega, by (try dsimp only); omega, by (try dsimp only); omega, by (try dsimp only); omega, by (try dsimp only); omega, by (try dsimp only); omega, by (try dsimp only); omega, by (try dsimp only); omega, by (try dsimp only); omega, by (try dsimp only); omega, by (try dsimp only); omega, by (try dsimp only); omega, by (try dsimp only); omega, by (try dsimp only); omega, by (try dsimp only); omega, by (try dsimp only); omega, by (try dsimp only); omega, k78, k79, k81, k82, k83⟩⟩
        · have hq85 := i_ne hq85
          obtain ⟨w9, ew9⟩ := go_64 Wq5 t_a0
          refine wb ew9 ?_
          obtain ⟨q8, eq8, Wq8, fq8, pbZVqq8⟩ := p_Mo_pattern hn Wq5 (ni := ni) (bc := bc) t_a0 (by omega) (by omega) (by omega) (by omega) (by omega) (by omega) (by omega) (by omega) e66 h0ZSkq5 h1ZSkq5 e73 ⟨bks_55, bkl_55, bkw_55, bna_55, blb_55, bnw_55, bvn_55, e66, h0ZSkq5, h1ZSkq5, e73, e70, e71, e72, e74, e75, e76, e77, tks_55, tkl_55, tkw_55, by (try dsimp only); omega, by (try dsimp only); omega, by (try dsimp only); omega, by (try dsimp only); omega, by (try dsimp only); omega, by (try dsimp only); omega, by (try dsimp only); omega, by (try dsimp only); omega, by (try dsimp only); omega, by (try dsimp only); omega, by (try dsimp only); omega, by (try dsimp only); omega, by (try dsimp only); omega, by (try dsimp only); omega, by (try dsimp only); omega, by (try dsimp only); omega, by (try dsimp only); omega, by (try dsimp only); omega, k78, k79, k81, k82, k83⟩
          refine wb eq8 ?_
          have e112 := (Zfr.gi fq8 t_a0 (by decide)).trans e66
          have e113 := (Zfr.gr fq8 t_a0 (by decide)).trans e67
          have e114 := (Zfr.ai fq8 tqw_1 (by decide)).trans e68
          have e115 := (Zfr.gi fq8 t_a0 (by decide)).trans e69
          have e116 := (Zfr.gr fq8 t_a0 (by decide)).trans e70
          have e117 := (Zfr.gr fq8 t_a0 (by decide)).trans e71
          have e118 := (Zfr.gr fq8 t_a0 (by decide)).trans e72
          have F119 := Zfr.tr F84 fq8 (by decide)
          obtain ⟨bf2q8, bt2q8, bd2q8, bksq8, bklq8, bkwq8, bnaq8, blbq8, bnwq8, bvnq8, h0ZVqq8, h1ZVqq8, h2ZVqq8, h3ZVqq8, h4ZVqq8, h5ZVqq8, h6ZVqq8, h7ZVqq8, h8ZVqq8, h9ZVqq8, h10ZVqq8, tksq8, tklq8, tkwq8, r0ZVqq8, r1ZVqq8, r2ZVqq8, r3ZVqq8, r4ZVqq8, r5ZVqq8, r6ZVqq8, r7ZVqq8, r8ZVqq8, r9ZVqq8, r10ZVqq8, r11ZVqq8, r12ZVqq8, r13ZVqq8, r14ZVqq8, r15ZVqq8, r16ZVqq8, r17ZVqq8, r18ZVqq8, r19ZVqq8, k0ZVqq8, k1ZVqq8, k2ZVqq8, k3ZVqq8, k4ZVqq8⟩ := pbZVqq8
          have := vfi_e h2ZVqq8
          exact lInl ⟨rfl, Wq8, F119, ⟨bf2q8, bt2q8, bd2q8, bksq8, bklq8, bkwq8, bnaq8, blbq8, bnwq8, bvnq8, h0ZVqq8, h1ZVqq8, h2ZVqq8, h3ZVqq8, h4ZVqq8, h5ZVqq8, h6ZVqq8, h7ZVqq8, h8ZVqq8, h9ZVqq8, h10ZVqq8, tksq8, tklq8, tkwq8, by (try dsimp only); omega, by (try dsimp only); omega, by (try dsimp only); omega, by (try dsimp only); omega, by (try dsimp only); omega, by (try dsimp only); omega, by (try dsimp only); omega, by (try dsimp only); omega, by (try dsimp only); omega, by (try dsimp only); omega, by (try dsimp only); omega, by (try dsimp only); omega, by (try dsimp only); omega, by (try dsimp only); omega, by (try dsimp only); omega, by (try dsimp only); omega, by (try dsimp only); omega, by (try dsimp only); omega, by (try dsimp only); omega, by (try dsimp only); omega, k0ZVqq8, k1ZVqq8, k2ZVqq8, k3ZVqq8, k4ZVqq8⟩⟩ (by (try dsimp only); omega)
      · exact ⟨rfl, Wq21, Zfr.rf, ⟨bf2q21, bt2q21, bd2q21, bksq21, bklq21, bkwq21, bnaq21, blbq21, bnwq21, bvnq21, h0ZVqq21, h1ZVqq21, h2ZVqq21, h3ZVqq21, h4ZVqq21, h5ZVqq21, h6ZVqq21, h7ZVqq21, h8ZVqq21, h9ZVqq21, h10ZVqq21, tksq21, tklq21, tkwq21, by (try dsimp only); omega, by (try dsimp only); omega, by (try dsimp only); omega, by (try dsimp only); omega, by (try dsimp only); omega, by (try dsimp only); omega, by (try dsimp only); omega, by (try dsimp only); omega, by (try dsimp only); omega, by (try dsimp only); omega, by (try dsimp only); omega, by (try dsimp only); omega, by (try dsimp only); omega, by (try dsimp only); omega, by (try dsimp only); omega, by (try dsimp only); omega, by (try dsimp only); omega, by (try dsimp only); omega, by (try dsimp only); omega, by (try dsimp only); omega, k0ZVqq21, k1ZVqq21, k2ZVqq21, k3ZVqq21, k4ZVqq21⟩⟩
      · (try dsimp only); omega
    obtain ⟨b, eb, hb⟩ := L54
    refine wb eb ?_
    clear eb
    obtain ⟨z0_143, c_143⟩ := b
    try dsimp only at hb ⊢
    obtain ⟨rfl, WXc_143, FXc_143, hXZVrc_143⟩ := hb
    have e144 := (Zfr.gi FXc_143 t_a0 (by decide)).trans h0ZVqq21
    have e145 := (Zfr.gr FXc_143 t_a0 (by decide)).trans e40
    have e146 := (Zfr.ai FXc_143 tqw_1 (by decide)).trans e41
    have e147 := (Zfr.gi FXc_143 t_a0 (by decide)).trans e42
    have e148 := (Zfr.gr FXc_143 t_a0 (by decide)).trans h4ZVqq21
    have e149 := (Zfr.gr FXc_143 t_a0 (by decide)).trans h5ZVqq21
    have e150 := (Zfr.gr FXc_143 t_a0 (by decide)).trans h6ZVqq21
    have F151 := Zfr.tr F46 FXc_143 (by decide)
    obtain ⟨bf2xc_143, bt2xc_143, bd2xc_143, bksxc_143, bklxc_143, bkwxc_143, bnaxc_143, blbxc_143, bnwxc_143, bvnxc_143, h0ZVrxc_143, h1ZVrxc_143, h2ZVrxc_143, h3ZVrxc_143, h4ZVrxc_143, h5ZVrxc_143, h6ZVrxc_143, h7ZVrxc_143, h8ZVrxc_143, h9ZVrxc_143, h10ZVrxc_143, tksxc_143, tklxc_143, tkwxc_143, r0ZVrxc_143, r1ZVrxc_143, r2ZVrxc_143, r3ZVrxc_143, r4ZVrxc_143, r5ZVrxc_143, r6ZVrxc_143, r7ZVrxc_143, r8ZVrxc_143, r9ZVrxc_143, r10ZVrxc_143, r11ZVrxc_143, r12ZVrxc_143, r13ZVrxc_143, r14ZVrxc_143, r15ZVrxc_143, r16ZVrxc_143, r17ZVrxc_143, r18ZVrxc_143, r19ZVrxc_143, k0ZVrxc_143, k1ZVrxc_143, k2ZVrxc_143, k3ZVrxc_143, k4ZVrxc_143⟩ := hXZVrc_143
    obtain ⟨w11, ew11⟩ := go_64 WXc_143 t_a0
    refine wb ew11 ?_
    have := li_101
    obtain ⟨q10, eq10, Wq10, fq10, pl0q10, pu0q10, pbZSkq10⟩ := p_Mo_takes hn WXc_143 (a1 := 101) t_a0 (by omega) (by omega) (by omega) (by omega) h1ZVrxc_143 h2ZVrxc_143
    refine wb eq10 ?_
    have e154 := (Zfr.gi fq10 t_a0 (by decide)).trans h0ZVrxc_143
    have e155 := (Zfr.gr fq10 t_a0 (by decide)).trans e145
    have e156 := (Zfr.ai fq10 tqw_1 (by decide)).trans e146
    have e157 := (Zfr.gi fq10 t_a0 (by decide)).trans e147
    have e158 := (Zfr.gr fq10 t_a0 (by decide)).trans h4ZVrxc_143
    have e159 := (Zfr.gr fq10 t_a0 (by decide)).trans h5ZVrxc_143
    have e160 := (Zfr.gr fq10 t_a0 (by decide)).trans h6ZVrxc_143
    have e161 := (Zfr.gi fq10 t_a0 (by decide)).trans h3ZVrxc_143
    have e162 := (Zfr.ai fq10 tksxc_143 (by decide)).trans h7ZVrxc_143
    have e163 := (Zfr.ai fq10 tklxc_143 (by decide)).trans h8ZVrxc_143
    have e164 := (Zfr.ai fq10 tkwxc_143 (by decide)).trans h9ZVrxc_143
    have e165 := (Zfr.gi fq10 t_a0 (by decide)).trans h10ZVrxc_143
    have k166 := GtP_fr k0ZVrxc_143 fq10 t_a0 WXc_143 (by decide)
    have sc168 : Sc c_143 q10.2 a0 (q10.1.toInt) (0) := by
      obtain ⟨yf2, yt2, z0y, z1y, x0y, x1y, x2y, x3y, x4y, x5y, x6y⟩ := pbZSkq10
      exact Sc_mk h1ZVrxc_143 z0y h2ZVrxc_143 z1y h3ZVrxc_143 ((Zfr.gi (ci := 12) fq10 t_a0 (by decide)).trans h3ZVrxc_143) (by omega)
    have k167 := WyN_fr k1ZVrxc_143 fq10 t_a0 WXc_143 (by decide) sc168
    have k169 := TbI_fr k2ZVrxc_143 fq10 t_a0 WXc_143 (by decide) sc168
    have k170 := TbC_fr k3ZVrxc_143 fq10 t_a0 WXc_143 (by decide) sc168
    have k171 := TkN_fr k4ZVrxc_143 fq10 t_a0 WXc_143 (by decide)
    have F172 := Zfr.tr F151 fq10 (by decide)
    obtain ⟨bf2q10, bt2q10, h0ZSkq10, h1ZSkq10, r0ZSkq10, r1ZSkq10, r2ZSkq10, r3ZSkq10, r4ZSkq10, r5ZSkq10, r6ZSkq10⟩ := pbZSkq10
    refine wi (fun hq173 => ?_) (fun hq173 => ?_)
    · have hq173 := i_eq hq173
      unfold f_Mo_patterns_60
      obtain ⟨w14, ew14⟩ := go_64 Wq10 t_a0
      refine wb ew14 ?_
      have := li_102
      obtain ⟨q13, eq13, Wq13, fq13, pbZSq13⟩ := p_Mo_need hn Wq10 (a1 := 102) t_a0 (by omega) (by omega) (by omega) (by omega) h0ZSkq10 h1ZSkq10
      refine wb eq13 ?_
      have e176 := (Zfr.gi fq13 t_a0 (by decide)).trans e154
      have e177 := (Zfr.gr fq13 t_a0 (by decide)).trans e155
      have e178 := (Zfr.ai fq13 tqw_1 (by decide)).trans e156
      have e179 := (Zfr.gi fq13 t_a0 (by decide)).trans e157
      have e180 := (Zfr.gr fq13 t_a0 (by decide)).trans e158
      have e181 := (Zfr.gr fq13 t_a0 (by decide)).trans e159
      have e182 := (Zfr.gr fq13 t_a0 (by decide)).trans e160
      have e183 := (Zfr.gi fq13 t_a0 (by decide)).trans e161
      have e184 := (Zfr.ai fq13 tksxc_143 (by decide)).trans e162
      have e185 := (Zfr.ai fq13 tklxc_143 (by decide)).trans e163
      have e186 := (Zfr.ai fq13 tkwxc_143 (by decide)).trans e164
      have e187 := (Zfr.gi fq13 t_a0 (by decide)).trans e165
      have k188 := GtP_fr k166 fq13 t_a0 Wq10 (by decide)
      have sc190 : Sc q10.2 q13 a0 (1) (0) := by
        obtain ⟨yf2, yt2, z0y, z1y, x0y, x1y, x2y, x3y, x4y, x5y⟩ := pbZSq13
        exact Sc_mk h0ZSkq10 z0y h1ZSkq10 z1y e161 ((Zfr.gi (ci := 12) fq13 t_a0 (by decide)).trans e161) (by omega)
      have k189 := WyN_fr k167 fq13 t_a0 Wq10 (by decide) sc190
      have k191 := TbI_fr k169 fq13 t_a0 Wq10 (by decide) sc190
      have k192 := TbC_fr k170 fq13 t_a0 Wq10 (by decide) sc190
      have k193 := TkN_fr k171 fq13 t_a0 Wq10 (by decide)
      have F194 := Zfr.tr F172 fq13 (by decide)
      obtain ⟨bf2q13, bt2q13, h0ZSq13, h1ZSq13, r0ZSq13, r1ZSq13, r2ZSq13, r3ZSq13, r4ZSq13, r5ZSq13⟩ := pbZSq13
      exact ⟨_, rfl, Wq13, F194, ⟨bf2q13, bt2q13, bd2xc_143, bksxc_143, bklxc_143, bkwxc_143, bnaxc_143, blbxc_143, bnwxc_143, bvnxc_143, kg, gc, cd, e176, h0ZSq13, h1ZSq13, e183, e180, e181, e182, e184, e185, e186, e187, e177, e178, e179, tksxc_143, tklxc_143, tkwxc_143, tqw_1, by (try dsimp only); omega, by (try dsimp only); omega, by (try dsimp only); omega, by (try dsimp only); omega, by (try dsimp only); omega, by (try dsimp only); omega, by (try dsimp only); omega, by (try dsimp only); omega, by (try dsimp only); omega, by (try dsimp only); omega, by (try dsimp only); omega, by (try dsimp only); omega, by (try dsimp only); omega, by (try dsimp only); omega, by (try dsimp only); omega, by (try dsimp only); omega, by (try dsimp only); omega, by (try dsimp only); omega, by (try dsimp only); omega, by (try dsimp only); omega, by (try dsimp only); omega, by (try dsimp only); omega, by (try dsimp only); omega, by (try dsimp only); omega, k188, k189, k191, k192, k193⟩⟩
    · have hq173 := i_ne hq173
      obtain ⟨v15, ev15, tv15⟩ := gf_64_46 Wq10 t_a0
      refine wb ev15 ?_
      refine wb e154 ?_
      refine wb e157 ?_
      obtain ⟨c18, ec18, Wc18, fc18, gc18⟩ := pa_99 Wq10 tv15 (i := pv) (by omega) (by omega) (x := cd) (rgi (by omega) (by omega))
      refine wb ec18 ?_
      have e209 := (Zfr.gi fc18 t_a0 (by decide)).trans e154
      have e210 := (Zfr.gr fc18 t_a0 (by decide)).trans e155
      have e211 := (Zfr.ai fc18 tqw_1 (by decide)).trans e156
      have e212 := (Zfr.gi fc18 t_a0 (by decide)).trans e157
      have e213 := (Zfr.gr fc18 t_a0 (by decide)).trans e158
      have e214 := (Zfr.gr fc18 t_a0 (by decide)).trans e159
      have e215 := (Zfr.gr fc18 t_a0 (by decide)).trans e160
      have e216 := (Zfr.gi fc18 t_a0 (by decide)).trans e161
      have e217 := (Zfr.ai fc18 tksxc_143 (by decide)).trans e162
      have e218 := (Zfr.ai fc18 tklxc_143 (by decide)).trans e163
      have e219 := (Zfr.ai fc18 tkwxc_143 (by decide)).trans e164
      have e220 := (Zfr.gi fc18 t_a0 (by decide)).trans e165
      have e221 := (Zfr.gi fc18 t_a0 (by decide)).trans h0ZSkq10
      have e222 := (Zfr.gi fc18 t_a0 (by decide)).trans h1ZSkq10
      have e223 := (Zfr.gr fc18 t_a0 (by decide)).trans ev15
      have k224 := GtP_w46 k166 Wq10 t_a0 fc18 e154 ev15 ec18 (by omega) (by omega) (by omega)
      have sc226 := Sc_fr fc18 t_a0 (by decide) (by decide) (by decide)
      have k225 := WyN_fr k167 fc18 t_a0 Wq10 (by decide) sc226
      have k227 := TbI_fr k169 fc18 t_a0 Wq10 (by decide) sc226
      have k229 := TkN_fr k171 fc18 t_a0 Wq10 (by decide)
      have F230 := Zfr.tr F172 fc18 (by decide)
      obtain ⟨w20, ew20⟩ := go_64 Wc18 t_a0
      refine wb ew20 ?_
      obtain ⟨q19, eq19, Wq19, fq19, pbZVeq19⟩ := p_Mo_parse hn Wc18 (a1 := 0) (ni := ni) (bc := 0) t_a0 (by omega) (by omega) (by omega) (by omega) (by omega) (by omega) (by omega) (by omega) (by omega) (by omega) (by omega) (by omega) (by omega) (by omega) e209 e221 e222 e216 e210 e211 e212 (by omega) (by omega) ⟨bksxc_143, bklxc_143, bkwxc_143, bnaxc_143, blbxc_143, bnwxc_143, bvnxc_143, e209, e221, e222, e216, e213, e214, e215, e217, e218, e219, e220, tksxc_143, tklxc_143, tkwxc_143, by (try dsimp only); omega, by (try dsimp only); omega, by (try dsimp only); omega, by (try dsimp only); omega, by (try dsimp only); omega, by (try dsimp only); omega, by (try dsimp only); omega, by (try dsimp only); omega, by (try dsimp only); omega, by (try dsimp only); omega, by (try dsimp only); omega, by (try dsimp only); omega, by (try dsimp only); omega, by (try dsimp only); omega, by (try dsimp only); omega, by (try dsimp only); omega, by (try dsimp only); omega, by (try dsimp only); omega, k224, k225, k227, TbC_0 (by omega), k229⟩
      refine wb eq19 ?_
      have e250 := (Zfr.gi fq19 t_a0 (by decide)).trans e209
      have e251 := (Zfr.gr fq19 t_a0 (by decide)).trans e210
      have e252 := (Zfr.gr fq19 t_a0 (by decide)).trans e213
      have e253 := (Zfr.gr fq19 t_a0 (by decide)).trans e214
      have e254 := (Zfr.gr fq19 t_a0 (by decide)).trans e215
      have e255 := (Zfr.gr fq19 t_a0 (by decide)).trans e223
      have e256 := (Zfr.ai fq19 tv15 (by decide)).trans gc18
      have F257 := Zfr.tr F230 fq19 (by decide)
      obtain ⟨bf2q19, bt2q19, bd2q19, bksq19, bklq19, bkwq19, bnaq19, blbq19, bnwq19, bvnq19, bkgq19, bg2q19, bcd2q19, h0ZVeq19, h1ZVeq19, h2ZVeq19, h3ZVeq19, h4ZVeq19, h5ZVeq19, h6ZVeq19, h7ZVeq19, h8ZVeq19, h9ZVeq19, h10ZVeq19, h11ZVeq19, h12ZVeq19, h13ZVeq19, tksq19, tklq19, tkwq19, tkgq19, r0ZVeq19, r1ZVeq19, r2ZVeq19, r3ZVeq19, r4ZVeq19, r5ZVeq19, r6ZVeq19, r7ZVeq19, r8ZVeq19, r9ZVeq19, r10ZVeq19, r11ZVeq19, r12ZVeq19, r13ZVeq19, r14ZVeq19, r15ZVeq19, r16ZVeq19, r17ZVeq19, r18ZVeq19, r19ZVeq19, r20ZVeq19, r21ZVeq19, r22ZVeq19, r23ZVeq19, k0ZVeq19, k1ZVeq19, k2ZVeq19, k3ZVeq19, k4ZVeq19, k5ZVeq19⟩ := pbZVeq19
      unfold f_Mo_patterns_60
      obtain ⟨w14, ew14⟩ := go_64 Wq19 t_a0
      refine wb ew14 ?_
      have := li_102
      obtain ⟨q13, eq13, Wq13, fq13, pbZSq13⟩ := p_Mo_need hn Wq19 (a1 := 102) t_a0 (by omega) (by omega) (by omega) (by omega) h1ZVeq19 h2ZVeq19
      refine wb eq13 ?_
      have e260 := (Zfr.gi fq13 t_a0 (by decide)).trans h0ZVeq19
      have e261 := (Zfr.gr fq13 t_a0 (by decide)).trans h11ZVeq19
      have e262 := (Zfr.gr fq13 t_a0 (by decide)).trans h4ZVeq19
      have e263 := (Zfr.gr fq13 t_a0 (by decide)).trans h5ZVeq19
      have e264 := (Zfr.gr fq13 t_a0 (by decide)).trans h6ZVeq19
      have e265 := (Zfr.gr fq13 t_a0 (by decide)).trans e255
      have e266 := (Zfr.ai fq13 tv15 (by decide)).trans e256
      have e267 := (Zfr.gi fq13 t_a0 (by decide)).trans h3ZVeq19
      have e268 := (Zfr.ai fq13 tksq19 (by decide)).trans h7ZVeq19
      have e269 := (Zfr.ai fq13 tklq19 (by decide)).trans h8ZVeq19
      have e270 := (Zfr.ai fq13 tkwq19 (by decide)).trans h9ZVeq19
      have e271 := (Zfr.gi fq13 t_a0 (by decide)).trans h10ZVeq19
      have e272 := (Zfr.ai fq13 tkgq19 (by decide)).trans h12ZVeq19
      have e273 := (Zfr.gi fq13 t_a0 (by decide)).trans h13ZVeq19
      have k274 := GtP_fr k0ZVeq19 fq13 t_a0 Wq19 (by decide)
      have sc276 : Sc q19 q13 a0 (1) (0) := by
        obtain ⟨yf2, yt2, z0y, z1y, x0y, x1y, x2y, x3y, x4y, x5y⟩ := pbZSq13
        exact Sc_mk h1ZVeq19 z0y h2ZVeq19 z1y h3ZVeq19 ((Zfr.gi (ci := 12) fq13 t_a0 (by decide)).trans h3ZVeq19) (by omega)
      have k275 := WyN_fr k1ZVeq19 fq13 t_a0 Wq19 (by decide) sc276
      have k277 := TbI_fr k2ZVeq19 fq13 t_a0 Wq19 (by decide) sc276
      have k278 := TbC_fr k3ZVeq19 fq13 t_a0 Wq19 (by decide) sc276
      have k279 := TkN_fr k4ZVeq19 fq13 t_a0 Wq19 (by decide)
      have k280 := CeP_fr k5ZVeq19 fq13 t_a0 Wq19 (by decide) sc276
      have F281 := Zfr.tr F257 fq13 (by decide)
      obtain ⟨bf2q13, bt2q13, h0ZSq13, h1ZSq13, r0ZSq13, r1ZSq13, r2ZSq13, r3ZSq13, r4ZSq13, r5ZSq13⟩ := pbZSq13
      exact ⟨_, rfl, Wq13, F281, ⟨bf2q13, bt2q13, bd2q19, bksq19, bklq19, bkwq19, bnaq19, blbq19, bnwq19, bvnq19, bkgq19, bg2q19, bcd2q19, e260, h0ZSq13, h1ZSq13, e267, e262, e263, e264, e268, e269, e270, e271, e261, e272, e273, tksq19, tklq19, tkwq19, tkgq19, by (try dsimp only); omega, by (try dsimp only); omega, by (try dsimp only); omega, by (try dsimp only); omega, by (try dsimp only); omega, by (try dsimp only); omega, by (try dsimp only); omega, by (try dsimp only); omega, by (try dsimp only); omega, by (try dsimp only); omega, by (try dsimp only); omega, by (try dsimp only); omega, by (try dsimp only); omega, by (try dsimp only); omega, by (try dsimp only); omega, by (try dsimp only); omega, by (try dsimp only); omega, by (try dsimp only); omega, by (try dsimp only); omega, by (try dsimp only); omega, by (try dsimp only); omega, by (try dsimp only); omega, by (try dsimp only); omega, by (try dsimp only); omega, k274, k275, k277, TbC_of k280 e265 e260 e266, k279⟩⟩
  · have := li_0
    have hq23 := i_ne hq23
    unfold f_Mo_patterns_17
    have := vfi_e h1ZSq1
    have L306 : ∃ b, zlp (fun a : Nat × Zc => g_Mo_patterns_17 nf a.1 a.2) nf (a0, q1) = some b ∧ (fun b : (Nat × Zc) => a0 = b.1 ∧ Zwt zty G b.2 ∧ Zfr G ([(64, 18), (64, 19), (64, 20), (64, 53), (64, 57), (64, 65), (79, 0), (80, 0), (82, 0), (83, 0), (84, 0), (85, 0), (86, 0), (87, 0), (88, 0), (89, 0), (90, 0), (91, 0), (92, 0), (93, 0), (94, 0), (95, 0), (105, 0), (106, 0), (107, 0), (108, 0), (109, 0), (110, 0), (111, 0), (112, 0), (113, 0), (134, 0)] : List (Nat × Nat)) q1 b.2 ∧ ZVr G b.2 a0 pv bf2q1 bt2q1 dv ni bc) b := by
      refine wlp (fun a : Nat × Zc => a0 = a.1 ∧ Zwt zty G a.2 ∧ Zfr G ([(64, 18), (64, 19), (64, 20), (64, 53), (64, 57), (64, 65), (79, 0), (80, 0), (82, 0), (83, 0), (84, 0), (85, 0), (86, 0), (87, 0), (88, 0), (89, 0), (90, 0), (91, 0), (92, 0), (93, 0), (94, 0), (95, 0), (105, 0), (106, 0), (107, 0), (108, 0), (109, 0), (110, 0), (111, 0), (112, 0), (113, 0), (134, 0)] : List (Nat × Nat)) q1 a.2 ∧ ZVr G a.2 a0 pv bf2q1 bt2q1 dv ni bc) (fun a => (201 - vfi a.2 a0 18).toNat) (fun b : (Nat × Zc) => a0 = b.1 ∧ Zwt zty G b.2 ∧ Zfr G ([(64, 18), (64, 19), (64, 20), (64, 53), (64, 57), (64, 65), (79, 0), (80, 0), (82, 0), (83, 0), (84, 0), (85, 0), (86, 0), (87, 0), (88, 0), (89, 0), (90, 0), (91, 0), (92, 0), (93, 0), (94, 0), (95, 0), (105, 0), (106, 0), (107, 0), (108, 0), (109, 0), (110, 0), (111, 0), (112, 0), (113, 0), (134, 0)] : List (Nat × Nat)) q1 b.2 ∧ ZVr G b.2 a0 pv bf2q1 bt2q1 dv ni bc) ?_ ?_ ?_
      · rintro ⟨x0_307, c_307⟩ hI
        try dsimp only at hI ⊢
        obtain ⟨rfl, WLc_307, FLc_307, hBZVr_307⟩ := hI
        have e308 := (Zfr.gi FLc_307 t_a0 (by decide)).trans e4
        have e309 := (Zfr.gr FLc_307 t_a0 (by decide)).trans e6
        have e310 := (Zfr.ai FLc_307 tqw_1 (by decide)).trans e7
        have e311 := (Zfr.gi FLc_307 t_a0 (by decide)).trans e8
        have e312 := (Zfr.gr FLc_307 t_a0 (by decide)).trans e9
        have e313 := (Zfr.gr FLc_307 t_a0 (by decide)).trans e10
        have e314 := (Zfr.gr FLc_307 t_a0 (by decide)).trans e11
        obtain ⟨bf2_307, bt2_307, bd2_307, bks_307, bkl_307, bkw_307, bna_307, blb_307, bnw_307, bvn_307, h0ZVr_307, h1ZVr_307, h2ZVr_307, h3ZVr_307, h4ZVr_307, h5ZVr_307, h6ZVr_307, h7ZVr_307, h8ZVr_307, h9ZVr_307, h10ZVr_307, tks_307, tkl_307, tkw_307, r0ZVr_307, r1ZVr_307, r2ZVr_307, r3ZVr_307, r4ZVr_307, r5ZVr_307, r6ZVr_307, r7ZVr_307, r8ZVr_307, r9ZVr_307, r10ZVr_307, r11ZVr_307, r12ZVr_307, r13ZVr_307, r14ZVr_307, r15ZVr_307, r16ZVr_307, r17ZVr_307, r18ZVr_307, r19ZVr_307, k0ZVr_307, k1ZVr_307, k2ZVr_307, k3ZVr_307, k4ZVr_307⟩ := hBZVr_307
        unfold g_Mo_patterns_17
        have := vfi_e h2ZVr_307
        obtain ⟨w6, ew6⟩ := go_64 WLc_307 t_a0
        refine wb ew6 ?_
        have := li_44
        obtain ⟨q5, eq5, Wq5, fq5, pl0q5, pu0q5, pbZSkq5⟩ := p_Mo_takes hn WLc_307 (a1 := 44) t_a0 (by omega) (by omega) (by omega) (by omega) h1ZVr_307 h2ZVr_307
        refine wb eq5 ?_
        have e318 := (Zfr.gi fq5 t_a0 (by decide)).trans h0ZVr_307
        have e319 := (Zfr.gr fq5 t_a0 (by decide)).trans e309
        have e320 := (Zfr.ai fq5 tqw_1 (by decide)).trans e310
        have e321 := (Zfr.gi fq5 t_a0 (by decide)).trans e311
        have e322 := (Zfr.gr fq5 t_a0 (by decide)).trans h4ZVr_307
        have e323 := (Zfr.gr fq5 t_a0 (by decide)).trans h5ZVr_307
        have e324 := (Zfr.gr fq5 t_a0 (by decide)).trans h6ZVr_307
        have e325 := (Zfr.gi fq5 t_a0 (by decide)).trans h3ZVr_307
        have e326 := (Zfr.ai fq5 tks_307 (by decide)).trans h7ZVr_307
        have e327 := (Zfr.ai fq5 tkl_307 (by decide)).trans h8ZVr_307
        have e328 := (Zfr.ai fq5 tkw_307 (by decide)).trans h9ZVr_307
        have e329 := (Zfr.gi fq5 t_a0 (by decide)).trans h10ZVr_307
        have k330 := GtP_fr k0ZVr_307 fq5 t_a0 WLc_307 (by decide)
        have sc332 : Sc c_307 q5.2 a0 (q5.1.toInt) (0) := by
          obtain ⟨yf2, yt2, z0y, z1y, x0y, x1y, x2y, x3y, x4y, x5y, x6y⟩ := pbZSkq5
          exact Sc_mk h1ZVr_307 z0y h2ZVr_307 z1y h3ZVr_307 ((Zfr.gi (ci := 12) fq5 t_a0 (by decide)).trans h3ZVr_307) (by omega)
        have k331 := WyN_fr k1ZVr_307 fq5 t_a0 WLc_307 (by decide) sc332
        have k333 := TbI_fr k2ZVr_307 fq5 t_a0 WLc_307 (by decide) sc332
        have k334 := TbC_fr k3ZVr_307 fq5 t_a0 WLc_307 (by decide) sc332
        have k335 := TkN_fr k4ZVr_307 fq5 t_a0 WLc_307 (by decide)
        have F336 := Zfr.tr FLc_307 fq5 (by decide)
        obtain ⟨bf2q5, bt2q5, h0ZSkq5, h1ZSkq5, r0ZSkq5, r1ZSkq5, r2ZSkq5, r3ZSkq5, r4ZSkq5, r5ZSkq5, r6ZSkq5⟩ := pbZSkq5
        refine wi (fun hq337 => ?_) (fun hq337 => ?_)
        · have hq337 := i_eq hq337
          exact lInr ⟨rfl, Wq5, F336, ⟨bf2q5, bt2q5, bd2_307, bks_307, bkl_307, bkw_307, bna_307, blb_307, bnw_307, bvn_307, e318, h0ZSkq5, h1ZSkq5, e325, e322, e323, e324, e326, e327, e328, e329, tks_307, tkl_307, tkw_307, by (try dsimp only); omega, by (try dsimp only); omega, by (try dsimp only); omega, by (try dsimp only); omega, by (try dsimp only); omega, by (try dsimp only); omega, by (try dsimp only); omega, by (try dsimp only); omega, by (try dsimp only); omega, by (try dsimp only); omega, by (try dsimp only); omega, by (try dsimp only); omega, by (try dsimp only); omega, by (try dsimp only); omega, by (try dsimp only); omega, by (try dsimp only); omega, by (try dsimp only); omega, by (try dsimp only); omega, by (try dsimp only); omega, by (try dsimp only); omega, k330, k331, k333, k334, k335⟩⟩
        · have hq337 := i_ne hq337
          obtain ⟨w9, ew9⟩ := go_64 Wq5 t_a0
          refine wb ew9 ?_
          obtain ⟨q8, eq8, Wq8, fq8, pbZVqq8⟩ := p_Mo_pattern hn Wq5 (ni := ni) (bc := bc) t_a0 (by omega) (by omega) (by omega) (by omega) (by omega) (by omega) (by omega) (by omega) e318 h0ZSkq5 h1ZSkq5 e325 ⟨bks_307, bkl_307, bkw_307, bna_307, blb_307, bnw_307, bvn_307, e318, h0ZSkq5, h1ZSkq5, e325, e322, e323, e324, e326, e327, e328, e329, tks_307, tkl_307, tkw_307, by (try dsimp only); omega, by (try dsimp only); omega, by (try dsimp only); omega, by (try dsimp only); omega, by (try dsimp only); omega, by (try dsimp only); omega, by (try dsimp only); omega, by (try dsimp only); omega, by (try dsimp only); omega, by (try dsimp only); omega, by (try dsimp only); omega, by (try dsimp only); omega, by (try dsimp only); omega, by (try dsimp only); omega, by (try dsimp only); omega, by (try dsimp only); omega, by (try dsimp only); omega, by (try dsimp only); omega, k330, k331, k333, k334, k335⟩
          refine wb eq8 ?_
          have e364 := (Zfr.gi fq8 t_a0 (by decide)).trans e318
          have e365 := (Zfr.gr fq8 t_a0 (by decide)).trans e319
          have e366 := (Zfr.ai fq8 tqw_1 (by decide)).trans e320
          have e367 := (Zfr.gi fq8 t_a0 (by decide)).trans e321
          have e368 := (Zfr.gr fq8 t_a0 (by decide)).trans e322
          have e369 := (Zfr.gr fq8 t_a0 (by decide)).trans e323
          have e370 := (Zfr.gr fq8 t_a0 (by decide)).trans e324
          have F371 := Zfr.tr F336 fq8 (by decide)
          have := li_2
          obtain ⟨bf2q8, bt2q8, bd2q8, bksq8, bklq8, bkwq8, bnaq8, blbq8, bnwq8, bvnq8, h0ZVqq8, h1ZVqq8, h2ZVqq8, h3ZVqq8, h4ZVqq8, h5ZVqq8, h6ZVqq8, h7ZVqq8, h8ZVqq8, h9ZVqq8, h10ZVqq8, tksq8, tklq8, tkwq8, r0ZVqq8, r1ZVqq8, r2ZVqq8, r3ZVqq8, r4ZVqq8, r5ZVqq8, r6ZVqq8, r7ZVqq8, r8ZVqq8, r9ZVqq8, r10ZVqq8, r11ZVqq8, r12ZVqq8, r13ZVqq8, r14ZVqq8, r15ZVqq8, r16ZVqq8, r17ZVqq8, r18ZVqq8, r19ZVqq8, k0ZVqq8, k1ZVqq8, k2ZVqq8, k3ZVqq8, k4ZVqq8⟩ := pbZVqq8
          have := vfi_e h2ZVqq8
          exact lInl ⟨rfl, Wq8, F371, ⟨bf2q8, bt2q8, bd2q8, bksq8, bklq8, bkwq8, bnaq8, blbq8, bnwq8, bvnq8, h0ZVqq8, h1ZVqq8, h2ZVqq8, h3ZVqq8, h4ZVqq8, h5ZVqq8, h6ZVqq8, h7ZVqq8, h8ZVqq8, h9ZVqq8, h10ZVqq8, tksq8, tklq8, tkwq8, by (try dsimp only); omega, by (try dsimp only); omega, by (try dsimp only); omega, by (try dsimp only); omega, by (try dsimp only); omega, by (try dsimp only); omega, by (try dsimp only); omega, by (try dsimp only); omega, by (try dsimp only); omega, by (try dsimp only); omega, by (try dsimp only); omega, by (try dsimp only); omega, by (try dsimp only); omega, by (try dsimp only); omega, by (try dsimp only); omega, by (try dsimp only); omega, by (try dsimp only); omega, by (try dsimp only); omega, by (try dsimp only); omega, by (try dsimp only); omega, k0ZVqq8, k1ZVqq8, k2ZVqq8, k3ZVqq8, k4ZVqq8⟩⟩ (by (try dsimp only); omega)
      · exact ⟨rfl, Wq1, Zfr.rf, ⟨bf2q1, bt2q1, dv, bks0, bkl0, bkw0, bna0, blb0, bnw0, bvn0, e4, h0ZSq1, h1ZSq1, e5, e9, e10, e11, e12, e13, e14, e15, tks0, tkl0, tkw0, by (try dsimp only); omega, by (try dsimp only); omega, by (try dsimp only); omega, by (try dsimp only); omega, by (try dsimp only); omega, by (try dsimp only); omega, by (try dsimp only); omega, by (try dsimp only); omega, by (try dsimp only); omega, by (try dsimp only); omega, by (try dsimp only); omega, by (try dsimp only); omega, by (try dsimp only); omega, by (try dsimp only); omega, by (try dsimp only); omega, by (try dsimp only); omega, by (try dsimp only); omega, by (try dsimp only); omega, by (try dsimp only); omega, by (try dsimp only); omega, k16, k17, k19, k20, k21⟩⟩
      · (try dsimp only); omega
    obtain ⟨b, eb, hb⟩ := L306
    refine wb eb ?_
    clear eb
    obtain ⟨z0_395, c_395⟩ := b
    try dsimp only at hb ⊢
    obtain ⟨rfl, WXc_395, FXc_395, hXZVrc_395⟩ := hb
    have e396 := (Zfr.gi FXc_395 t_a0 (by decide)).trans e4
    have e397 := (Zfr.gr FXc_395 t_a0 (by decide)).trans e6
    have e398 := (Zfr.ai FXc_395 tqw_1 (by decide)).trans e7
    have e399 := (Zfr.gi FXc_395 t_a0 (by decide)).trans e8
    have e400 := (Zfr.gr FXc_395 t_a0 (by decide)).trans e9
    have e401 := (Zfr.gr FXc_395 t_a0 (by decide)).trans e10
    have e402 := (Zfr.gr FXc_395 t_a0 (by decide)).trans e11
    have F403 := Zfr.tr F22 FXc_395 (by decide)
    obtain ⟨bf2xc_395, bt2xc_395, bd2xc_395, bksxc_395, bklxc_395, bkwxc_395, bnaxc_395, blbxc_395, bnwxc_395, bvnxc_395, h0ZVrxc_395, h1ZVrxc_395, h2ZVrxc_395, h3ZVrxc_395, h4ZVrxc_395, h5ZVrxc_395, h6ZVrxc_395, h7ZVrxc_395, h8ZVrxc_395, h9ZVrxc_395, h10ZVrxc_395, tksxc_395, tklxc_395, tkwxc_395, r0ZVrxc_395, r1ZVrxc_395, r2ZVrxc_395, r3ZVrxc_395, r4ZVrxc_395, r5ZVrxc_395, r6ZVrxc_395, r7ZVrxc_395, r8ZVrxc_395, r9ZVrxc_395, r10ZVrxc_395, r11ZVrxc_395, r12ZVrxc_395, r13ZVrxc_395, r14ZVrxc_395, r15ZVrxc_395, r16ZVrxc_395, r17ZVrxc_395, r18ZVrxc_395, r19ZVrxc_395, k0ZVrxc_395, k1ZVrxc_395, k2ZVrxc_395, k3ZVrxc_395, k4ZVrxc_395⟩ := hXZVrc_395
    obtain ⟨w11, ew11⟩ := go_64 WXc_395 t_a0
    refine wb ew11 ?_
    have := li_101
    obtain ⟨q10, eq10, Wq10, fq10, pl0q10, pu0q10, pbZSkq10⟩ := p_Mo_takes hn WXc_395 (a1 := 101) t_a0 (by omega) (by omega) (by omega) (by omega) h1ZVrxc_395 h2ZVrxc_395
    refine wb eq10 ?_
    have e406 := (Zfr.gi fq10 t_a0 (by decide)).trans h0ZVrxc_395
    have e407 := (Zfr.gr fq10 t_a0 (by decide)).trans e397
    have e408 := (Zfr.ai fq10 tqw_1 (by decide)).trans e398
    have e409 := (Zfr.gi fq10 t_a0 (by decide)).trans e399
    have e410 := (Zfr.gr fq10 t_a0 (by decide)).trans h4ZVrxc_395
    have e411 := (Zfr.gr fq10 t_a0 (by decide)).trans h5ZVrxc_395
    have e412 := (Zfr.gr fq10 t_a0 (by decide)).trans h6ZVrxc_395
    have e413 := (Zfr.gi fq10 t_a0 (by decide)).trans h3ZVrxc_395
    have e414 := (Zfr.ai fq10 tksxc_395 (by decide)).trans h7ZVrxc_395
    have e415 := (Zfr.ai fq10 tklxc_395 (by decide)).trans h8ZVrxc_395
    have e416 := (Zfr.ai fq10 tkwxc_395 (by decide)).trans h9ZVrxc_395
    have e417 := (Zfr.gi fq10 t_a0 (by decide)).trans h10ZVrxc_395
    have k418 := GtP_fr k0ZVrxc_395 fq10 t_a0 WXc_395 (by decide)
    have sc420 : Sc c_395 q10.2 a0 (q10.1.toInt) (0) := by
      obtain ⟨yf2, yt2, z0y, z1y, x0y, x1y, x2y, x3y, x4y, x5y, x6y⟩ := pbZSkq10
      exact Sc_mk h1ZVrxc_395 z0y h2ZVrxc_395 z1y h3ZVrxc_395 ((Zfr.gi (ci := 12) fq10 t_a0 (by decide)).trans h3ZVrxc_395) (by omega)
    have k419 := WyN_fr k1ZVrxc_395 fq10 t_a0 WXc_395 (by decide) sc420
    have k421 := TbI_fr k2ZVrxc_395 fq10 t_a0 WXc_395 (by decide) sc420
    have k422 := TbC_fr k3ZVrxc_395 fq10 t_a0 WXc_395 (by decide) sc420
    have k423 := TkN_fr k4ZVrxc_395 fq10 t_a0 WXc_395 (by decide)
    have F424 := Zfr.tr F403 fq10 (by decide)
    obtain ⟨bf2q10, bt2q10, h0ZSkq10, h1ZSkq10, r0ZSkq10, r1ZSkq10, r2ZSkq10, r3ZSkq10, r4ZSkq10, r5ZSkq10, r6ZSkq10⟩ := pbZSkq10
    refine wi (fun hq425 => ?_) (fun hq425 => ?_)
    · have hq425 := i_eq hq425
      unfold f_Mo_patterns_60
      obtain ⟨w14, ew14⟩ := go_64 Wq10 t_a0
      refine wb ew14 ?_
      have := li_102
      obtain ⟨q13, eq13, Wq13, fq13, pbZSq13⟩ := p_Mo_need hn Wq10 (a1 := 102) t_a0 (by omega) (by omega) (by omega) (by omega) h0ZSkq10 h1ZSkq10
      refine wb eq13 ?_
      have e428 := (Zfr.gi fq13 t_a0 (by decide)).trans e406
      have e429 := (Zfr.gr fq13 t_a0 (by decide)).trans e407
      have e430 := (Zfr.ai fq13 tqw_1 (by decide)).trans e408
      have e431 := (Zfr.gi fq13 t_a0 (by decide)).trans e409
      have e432 := (Zfr.gr fq13 t_a0 (by decide)).trans e410
      have e433 := (Zfr.gr fq13 t_a0 (by decide)).trans e411
      have e434 := (Zfr.gr fq13 t_a0 (by decide)).trans e412
      have e435 := (Zfr.gi fq13 t_a0 (by decide)).trans e413
      have e436 := (Zfr.ai fq13 tksxc_395 (by decide)).trans e414
      have e437 := (Zfr.ai fq13 tklxc_395 (by decide)).trans e415
      have e438 := (Zfr.ai fq13 tkwxc_395 (by decide)).trans e416
      have e439 := (Zfr.gi fq13 t_a0 (by decide)).trans e417
      have k440 := GtP_fr k418 fq13 t_a0 Wq10 (by decide)
      have sc442 : Sc q10.2 q13 a0 (1) (0) := by
        obtain ⟨yf2, yt2, z0y, z1y, x0y, x1y, x2y, x3y, x4y, x5y⟩ := pbZSq13
        exact Sc_mk h0ZSkq10 z0y h1ZSkq10 z1y e413 ((Zfr.gi (ci := 12) fq13 t_a0 (by decide)).trans e413) (by omega)
      have k441 := WyN_fr k419 fq13 t_a0 Wq10 (by decide) sc442
      have k443 := TbI_fr k421 fq13 t_a0 Wq10 (by decide) sc442
      have k444 := TbC_fr k422 fq13 t_a0 Wq10 (by decide) sc442
      have k445 := TkN_fr k423 fq13 t_a0 Wq10 (by decide)
      have F446 := Zfr.tr F424 fq13 (by decide)
      obtain ⟨bf2q13, bt2q13, h0ZSq13, h1ZSq13, r0ZSq13, r1ZSq13, r2ZSq13, r3ZSq13, r4ZSq13, r5ZSq13⟩ := pbZSq13
      exact ⟨_, rfl, Wq13, F446, ⟨bf2q13, bt2q13, bd2xc_395, bksxc_395, bklxc_395, bkwxc_395, bnaxc_395, blbxc_395, bnwxc_395, bvnxc_395, kg, gc, cd, e428, h0ZSq13, h1ZSq13, e435, e432, e433, e434, e436, e437, e438, e439, e429, e430, e431, tksxc_395, tklxc_395, tkwxc_395, tqw_1, by (try dsimp only); omega, by (try dsimp only); omega, by (try dsimp only); omega, by (try dsimp only); omega, by (try dsimp only); omega, by (try dsimp only); omega, by (try dsimp only); omega, by (try dsimp only); omega, by (try dsimp only); omega, by (try dsimp only); omega, by (try dsimp only); omega, by (try dsimp only); omega, by (try dsimp only); omega, by (try dsimp only); omega, by (try dsimp only); omega, by (try dsimp only); omega, by (try dsimp only); omega, by (try dsimp only); omega, by (try dsimp only); omega, by (try dsimp only); omega, by (try dsimp only); omega, by (try dsimp only); omega, by (try dsimp only); omega, by (try dsimp only); omega, k440, k441, k443, k444, k445⟩⟩
    · have hq425 := i_ne hq425
      obtain ⟨v15, ev15, tv15⟩ := gf_64_46 Wq10 t_a0
      refine wb ev15 ?_
      refine wb e406 ?_
      refine wb e409 ?_
      obtain ⟨c18, ec18, Wc18, fc18, gc18⟩ := pa_99 Wq10 tv15 (i := pv) (by omega) (by omega) (x := cd) (rgi (by omega) (by omega))
      refine wb ec18 ?_
      have e461 := (Zfr.gi fc18 t_a0 (by decide)).trans e406
      have e462 := (Zfr.gr fc18 t_a0 (by decide)).trans e407
      have e463 := (Zfr.ai fc18 tqw_1 (by decide)).trans e408
      have e464 := (Zfr.gi fc18 t_a0 (by decide)).trans e409
      have e465 := (Zfr.gr fc18 t_a0 (by decide)).trans e410
      have e466 := (Zfr.gr fc18 t_a0 (by decide)).trans e411
      have e467 := (Zfr.gr fc18 t_a0 (by decide)).trans e412
      have e468 := (Zfr.gi fc18 t_a0 (by decide)).trans e413
      have e469 := (Zfr.ai fc18 tksxc_395 (by decide)).trans e414
      have e470 := (Zfr.ai fc18 tklxc_395 (by decide)).trans e415
      have e471 := (Zfr.ai fc18 tkwxc_395 (by decide)).trans e416
      have e472 := (Zfr.gi fc18 t_a0 (by decide)).trans e417
      have e473 := (Zfr.gi fc18 t_a0 (by decide)).trans h0ZSkq10
      have e474 := (Zfr.gi fc18 t_a0 (by decide)).trans h1ZSkq10
      have e475 := (Zfr.gr fc18 t_a0 (by decide)).trans ev15
      have k476 := GtP_w46 k418 Wq10 t_a0 fc18 e406 ev15 ec18 (by omega) (by omega) (by omega)
      have sc478 := Sc_fr fc18 t_a0 (by decide) (by decide) (by decide)
      have k477 := WyN_fr k419 fc18 t_a0 Wq10 (by decide) sc478
      have k479 := TbI_fr k421 fc18 t_a0 Wq10 (by decide) sc478
      have k481 := TkN_fr k423 fc18 t_a0 Wq10 (by decide)
      have F482 := Zfr.tr F424 fc18 (by decide)
      obtain ⟨w20, ew20⟩ := go_64 Wc18 t_a0
      refine wb ew20 ?_
      obtain ⟨q19, eq19, Wq19, fq19, pbZVeq19⟩ := p_Mo_parse hn Wc18 (a1 := 0) (ni := ni) (bc := 0) t_a0 (by omega) (by omega) (by omega) (by omega) (by omega) (by omega) (by omega) (by omega) (by omega) (by omega) (by omega) (by omega) (by omega) (by omega) e461 e473 e474 e468 e462 e463 e464 (by omega) (by omega) ⟨bksxc_395, bklxc_395, bkwxc_395, bnaxc_395, blbxc_395, bnwxc_395, bvnxc_395, e461, e473, e474, e468, e465, e466, e467, e469, e470, e471, e472, tksxc_395, tklxc_395, tkwxc_395, by (try dsimp only); omega, by (try dsimp only); omega, by (try dsimp only); omega, by (try dsimp only); omega, by (try dsimp only); omega, by (try dsimp only); omega, by (try dsimp only); omega, by (try dsimp only); omega, by (try dsimp only); omega, by (try dsimp only); omega, by (try dsimp only); omega, by (try dsimp only); omega, by (try dsimp only); omega, by (try dsimp only); omega, by (try dsimp only); omega, by (try dsimp only); omega, by (try dsimp only); omega, by (try dsimp only); omega, k476, k477, k479, TbC_0 (by omega), k481⟩
      refine wb eq19 ?_
      have e502 := (Zfr.gi fq19 t_a0 (by decide)).trans e461
      have e503 := (Zfr.gr fq19 t_a0 (by decide)).trans e462
      have e504 := (Zfr.gr fq19 t_a0 (by decide)).trans e465
      have e505 := (Zfr.gr fq19 t_a0 (by decide)).trans e466
      have e506 := (Zfr.gr fq19 t_a0 (by decide)).trans e467
      have e507 := (Zfr.gr fq19 t_a0 (by decide)).trans e475
      have e508 := (Zfr.ai fq19 tv15 (by decide)).trans gc18
      have F509 := Zfr.tr F482 fq19 (by decide)
      obtain ⟨bf2q19, bt2q19, bd2q19, bksq19, bklq19, bkwq19, bnaq19, blbq19, bnwq19, bvnq19, bkgq19, bg2q19, bcd2q19, h0ZVeq19, h1ZVeq19, h2ZVeq19, h3ZVeq19, h4ZVeq19, h5ZVeq19, h6ZVeq19, h7ZVeq19, h8ZVeq19, h9ZVeq19, h10ZVeq19, h11ZVeq19, h12ZVeq19, h13ZVeq19, tksq19, tklq19, tkwq19, tkgq19, r0ZVeq19, r1ZVeq19, r2ZVeq19, r3ZVeq19, r4ZVeq19, r5ZVeq19, r6ZVeq19, r7ZVeq19, r8ZVeq19, r9ZVeq19, r10ZVeq19, r11ZVeq19, r12ZVeq19, r13ZVeq19, r14ZVeq19, r15ZVeq19, r16ZVeq19, r17ZVeq19, r18ZVeq19, r19ZVeq19, r20ZVeq19, r21ZVeq19, r22ZVeq19, r23ZVeq19, k0ZVeq19, k1ZVeq19, k2ZVeq19, k3ZVeq19, k4ZVeq19, k5ZVeq19⟩ := pbZVeq19
      unfold f_Mo_patterns_60
      obtain ⟨w14, ew14⟩ := go_64 Wq19 t_a0
      refine wb ew14 ?_
      have := li_102
      obtain ⟨q13, eq13, Wq13, fq13, pbZSq13⟩ := p_Mo_need hn Wq19 (a1 := 102) t_a0 (by omega) (by omega) (by omega) (by omega) h1ZVeq19 h2ZVeq19
      refine wb eq13 ?_
      have e512 := (Zfr.gi fq13 t_a0 (by decide)).trans h0ZVeq19
      have e513 := (Zfr.gr fq13 t_a0 (by decide)).trans h11ZVeq19
      have e514 := (Zfr.gr fq13 t_a0 (by decide)).trans h4ZVeq19
      have e515 := (Zfr.gr fq13 t_a0 (by decide)).trans h5ZVeq19
      have e516 := (Zfr.gr fq13 t_a0 (by decide)).trans h6ZVeq19
      have e517 := (Zfr.gr fq13 t_a0 (by decide)).trans e507
      have e518 := (Zfr.ai fq13 tv15 (by decide)).trans e508
      have e519 := (Zfr.gi fq13 t_a0 (by decide)).trans h3ZVeq19
      have e520 := (Zfr.ai fq13 tksq19 (by decide)).trans h7ZVeq19
      have e521 := (Zfr.ai fq13 tklq19 (by decide)).trans h8ZVeq19
      have e522 := (Zfr.ai fq13 tkwq19 (by decide)).trans h9ZVeq19
      have e523 := (Zfr.gi fq13 t_a0 (by decide)).trans h10ZVeq19
      have e524 := (Zfr.ai fq13 tkgq19 (by decide)).trans h12ZVeq19
      have e525 := (Zfr.gi fq13 t_a0 (by decide)).trans h13ZVeq19
      have k526 := GtP_fr k0ZVeq19 fq13 t_a0 Wq19 (by decide)
      have sc528 : Sc q19 q13 a0 (1) (0) := by
        obtain ⟨yf2, yt2, z0y, z1y, x0y, x1y, x2y, x3y, x4y, x5y⟩ := pbZSq13
        exact Sc_mk h1ZVeq19 z0y h2ZVeq19 z1y h3ZVeq19 ((Zfr.gi (ci := 12) fq13 t_a0 (by decide)).trans h3ZVeq19) (by omega)
      have k527 := WyN_fr k1ZVeq19 fq13 t_a0 Wq19 (by decide) sc528
      have k529 := TbI_fr k2ZVeq19 fq13 t_a0 Wq19 (by decide) sc528
      have k530 := TbC_fr k3ZVeq19 fq13 t_a0 Wq19 (by decide) sc528
      have k531 := TkN_fr k4ZVeq19 fq13 t_a0 Wq19 (by decide)
      have k532 := CeP_fr k5ZVeq19 fq13 t_a0 Wq19 (by decide) sc528
      have F533 := Zfr.tr F509 fq13 (by decide)
      obtain ⟨bf2q13, bt2q13, h0ZSq13, h1ZSq13, r0ZSq13, r1ZSq13, r2ZSq13, r3ZSq13, r4ZSq13, r5ZSq13⟩ := pbZSq13
      exact ⟨_, rfl, Wq13, F533, ⟨bf2q13, bt2q13, bd2q19, bksq19, bklq19, bkwq19, bnaq19, blbq19, bnwq19, bvnq19, bkgq19, bg2q19, bcd2q19, e512, h0ZSq13, h1ZSq13, e519, e514, e515, e516, e520, e521, e522, e523, e513, e524, e525, tksq19, tklq19, tkwq19, tkgq19, by (try dsimp only); omega, by (try dsimp only); omega, by (try dsimp only); omega, by (try dsimp only); omega, by (try dsimp only); omega, by (try dsimp only); omega, by (try dsimp only); omega, by (try dsimp only); omega, by (try dsimp only); omega, by (try dsimp only); omega, by (try dsimp only); omega, by (try dsimp only); omega, by (try dsimp only); omega, by (try dsimp only); omega, by (try dsimp only); omega, by (try dsimp only); omega, by (try dsimp only); omega, by (try dsimp only); omega, by (try dsimp only); omega, by (try dsimp only); omega, by (try dsimp only); omega, by (try dsimp only); omega, by (try dsimp only); omega, by (try dsimp only); omega, k526, k527, k529, TbC_of k532 e517 e512 e518, k531⟩⟩

end ZzT
