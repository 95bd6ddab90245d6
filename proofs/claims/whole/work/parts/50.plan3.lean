theorem d_Rf_plan_0 : decode M_Rf_plan.2.1 0 = .ok (.aload_n 0, 1) := by decide +kernel
theorem d_Rf_plan_1 : decode M_Rf_plan.2.1 1 = .ok (.iload_n 1, 1) := by decide +kernel
theorem d_Rf_plan_2 : decode M_Rf_plan.2.1 2 = .ok (.iload_n 2, 1) := by decide +kernel
theorem d_Rf_plan_3 : decode M_Rf_plan.2.1 3 = .ok (.iload_n 3, 1) := by decide +kernel
theorem d_Rf_plan_4 : decode M_Rf_plan.2.1 4 = .ok (.invokevirtual 277, 3) := by decide +kernel
theorem d_Rf_plan_7 : decode M_Rf_plan.2.1 7 = .ok (.ifCond .ne 7, 3) := by decide +kernel
theorem d_Rf_plan_10 : decode M_Rf_plan.2.1 10 = .ok (.ldc2_w 275, 3) := by decide +kernel
theorem d_Rf_plan_13 : decode M_Rf_plan.2.1 13 = .ok (.lreturn, 1) := by decide +kernel
theorem d_Rf_plan_14 : decode M_Rf_plan.2.1 14 = .ok (.aload_n 0, 1) := by decide +kernel
theorem d_Rf_plan_15 : decode M_Rf_plan.2.1 15 = .ok (.getfield 104, 3) := by decide +kernel
theorem d_Rf_plan_18 : decode M_Rf_plan.2.1 18 = .ok (.iload_n 1, 1) := by decide +kernel
theorem d_Rf_plan_19 : decode M_Rf_plan.2.1 19 = .ok (.iaload, 1) := by decide +kernel
theorem d_Rf_plan_20 : decode M_Rf_plan.2.1 20 = .ok (.iconst 2, 1) := by decide +kernel
theorem d_Rf_plan_21 : decode M_Rf_plan.2.1 21 = .ok (.idiv, 1) := by decide +kernel
theorem d_Rf_plan_22 : decode M_Rf_plan.2.1 22 = .ok (.istore 4, 2) := by decide +kernel
theorem d_Rf_plan_24 : decode M_Rf_plan.2.1 24 = .ok (.aload_n 0, 1) := by decide +kernel
theorem d_Rf_plan_25 : decode M_Rf_plan.2.1 25 = .ok (.iconst 0, 1) := by decide +kernel
theorem d_Rf_plan_26 : decode M_Rf_plan.2.1 26 = .ok (.invokevirtual 271, 3) := by decide +kernel
theorem d_Rf_plan_29 : decode M_Rf_plan.2.1 29 = .ok (.ldc2_w 280, 3) := by decide +kernel
theorem d_Rf_plan_32 : decode M_Rf_plan.2.1 32 = .ok (.lstore 5, 2) := by decide +kernel
theorem d_Rf_plan_34 : decode M_Rf_plan.2.1 34 = .ok (.iconst 0, 1) := by decide +kernel
theorem d_Rf_plan_35 : decode M_Rf_plan.2.1 35 = .ok (.istore 7, 2) := by decide +kernel
theorem d_Rf_plan_37 : decode M_Rf_plan.2.1 37 = .ok (.iload 7, 2) := by decide +kernel
theorem d_Rf_plan_39 : decode M_Rf_plan.2.1 39 = .ok (.iconst 1, 1) := by decide +kernel
theorem d_Rf_plan_40 : decode M_Rf_plan.2.1 40 = .ok (.iload 4, 2) := by decide +kernel
theorem d_Rf_plan_42 : decode M_Rf_plan.2.1 42 = .ok (.ishl, 1) := by decide +kernel
theorem d_Rf_plan_43 : decode M_Rf_plan.2.1 43 = .ok (.if_icmp .ge 174, 3) := by decide +kernel
theorem d_Rf_plan_46 : decode M_Rf_plan.2.1 46 = .ok (.iload 7, 2) := by decide +kernel
theorem d_Rf_plan_48 : decode M_Rf_plan.2.1 48 = .ok (.invokestatic 282, 3) := by decide +kernel
theorem d_Rf_plan_51 : decode M_Rf_plan.2.1 51 = .ok (.iload_n 2, 1) := by decide +kernel
theorem d_Rf_plan_52 : decode M_Rf_plan.2.1 52 = .ok (.if_icmp .gt 7, 3) := by decide +kernel
theorem d_Rf_plan_55 : decode M_Rf_plan.2.1 55 = .ok (.iconst 1, 1) := by decide +kernel
theorem d_Rf_plan_56 : decode M_Rf_plan.2.1 56 = .ok (.goto 4, 3) := by decide +kernel
theorem d_Rf_plan_59 : decode M_Rf_plan.2.1 59 = .ok (.iconst 0, 1) := by decide +kernel
theorem d_Rf_plan_60 : decode M_Rf_plan.2.1 60 = .ok (.istore 8, 2) := by decide +kernel
theorem d_Rf_plan_62 : decode M_Rf_plan.2.1 62 = .ok (.iconst 0, 1) := by decide +kernel
theorem d_Rf_plan_63 : decode M_Rf_plan.2.1 63 = .ok (.istore 9, 2) := by decide +kernel
theorem d_Rf_plan_65 : decode M_Rf_plan.2.1 65 = .ok (.iload 9, 2) := by decide +kernel
theorem d_Rf_plan_67 : decode M_Rf_plan.2.1 67 = .ok (.iload 4, 2) := by decide +kernel
theorem d_Rf_plan_69 : decode M_Rf_plan.2.1 69 = .ok (.if_icmp .ge 70, 3) := by decide +kernel
theorem d_Rf_plan_72 : decode M_Rf_plan.2.1 72 = .ok (.iload 8, 2) := by decide +kernel
theorem d_Rf_plan_74 : decode M_Rf_plan.2.1 74 = .ok (.ifCond .eq 65, 3) := by decide +kernel
theorem d_Rf_plan_77 : decode M_Rf_plan.2.1 77 = .ok (.iload 7, 2) := by decide +kernel
theorem d_Rf_plan_79 : decode M_Rf_plan.2.1 79 = .ok (.iload 9, 2) := by decide +kernel
theorem d_Rf_plan_81 : decode M_Rf_plan.2.1 81 = .ok (.ishr, 1) := by decide +kernel
theorem d_Rf_plan_82 : decode M_Rf_plan.2.1 82 = .ok (.iconst 1, 1) := by decide +kernel
theorem d_Rf_plan_83 : decode M_Rf_plan.2.1 83 = .ok (.iand, 1) := by decide +kernel
theorem d_Rf_plan_84 : decode M_Rf_plan.2.1 84 = .ok (.ifCond .eq 42, 3) := by decide +kernel
theorem d_Rf_plan_87 : decode M_Rf_plan.2.1 87 = .ok (.aload_n 0, 1) := by decide +kernel
theorem d_Rf_plan_88 : decode M_Rf_plan.2.1 88 = .ok (.aload_n 0, 1) := by decide +kernel
theorem d_Rf_plan_89 : decode M_Rf_plan.2.1 89 = .ok (.getfield 107, 3) := by decide +kernel
theorem d_Rf_plan_92 : decode M_Rf_plan.2.1 92 = .ok (.bipush 40, 2) := by decide +kernel
theorem d_Rf_plan_94 : decode M_Rf_plan.2.1 94 = .ok (.iload_n 1, 1) := by decide +kernel
theorem d_Rf_plan_95 : decode M_Rf_plan.2.1 95 = .ok (.imul, 1) := by decide +kernel
theorem d_Rf_plan_96 : decode M_Rf_plan.2.1 96 = .ok (.iconst 2, 1) := by decide +kernel
theorem d_Rf_plan_97 : decode M_Rf_plan.2.1 97 = .ok (.iload 9, 2) := by decide +kernel
theorem d_Rf_plan_99 : decode M_Rf_plan.2.1 99 = .ok (.imul, 1) := by decide +kernel
theorem d_Rf_plan_100 : decode M_Rf_plan.2.1 100 = .ok (.iadd, 1) := by decide +kernel
theorem d_Rf_plan_101 : decode M_Rf_plan.2.1 101 = .ok (.iaload, 1) := by decide +kernel
theorem d_Rf_plan_102 : decode M_Rf_plan.2.1 102 = .ok (.aload_n 0, 1) := by decide +kernel
theorem d_Rf_plan_103 : decode M_Rf_plan.2.1 103 = .ok (.getfield 107, 3) := by decide +kernel
theorem d_Rf_plan_106 : decode M_Rf_plan.2.1 106 = .ok (.bipush 40, 2) := by decide +kernel
theorem d_Rf_plan_108 : decode M_Rf_plan.2.1 108 = .ok (.iload_n 1, 1) := by decide +kernel
theorem d_Rf_plan_109 : decode M_Rf_plan.2.1 109 = .ok (.imul, 1) := by decide +kernel
theorem d_Rf_plan_110 : decode M_Rf_plan.2.1 110 = .ok (.iconst 2, 1) := by decide +kernel
theorem d_Rf_plan_111 : decode M_Rf_plan.2.1 111 = .ok (.iload 9, 2) := by decide +kernel
theorem d_Rf_plan_113 : decode M_Rf_plan.2.1 113 = .ok (.imul, 1) := by decide +kernel
theorem d_Rf_plan_114 : decode M_Rf_plan.2.1 114 = .ok (.iadd, 1) := by decide +kernel
theorem d_Rf_plan_115 : decode M_Rf_plan.2.1 115 = .ok (.iconst 1, 1) := by decide +kernel
theorem d_Rf_plan_116 : decode M_Rf_plan.2.1 116 = .ok (.iadd, 1) := by decide +kernel
theorem d_Rf_plan_117 : decode M_Rf_plan.2.1 117 = .ok (.iaload, 1) := by decide +kernel
theorem d_Rf_plan_118 : decode M_Rf_plan.2.1 118 = .ok (.invokevirtual 285, 3) := by decide +kernel
theorem d_Rf_plan_121 : decode M_Rf_plan.2.1 121 = .ok (.bipush (-3), 2) := by decide +kernel
theorem d_Rf_plan_123 : decode M_Rf_plan.2.1 123 = .ok (.if_icmp .eq 7, 3) := by decide +kernel
theorem d_Rf_plan_126 : decode M_Rf_plan.2.1 126 = .ok (.iconst 1, 1) := by decide +kernel
theorem d_Rf_plan_127 : decode M_Rf_plan.2.1 127 = .ok (.goto 4, 3) := by decide +kernel
theorem d_Rf_plan_130 : decode M_Rf_plan.2.1 130 = .ok (.iconst 0, 1) := by decide +kernel
theorem d_Rf_plan_131 : decode M_Rf_plan.2.1 131 = .ok (.istore 8, 2) := by decide +kernel
theorem d_Rf_plan_133 : decode M_Rf_plan.2.1 133 = .ok (.iinc 9 1, 3) := by decide +kernel
theorem d_Rf_plan_136 : decode M_Rf_plan.2.1 136 = .ok (.goto (-71), 3) := by decide +kernel
theorem d_Rf_plan_139 : decode M_Rf_plan.2.1 139 = .ok (.iconst 0, 1) := by decide +kernel
theorem d_Rf_plan_140 : decode M_Rf_plan.2.1 140 = .ok (.istore 9, 2) := by decide +kernel
theorem d_Rf_plan_142 : decode M_Rf_plan.2.1 142 = .ok (.iload 9, 2) := by decide +kernel
theorem d_Rf_plan_144 : decode M_Rf_plan.2.1 144 = .ok (.iload_n 3, 1) := by decide +kernel
theorem d_Rf_plan_145 : decode M_Rf_plan.2.1 145 = .ok (.if_icmp .ge 18, 3) := by decide +kernel
theorem d_Rf_plan_148 : decode M_Rf_plan.2.1 148 = .ok (.iload 8, 2) := by decide +kernel
theorem d_Rf_plan_150 : decode M_Rf_plan.2.1 150 = .ok (.ifCond .eq 13, 3) := by decide +kernel
theorem d_Rf_plan_153 : decode M_Rf_plan.2.1 153 = .ok (.aload_n 0, 1) := by decide +kernel
theorem d_Rf_plan_154 : decode M_Rf_plan.2.1 154 = .ok (.invokevirtual 260, 3) := by decide +kernel
theorem d_Rf_plan_157 : decode M_Rf_plan.2.1 157 = .ok (.iinc 9 1, 3) := by decide +kernel
theorem d_Rf_plan_160 : decode M_Rf_plan.2.1 160 = .ok (.goto (-18), 3) := by decide +kernel
theorem d_Rf_plan_163 : decode M_Rf_plan.2.1 163 = .ok (.aload_n 0, 1) := by decide +kernel
theorem d_Rf_plan_164 : decode M_Rf_plan.2.1 164 = .ok (.getfield 7, 3) := by decide +kernel
theorem d_Rf_plan_167 : decode M_Rf_plan.2.1 167 = .ok (.sipush 238, 3) := by decide +kernel
theorem d_Rf_plan_170 : decode M_Rf_plan.2.1 170 = .ok (.iaload, 1) := by decide +kernel
theorem d_Rf_plan_171 : decode M_Rf_plan.2.1 171 = .ok (.aload_n 0, 1) := by decide +kernel
theorem d_Rf_plan_172 : decode M_Rf_plan.2.1 172 = .ok (.getfield 13, 3) := by decide +kernel
theorem d_Rf_plan_175 : decode M_Rf_plan.2.1 175 = .ok (.sipush 238, 3) := by decide +kernel
theorem d_Rf_plan_178 : decode M_Rf_plan.2.1 178 = .ok (.iaload, 1) := by decide +kernel
theorem d_Rf_plan_179 : decode M_Rf_plan.2.1 179 = .ok (.isub, 1) := by decide +kernel
theorem d_Rf_plan_180 : decode M_Rf_plan.2.1 180 = .ok (.i2l, 1) := by decide +kernel
theorem d_Rf_plan_181 : decode M_Rf_plan.2.1 181 = .ok (.lstore 9, 2) := by decide +kernel
theorem d_Rf_plan_183 : decode M_Rf_plan.2.1 183 = .ok (.iload 8, 2) := by decide +kernel
theorem d_Rf_plan_185 : decode M_Rf_plan.2.1 185 = .ok (.ifCond .eq 21, 3) := by decide +kernel
theorem d_Rf_plan_188 : decode M_Rf_plan.2.1 188 = .ok (.lload 9, 2) := by decide +kernel
theorem d_Rf_plan_190 : decode M_Rf_plan.2.1 190 = .ok (.lload 5, 2) := by decide +kernel
theorem d_Rf_plan_192 : decode M_Rf_plan.2.1 192 = .ok (.lcmp, 1) := by decide +kernel
theorem d_Rf_plan_193 : decode M_Rf_plan.2.1 193 = .ok (.ifCond .ge 13, 3) := by decide +kernel
theorem d_Rf_plan_196 : decode M_Rf_plan.2.1 196 = .ok (.lload 9, 2) := by decide +kernel
theorem d_Rf_plan_198 : decode M_Rf_plan.2.1 198 = .ok (.lstore 5, 2) := by decide +kernel
theorem d_Rf_plan_200 : decode M_Rf_plan.2.1 200 = .ok (.aload_n 0, 1) := by decide +kernel
theorem d_Rf_plan_201 : decode M_Rf_plan.2.1 201 = .ok (.iload 7, 2) := by decide +kernel
theorem d_Rf_plan_203 : decode M_Rf_plan.2.1 203 = .ok (.putfield 288, 3) := by decide +kernel
theorem d_Rf_plan_206 : decode M_Rf_plan.2.1 206 = .ok (.aload_n 0, 1) := by decide +kernel
theorem d_Rf_plan_207 : decode M_Rf_plan.2.1 207 = .ok (.iconst 1, 1) := by decide +kernel
theorem d_Rf_plan_208 : decode M_Rf_plan.2.1 208 = .ok (.invokevirtual 271, 3) := by decide +kernel
theorem d_Rf_plan_211 : decode M_Rf_plan.2.1 211 = .ok (.iinc 7 1, 3) := by decide +kernel
theorem d_Rf_plan_214 : decode M_Rf_plan.2.1 214 = .ok (.goto (-177), 3) := by decide +kernel
theorem d_Rf_plan_217 : decode M_Rf_plan.2.1 217 = .ok (.lload 5, 2) := by decide +kernel
theorem d_Rf_plan_219 : decode M_Rf_plan.2.1 219 = .ok (.lreturn, 1) := by decide +kernel
def ovR (o : Option Int64) : Int64 := match o with
  | none => 4611686018427387903
  | some v => v
theorem nm3 {a : Nat} (ha : a < 900000001) : ¬ nI a = -3 := by
  intro e
  have h := congrArg Int32.toInt e
  rw [nI_toInt (by omega)] at h
  have : (-3 : Int32).toInt = -3 := by decide
  omega
set_option maxHeartbeats 4000000 in
set_option maxRecDepth 100000 in
theorem pb_Rf_plan {D : xD} {N : Nat} {l : Launch} {d : Nat} {c z : T2} {P Q : Nat → Int32} {rest : List va_E} {K : Option Value → List va_E → Prop} {s h n k : Nat} {t : Int32} {lst : Int64} (hn1 : 0 < n) (hn2 : n ≤ 120) (hn : Wp D N l (EI M_Rf_plan) M_Rf_plan (Rm (d + 8) 0 0) (Qm D N K 0 0) 0 0 37 [(7, .int (nI (k + 1))), (5, .long lst), (4, .int (nI h)), (0, .ref (N + 0)), (1, .int (nI s)), (2, .int t), (3, .int (nI n))] [] (encR D N (c) (tput z 0 P) (P) Q ++ rest)) : ∀ (i : Int32) (R : Nat → Int32), Wp D N l (EI M_Rf_plan) M_Rf_plan (Rm (d + 8) 0 0) (Qm D N K 0 0) 0 0 65 [(9, .int i), (8, .int (nI 0)), (7, .int (nI k)), (5, .long lst), (4, .int (nI h)), (0, .ref (N + 0)), (1, .int (nI s)), (2, .int t), (3, .int (nI n))] [] (encR D N (c) (tput z 0 P) (R) Q ++ rest) := by
  have A : ∀ (i : Int32) (R : Nat → Int32), Wp D N l (EI M_Rf_plan) M_Rf_plan (Rm (d + 8) 0 0) (Qm D N K 0 0) 0 0 163 [(9, .int i), (8, .int (nI 0)), (7, .int (nI k)), (5, .long lst), (4, .int (nI h)), (0, .ref (N + 0)), (1, .int (nI s)), (2, .int t), (3, .int (nI n))] [] (encR D N (c) (tput z 0 P) (R) Q ++ rest) := by
    intro i R
    refine wp_aload_n (q := 164) d_Rf_plan_163 rfl rfl ?_
    refine wp_get (q := 167) fl_Rf_7 d_Rf_plan_164 rfl rfl rfl ?_
    refine wp_sipush (q := 170) d_Rf_plan_167 rfl sp_238 ?_
    refine wp_iald (q := 171) d_Rf_plan_170 rfl (rfl) (by omega) (by decide) ?_
    refine wp_aload_n (q := 172) d_Rf_plan_171 rfl rfl ?_
    refine wp_get (q := 175) fl_Rf_13 d_Rf_plan_172 rfl rfl rfl ?_
    refine wp_sipush (q := 178) d_Rf_plan_175 rfl sp_238 ?_
    refine wp_iald (q := 179) d_Rf_plan_178 rfl (rfl) (by omega) (by decide) ?_
    refine wp_isub (q := 180) d_Rf_plan_179 rfl ?_
    refine wp_i2l (q := 181) d_Rf_plan_180 rfl ?_
    refine wp_lstore (q := 183) (L2 := [(9, _), (8, _), (7, _), (5, _), (4, _), (0, _), (1, _), (2, _), (3, _)]) d_Rf_plan_181 rfl (by decide) rfl ?_
    refine wp_iload (q := 185) d_Rf_plan_183 rfl rfl ?_
    refine wp_if_eq_t (tgt := 206) d_Rf_plan_185 (by decide) (by decide) ?_
    refine wp_aload_n (q := 207) d_Rf_plan_206 rfl rfl ?_
    refine wp_iconst (q := 208) d_Rf_plan_207 rfl ic_1 ?_
    refine wp_cv1 (q := 211) lk_Rf_271 (ro _ _ _) d_Rf_plan_208 rfl (Nat.le_of_ble_eq_true rfl) (rfl) rfl (Nat.zero_le _) (Nat.zero_le _) ?_
    refine ok_Rf_lays1 ?_
    rw [tput_eq]
    refine wp_iinc (q := 214) (L2 := [(7, _), (9, _), (8, _), (5, _), (4, _), (0, _), (1, _), (2, _), (3, _)]) d_Rf_plan_211 rfl rfl (iinc_1) (by decide) rfl ?_
    refine wp_goto (tgt := 37) d_Rf_plan_214 (by decide) ?_
    refine wp_sub [0, 3, 4, 5, 6, 7, 8] rfl ?_
    exact hn
  have A1 : ∀ (R : Nat → Int32), Wp D N l (EI M_Rf_plan) M_Rf_plan (Rm (d + 8) 0 0) (Qm D N K 0 0) 0 0 142 [(9, .int (nI 0)), (8, .int (nI 0)), (7, .int (nI k)), (5, .long lst), (4, .int (nI h)), (0, .ref (N + 0)), (1, .int (nI s)), (2, .int t), (3, .int (nI n))] [] (encR D N (c) (tput z 0 P) (R) Q ++ rest) := by
    intro R
    refine wp_iload (q := 144) d_Rf_plan_142 rfl rfl ?_
    refine wp_iload_n (q := 145) d_Rf_plan_144 rfl rfl ?_
    refine wp_icmp_ge_f (q := 148) (tgt := 163) d_Rf_plan_145 (by decide) rfl (nI_ge hn1 (by omega)) ?_
    refine wp_iload (q := 150) d_Rf_plan_148 rfl rfl ?_
    refine wp_if_eq_t (tgt := 163) d_Rf_plan_150 (by decide) (by decide) ?_
    exact A _ _
  have A2 : ∀ (i : Int32) (R : Nat → Int32), Wp D N l (EI M_Rf_plan) M_Rf_plan (Rm (d + 8) 0 0) (Qm D N K 0 0) 0 0 139 [(9, .int i), (8, .int (nI 0)), (7, .int (nI k)), (5, .long lst), (4, .int (nI h)), (0, .ref (N + 0)), (1, .int (nI s)), (2, .int t), (3, .int (nI n))] [] (encR D N (c) (tput z 0 P) (R) Q ++ rest) := by
    intro i R
    refine wp_iconst (q := 140) d_Rf_plan_139 rfl ic_0 ?_
    refine wp_istore (q := 142) (L2 := [(9, _), (8, _), (7, _), (5, _), (4, _), (0, _), (1, _), (2, _), (3, _)]) d_Rf_plan_140 rfl (by decide) rfl ?_
    exact A1 _
  intro i R
  refine wp_iload (q := 67) d_Rf_plan_65 rfl rfl ?_
  refine wp_iload (q := 69) d_Rf_plan_67 rfl rfl ?_
  refine wp_icmp_ge (q := 72) (tgt := 139) d_Rf_plan_69 (by decide) rfl (fun hc_69 => ?_) (fun hc_69 => ?_)
  · exact A2 _ _
  · refine wp_iload (q := 74) d_Rf_plan_72 rfl rfl ?_
    refine wp_if_eq_t (tgt := 139) d_Rf_plan_74 (by decide) (by decide) ?_
    exact A2 _ _
set_option maxHeartbeats 4000000 in
set_option maxRecDepth 100000 in
theorem pg_Rf_plan {D : xD} {N : Nat} {l : Launch} {d : Nat} {c z : T2} {P Q : Nat → Int32} {rest : List va_E} {K : Option Value → List va_E → Prop} {nb : Nat} (hnb : c 32 1 = nI nb) (h12 : nb ≤ 12) {m : Nat} (hWV : WV c P nb m) (hm : m ≤ 14400) (hT : TI c) (hSE : SE c) (hCI : CI c) {R : Nat → Int32} (hWR : WV c R nb m) {s h n k : Nat} {t : Int32} {lst : Int64} (hmn : m + n ≤ 14400)
  (hn0 : 0 ≤ lg_cmp ((pN c R nb m n 238).toInt64 - (P 238).toInt64) lst → Wp D N l (EI M_Rf_plan) M_Rf_plan (Rm (d + 8) 0 0) (Qm D N K 0 0) 0 0 37 [(7, .int (nI (k + 1))), (5, .long lst), (4, .int (nI h)), (0, .ref (N + 0)), (1, .int (nI s)), (2, .int t), (3, .int (nI n))] [] (encR D N (c) (tput z 0 P) (P) Q ++ rest))
  (hn1 : ¬ 0 ≤ lg_cmp ((pN c R nb m n 238).toInt64 - (P 238).toInt64) lst → Wp D N l (EI M_Rf_plan) M_Rf_plan (Rm (d + 8) 0 0) (Qm D N K 0 0) 0 0 37 [(7, .int (nI (k + 1))), (5, .long ((pN c R nb m n 238).toInt64 - (P 238).toInt64)), (4, .int (nI h)), (0, .ref (N + 0)), (1, .int (nI s)), (2, .int t), (3, .int (nI n))] [] (encR D N (tput c 32 (upd (c 32) 2 (nI k))) (tput z 0 P) (P) Q ++ rest)) : ∀ i : Nat, i ≤ n → Wp D N l (EI M_Rf_plan) M_Rf_plan (Rm (d + 8) 0 0) (Qm D N K 0 0) 0 0 142 [(9, .int (nI i)), (8, .int (nI 1)), (7, .int (nI k)), (5, .long lst), (4, .int (nI h)), (0, .ref (N + 0)), (1, .int (nI s)), (2, .int t), (3, .int (nI n))] [] (encR D N (c) (tput z 0 P) (pN c R nb m i) Q ++ rest) := by
  have hdf : (pN c R nb m n 238 - P 238).toInt64 = ((pN c R nb m n 238).toInt64 - (P 238).toInt64) := hWV.diff (w := 0) (hWR.ps hT hSE h12 n (by omega)) (by omega) (by omega)
  have B : Wp D N l (EI M_Rf_plan) M_Rf_plan (Rm (d + 8) 0 0) (Qm D N K 0 0) 0 0 163 [(9, .int (nI n)), (8, .int (nI 1)), (7, .int (nI k)), (5, .long lst), (4, .int (nI h)), (0, .ref (N + 0)), (1, .int (nI s)), (2, .int t), (3, .int (nI n))] [] (encR D N (c) (tput z 0 P) (pN c R nb m n) Q ++ rest) := by
    by_cases hge : 0 ≤ lg_cmp ((pN c R nb m n 238).toInt64 - (P 238).toInt64) lst
    · skip
      refine wp_aload_n (q := 164) d_Rf_plan_163 rfl rfl ?_
      refine wp_get (q := 167) fl_Rf_7 d_Rf_plan_164 rfl rfl rfl ?_
      refine wp_sipush (q := 170) d_Rf_plan_167 rfl sp_238 ?_
      refine wp_iald (q := 171) d_Rf_plan_170 rfl (rfl) (by omega) (by decide) ?_
      refine wp_aload_n (q := 172) d_Rf_plan_171 rfl rfl ?_
      refine wp_get (q := 175) fl_Rf_13 d_Rf_plan_172 rfl rfl rfl ?_
      refine wp_sipush (q := 178) d_Rf_plan_175 rfl sp_238 ?_
      refine wp_iald (q := 179) d_Rf_plan_178 rfl (rfl) (by omega) (by decide) ?_
      rw [tput_eq]
      refine wp_isub (q := 180) d_Rf_plan_179 rfl ?_
      refine wp_i2l (q := 181) d_Rf_plan_180 rfl ?_
      rw [hdf]
      refine wp_lstore (q := 183) (L2 := [(9, _), (8, _), (7, _), (5, _), (4, _), (0, _), (1, _), (2, _), (3, _)]) d_Rf_plan_181 rfl (by decide) rfl ?_
      refine wp_iload (q := 185) d_Rf_plan_183 rfl rfl ?_
      refine wp_if_eq_f (q := 188) (tgt := 206) d_Rf_plan_185 (by decide) rfl (by decide) ?_
      refine wp_lload (q := 190) d_Rf_plan_188 rfl rfl ?_
      refine wp_lload (q := 192) d_Rf_plan_190 rfl rfl ?_
      refine wp_lcmp (q := 193) d_Rf_plan_192 rfl ?_
      refine wp_if_ge_t (tgt := 206) d_Rf_plan_193 (by decide) (hge) ?_
      refine wp_aload_n (q := 207) d_Rf_plan_206 rfl rfl ?_
      refine wp_iconst (q := 208) d_Rf_plan_207 rfl ic_1 ?_
      refine wp_cv1 (q := 211) lk_Rf_271 (ro _ _ _) d_Rf_plan_208 rfl (Nat.le_of_ble_eq_true rfl) (rfl) rfl (Nat.zero_le _) (Nat.zero_le _) ?_
      refine ok_Rf_lays1 ?_
      rw [tput_eq]
      refine wp_iinc (q := 214) (L2 := [(7, _), (9, _), (8, _), (5, _), (4, _), (0, _), (1, _), (2, _), (3, _)]) d_Rf_plan_211 rfl rfl (iinc_1) (by decide) rfl ?_
      refine wp_goto (tgt := 37) d_Rf_plan_214 (by decide) ?_
      refine wp_sub [0, 3, 4, 5, 6, 7, 8] rfl ?_
      exact hn0 hge
    · skip
      refine wp_aload_n (q := 164) d_Rf_plan_163 rfl rfl ?_
      refine wp_get (q := 167) fl_Rf_7 d_Rf_plan_164 rfl rfl rfl ?_
      refine wp_sipush (q := 170) d_Rf_plan_167 rfl sp_238 ?_
      refine wp_iald (q := 171) d_Rf_plan_170 rfl (rfl) (by omega) (by decide) ?_
      refine wp_aload_n (q := 172) d_Rf_plan_171 rfl rfl ?_
      refine wp_get (q := 175) fl_Rf_13 d_Rf_plan_172 rfl rfl rfl ?_
      refine wp_sipush (q := 178) d_Rf_plan_175 rfl sp_238 ?_
      refine wp_iald (q := 179) d_Rf_plan_178 rfl (rfl) (by omega) (by decide) ?_
      rw [tput_eq]
      refine wp_isub (q := 180) d_Rf_plan_179 rfl ?_
      refine wp_i2l (q := 181) d_Rf_plan_180 rfl ?_
      rw [hdf]
      refine wp_lstore (q := 183) (L2 := [(9, _), (8, _), (7, _), (5, _), (4, _), (0, _), (1, _), (2, _), (3, _)]) d_Rf_plan_181 rfl (by decide) rfl ?_
      refine wp_iload (q := 185) d_Rf_plan_183 rfl rfl ?_
      refine wp_if_eq_f (q := 188) (tgt := 206) d_Rf_plan_185 (by decide) rfl (by decide) ?_
      refine wp_lload (q := 190) d_Rf_plan_188 rfl rfl ?_
      refine wp_lload (q := 192) d_Rf_plan_190 rfl rfl ?_
      refine wp_lcmp (q := 193) d_Rf_plan_192 rfl ?_
      refine wp_if_ge_f (q := 196) (tgt := 206) d_Rf_plan_193 (by decide) rfl (hge) ?_
      refine wp_lload (q := 198) d_Rf_plan_196 rfl rfl ?_
      refine wp_lstore (q := 200) (L2 := [(5, _), (9, _), (8, _), (7, _), (4, _), (0, _), (1, _), (2, _), (3, _)]) d_Rf_plan_198 rfl (by decide) rfl ?_
      refine wp_aload_n (q := 201) d_Rf_plan_200 rfl rfl ?_
      refine wp_iload (q := 203) d_Rf_plan_201 rfl rfl ?_
      refine wp_put (q := 206) fl_Rf_288 d_Rf_plan_203 rfl rfl (Nat.le_of_ble_eq_true rfl) rfl rfl (fr_s2) ?_
      refine wp_aload_n (q := 207) d_Rf_plan_206 rfl rfl ?_
      refine wp_iconst (q := 208) d_Rf_plan_207 rfl ic_1 ?_
      refine wp_cv1 (q := 211) lk_Rf_271 (ro _ _ _) d_Rf_plan_208 rfl (Nat.le_of_ble_eq_true rfl) (rfl) rfl (Nat.zero_le _) (Nat.zero_le _) ?_
      refine ok_Rf_lays1 ?_
      rw [tput_eq]
      refine wp_iinc (q := 214) (L2 := [(7, _), (5, _), (9, _), (8, _), (4, _), (0, _), (1, _), (2, _), (3, _)]) d_Rf_plan_211 rfl rfl (iinc_1) (by decide) rfl ?_
      refine wp_goto (tgt := 37) d_Rf_plan_214 (by decide) ?_
      refine wp_sub [0, 1, 4, 5, 6, 7, 8] rfl ?_
      exact hn1 hge
  refine up_loop ?_ ?_
  · skip
    refine wp_iload (q := 144) d_Rf_plan_142 rfl rfl ?_
    refine wp_iload_n (q := 145) d_Rf_plan_144 rfl rfl ?_
    refine wp_icmp_ge_t (tgt := 163) d_Rf_plan_145 (by decide) (nI_le (Nat.le_refl _) (by omega)) ?_
    exact B
  · intro i hi ih
    refine wp_iload (q := 144) d_Rf_plan_142 rfl rfl ?_
    refine wp_iload_n (q := 145) d_Rf_plan_144 rfl rfl ?_
    refine wp_icmp_ge_f (q := 148) (tgt := 163) d_Rf_plan_145 (by decide) rfl (nI_ge hi (by omega)) ?_
    refine wp_iload (q := 150) d_Rf_plan_148 rfl rfl ?_
    refine wp_if_eq_f (q := 153) (tgt := 163) d_Rf_plan_150 (by decide) rfl (by decide) ?_
    have wk := hWR.ps hT hSE h12 i (by omega)
    refine wp_aload_n (q := 154) d_Rf_plan_153 rfl rfl ?_
    refine wp_cv0 (q := 157) lk_Rf_260 (ro _ _ _) d_Rf_plan_154 rfl (Nat.le_of_ble_eq_true rfl) (rfl) rfl (Nat.zero_le _) (Nat.zero_le _) ?_
    refine ok_Rf_goes hnb h12 (by omega) wk.1 hT hCI wk.cr wk.2.2.1 ?_
    refine wp_iinc (q := 160) (L2 := [(9, _), (8, _), (7, _), (5, _), (4, _), (0, _), (1, _), (2, _), (3, _)]) d_Rf_plan_157 rfl rfl (iinc_1) (by decide) rfl ?_
    refine wp_goto (tgt := 142) d_Rf_plan_160 (by decide) ?_
    exact ih
set_option maxHeartbeats 4000000 in
set_option maxRecDepth 100000 in
theorem pj_Rf_plan {D : xD} {N : Nat} {l : Launch} {d : Nat} {c z : T2} {P Q : Nat → Int32} {rest : List va_E} {K : Option Value → List va_E → Prop} {nb : Nat} (hnb : c 32 1 = nI nb) (h12 : nb ≤ 12) {m : Nat} (hWV : WV c P nb m) (hm : m ≤ 14400) (hT : TI c) (hSE : SE c) (hCI : CI c) {s h n k q : Nat} {t : Int32} {lst : Int64} (hs : s < 4) (ht : tpl c s) (eh : tn (c 30 s) / 2 = h) (hh : h < 6) (hk : k < 2 ^ h) (hp5 : 2 ^ h ≤ 32) (hSt : St P q) (hq : q < 800000000)
  (hgo : ∀ R, qp c P s k h = some R → ∀ i : Nat, i ≤ n → Wp D N l (EI M_Rf_plan) M_Rf_plan (Rm (d + 8) 0 0) (Qm D N K 0 0) 0 0 142 [(9, .int (nI i)), (8, .int (nI 1)), (7, .int (nI k)), (5, .long lst), (4, .int (nI h)), (0, .ref (N + 0)), (1, .int (nI s)), (2, .int t), (3, .int (nI n))] [] (encR D N (c) (tput z 0 P) (pN c R nb m i) Q ++ rest))
  (hbad : ∀ {j : Nat}, j < h → qp c P s k (j + 1) = none → ∀ (i : Int32) (R : Nat → Int32), Wp D N l (EI M_Rf_plan) M_Rf_plan (Rm (d + 8) 0 0) (Qm D N K 0 0) 0 0 65 [(9, .int i), (8, .int (nI 0)), (7, .int (nI k)), (5, .long lst), (4, .int (nI h)), (0, .ref (N + 0)), (1, .int (nI s)), (2, .int t), (3, .int (nI n))] [] (encR D N (c) (tput z 0 P) (R) Q ++ rest)) : ∀ j : Nat, j ≤ h → ∀ R, qp c P s k j = some R → Wp D N l (EI M_Rf_plan) M_Rf_plan (Rm (d + 8) 0 0) (Qm D N K 0 0) 0 0 65 [(9, .int (nI j)), (8, .int (nI 1)), (7, .int (nI k)), (5, .long lst), (4, .int (nI h)), (0, .ref (N + 0)), (1, .int (nI s)), (2, .int t), (3, .int (nI n))] [] (encR D N (c) (tput z 0 P) (R) Q ++ rest) := by
  have hQ := fun j hj => qp_WV (set := k) hWV hSt hq ht hnb h12 hSE eh hk hh j hj
  refine up_loop ?_ ?_
  · intro R hR
    refine wp_iload (q := 67) d_Rf_plan_65 rfl rfl ?_
    refine wp_iload (q := 69) d_Rf_plan_67 rfl rfl ?_
    refine wp_icmp_ge_t (tgt := 139) d_Rf_plan_69 (by decide) (nI_le (Nat.le_refl _) (by omega)) ?_
    refine wp_iconst (q := 140) d_Rf_plan_139 rfl ic_0 ?_
    refine wp_istore (q := 142) (L2 := [(9, _), (8, _), (7, _), (5, _), (4, _), (0, _), (1, _), (2, _), (3, _)]) d_Rf_plan_140 rfl (by decide) rfl ?_
    exact hgo R hR 0 (Nat.zero_le _)
  · intro j hj ih R hR
    obtain ⟨b, tt, hb2, htt, eb, et⟩ := ht.at hnb h12 (k := j) (by rw [eh]; exact hj)
    have etb : tn (c 31 (40 * s + 2 * j)) = b := by rw [eb]; exact tnt (show b < 12 by omega)
    have ett : tn (c 31 (40 * s + (2 * j + 1))) = tt := by rw [et]; exact tnt htt
    obtain ⟨wR, stR, -⟩ := hQ j (by omega) R hR
    obtain ⟨gv, hgv, egv⟩ := (stR.2 tt htt).ex
    have hn3 : ¬ nI gv = -3 := nm3 (by omega)
    refine wp_iload (q := 67) d_Rf_plan_65 rfl rfl ?_
    refine wp_iload (q := 69) d_Rf_plan_67 rfl rfl ?_
    refine wp_icmp_ge_f (q := 72) (tgt := 139) d_Rf_plan_69 (by decide) rfl (nI_ge hj (by omega)) ?_
    refine wp_iload (q := 74) d_Rf_plan_72 rfl rfl ?_
    refine wp_if_eq_f (q := 77) (tgt := 139) d_Rf_plan_74 (by decide) rfl (by decide) ?_
    refine wp_iload (q := 79) d_Rf_plan_77 rfl rfl ?_
    refine wp_iload (q := 81) d_Rf_plan_79 rfl rfl ?_
    refine wp_ishr (q := 82) d_Rf_plan_81 rfl ?_
    refine wp_iconst (q := 83) d_Rf_plan_82 rfl ic_1 ?_
    refine wp_iand (q := 84) d_Rf_plan_83 rfl ?_
    refine wp_if_eq (q := 87) (tgt := 126) d_Rf_plan_84 (by decide) rfl (fun hc_84 => ?_) (fun hc_84 => ?_)
    · have hb := hc_84
      refine wp_iconst (q := 127) d_Rf_plan_126 rfl ic_1 ?_
      refine wp_goto (tgt := 131) d_Rf_plan_127 (by decide) ?_
      refine wp_istore (q := 133) (L2 := [(8, _), (9, _), (7, _), (5, _), (4, _), (0, _), (1, _), (2, _), (3, _)]) d_Rf_plan_131 rfl (by decide) rfl ?_
      refine wp_iinc (q := 136) (L2 := [(9, _), (8, _), (7, _), (5, _), (4, _), (0, _), (1, _), (2, _), (3, _)]) d_Rf_plan_133 rfl rfl (iinc_1) (by decide) rfl ?_
      refine wp_goto (tgt := 65) d_Rf_plan_136 (by decide) ?_
      exact ih R (qp_0 hR hb)
    · have hb := hc_84
      refine wp_aload_n (q := 88) d_Rf_plan_87 rfl rfl ?_
      refine wp_aload_n (q := 89) d_Rf_plan_88 rfl rfl ?_
      refine wp_get (q := 92) fl_Rf_107 d_Rf_plan_89 rfl rfl rfl ?_
      refine wp_bipush (q := 94) d_Rf_plan_92 rfl bp_40 ?_
      refine wp_iload_n (q := 95) d_Rf_plan_94 rfl rfl ?_
      first | refine wp_imulN (q := 96) d_Rf_plan_95 rfl ?_ | refine wp_imul (q := 96) d_Rf_plan_95 rfl ?_
      refine wp_iconst (q := 97) d_Rf_plan_96 rfl ic_2 ?_
      refine wp_iload (q := 99) d_Rf_plan_97 rfl rfl ?_
      first | refine wp_imulN (q := 100) d_Rf_plan_99 rfl ?_ | refine wp_imul (q := 100) d_Rf_plan_99 rfl ?_
      first | refine wp_iaddN (q := 101) d_Rf_plan_100 rfl ?_ | refine wp_iadd (q := 101) d_Rf_plan_100 rfl ?_
      rw [show 40 * s + 2 * j = 40 * s + 2 * j from rfl]
      refine wp_iald (q := 102) d_Rf_plan_101 rfl (rfl) (by omega) (by decide) ?_
      rw [eb]
      refine wp_aload_n (q := 103) d_Rf_plan_102 rfl rfl ?_
      refine wp_get (q := 106) fl_Rf_107 d_Rf_plan_103 rfl rfl rfl ?_
      refine wp_bipush (q := 108) d_Rf_plan_106 rfl bp_40 ?_
      refine wp_iload_n (q := 109) d_Rf_plan_108 rfl rfl ?_
      first | refine wp_imulN (q := 110) d_Rf_plan_109 rfl ?_ | refine wp_imul (q := 110) d_Rf_plan_109 rfl ?_
      refine wp_iconst (q := 111) d_Rf_plan_110 rfl ic_2 ?_
      refine wp_iload (q := 113) d_Rf_plan_111 rfl rfl ?_
      first | refine wp_imulN (q := 114) d_Rf_plan_113 rfl ?_ | refine wp_imul (q := 114) d_Rf_plan_113 rfl ?_
      first | refine wp_iaddN (q := 115) d_Rf_plan_114 rfl ?_ | refine wp_iadd (q := 115) d_Rf_plan_114 rfl ?_
      refine wp_iconst (q := 116) d_Rf_plan_115 rfl ic_1 ?_
      first | refine wp_iaddN (q := 117) d_Rf_plan_116 rfl ?_ | refine wp_iadd (q := 117) d_Rf_plan_116 rfl ?_
      refine wp_iald (q := 118) d_Rf_plan_117 rfl (rfl) (by omega) (by decide) ?_
      rw [show 40 * s + 2 * j + 1 = 40 * s + (2 * j + 1) from rfl, et]
      refine wp_cv2 (q := 121) lk_Rf_285 (ro _ _ _) d_Rf_plan_118 rfl (Nat.le_of_ble_eq_true rfl) (rfl) rfl (Nat.zero_le _) (Nat.zero_le _) ?_
      by_cases hr : R (72 + b) = 0
      · refine ok_Rf_queue hnb h12 ?_
        rw [show sp_queue c R (nI b) (nI tt) = (R (228 + tt), lineP R b tt) by unfold sp_queue; rw [tnt (show b < 12 by omega), tnt htt, if_neg (fun g => g.elim (fun g => g (inb_t hnb h12 hb2)) (fun g => g (inn_t (by omega)))), if_neg (fun g => g hr)]]
        dsimp only [pv]
        rw [egv]
        refine wp_bipush (q := 123) d_Rf_plan_121 rfl bp_m3 ?_
        refine wp_icmp_eq_f (q := 126) (tgt := 130) d_Rf_plan_123 (by decide) rfl (hn3) ?_
        refine wp_iconst (q := 127) d_Rf_plan_126 rfl ic_1 ?_
        refine wp_goto (tgt := 131) d_Rf_plan_127 (by decide) ?_
        refine wp_istore (q := 133) (L2 := [(8, _), (9, _), (7, _), (5, _), (4, _), (0, _), (1, _), (2, _), (3, _)]) d_Rf_plan_131 rfl (by decide) rfl ?_
        refine wp_iinc (q := 136) (L2 := [(9, _), (8, _), (7, _), (5, _), (4, _), (0, _), (1, _), (2, _), (3, _)]) d_Rf_plan_133 rfl rfl (iinc_1) (by decide) rfl ?_
        refine wp_goto (tgt := 65) d_Rf_plan_136 (by decide) ?_
        exact ih _ (by have e := qp_y hR hb (by rw [etb]; exact hr); rw [etb, ett] at e; exact e)
      · refine ok_Rf_queue hnb h12 ?_
        rw [show sp_queue c R (nI b) (nI tt) = (-3, R) by unfold sp_queue; rw [tnt (show b < 12 by omega), tnt htt, if_neg (fun g => g.elim (fun g => g (inb_t hnb h12 hb2)) (fun g => g (inn_t (by omega)))), if_pos hr]]
        dsimp only [pv]
        refine wp_bipush (q := 123) d_Rf_plan_121 rfl bp_m3 ?_
        refine wp_icmp_eq_t (tgt := 130) d_Rf_plan_123 (by decide) (rfl) ?_
        refine wp_iconst (q := 131) d_Rf_plan_130 rfl ic_0 ?_
        refine wp_istore (q := 133) (L2 := [(8, _), (9, _), (7, _), (5, _), (4, _), (0, _), (1, _), (2, _), (3, _)]) d_Rf_plan_131 rfl (by decide) rfl ?_
        refine wp_iinc (q := 136) (L2 := [(9, _), (8, _), (7, _), (5, _), (4, _), (0, _), (1, _), (2, _), (3, _)]) d_Rf_plan_133 rfl rfl (iinc_1) (by decide) rfl ?_
        refine wp_goto (tgt := 65) d_Rf_plan_136 (by decide) ?_
        exact hbad hj (qp_n hR hb (by rw [etb]; exact hr)) _ R
theorem qp_pre {c : T2} {P : Nat → Int32} {s set j : Nat} (k : Nat) (h : ∃ R, qp c P s set (j + k) = some R) : ¬ qp c P s set j = none := fun g => by
  obtain ⟨R, hR⟩ := h
  rw [qp_none g k] at hR
  cases hR
theorem qp_5h {c : T2} {P : Nat → Int32} {s set h : Nat} (hh : h < 6) (hs : set < 2 ^ h) : qp c P s set 5 = qp c P s set h := by
  have := qp_hi (c := c) (P := P) (s := s) hh hs (5 - h) (by omega)
  rw [show h + (5 - h) = 5 by omega] at this
  exact this
theorem qp_no {c : T2} {P R : Nat → Int32} {s set h : Nat} (hR : qp c P s set h = some R) (j : Nat) (hj : j < h) : ¬ qp c P s set (j + 1) = none := qp_pre (h - (j + 1)) ⟨R, by rw [show j + 1 + (h - (j + 1)) = h by omega]; exact hR⟩
set_option maxHeartbeats 4000000 in
set_option maxRecDepth 100000 in
theorem pl_Rf_plan {D : xD} {N : Nat} {l : Launch} {d : Nat} {c z : T2} {P Q : Nat → Int32} {rest : List va_E} {K : Option Value → List va_E → Prop} {nb : Nat} (hnb : c 32 1 = nI nb) (h12 : nb ≤ 12) {m : Nat} (hWV : WV c P nb m) (hm : m ≤ 14400) (hT : TI c) (hSE : SE c) (hCI : CI c) {s n h q : Nat} {t : Int32} (hs : s < 4) (ht : tpl c s) (eh : tn (c 30 s) / 2 = h) (hh : h < 6) (hp5 : 2 ^ h ≤ 32) (hn1 : 0 < n) (hn2 : n ≤ 120) (hmn : m + n ≤ 14400) (hSt : St P q) (hq : q < 800000000) (hK : ∀ z2 : T2, K (some (.long (ovR (plN c P nb m s t n (2 ^ h)).1))) (encR D N (plC c (plN c P nb m s t n (2 ^ h)).2) (tput z2 0 P) P Q ++ rest)) : ∀ k, k ≤ 2 ^ h → ∀ (z : T2), Wp D N l (EI M_Rf_plan) M_Rf_plan (Rm (d + 8) 0 0) (Qm D N K 0 0) 0 0 37 [(7, .int (nI k)), (5, .long (ovR (plN c P nb m s t n k).1)), (4, .int (nI h)), (0, .ref (N + 0)), (1, .int (nI s)), (2, .int t), (3, .int (nI n))] [] (encR D N (plC c (plN c P nb m s t n k).2) (tput z 0 P) P Q ++ rest) := by
  refine up_loop ?_ ?_
  · intro z
    refine wp_iload (q := 39) d_Rf_plan_37 rfl rfl ?_
    refine wp_iconst (q := 40) d_Rf_plan_39 rfl ic_1 ?_
    refine wp_iload (q := 42) d_Rf_plan_40 rfl rfl ?_
    refine wp_ishl (q := 43) d_Rf_plan_42 rfl ?_
    rw [sh_5 h hh]
    refine wp_icmp_ge_t (tgt := 217) d_Rf_plan_43 (by decide) (nI_le (Nat.le_refl _) (by omega)) ?_
    refine wp_lload (q := 219) d_Rf_plan_217 rfl rfl ?_
    refine wp_lret d_Rf_plan_219 rfl (Nat.le_refl _) (Nat.le_refl _) ?_
    exact hK z
  · intro k hk ih z
    by_cases hb : nI (bcN k 6) ≤ t
    · cases hv : plV (plC c (plN c P nb m s t n k).2) P nb m s n k with
      | none =>
        have hn : qp (plC c (plN c P nb m s t n k).2) P s k h = none := by
          unfold plV at hv
          rw [qp_5h hh hk] at hv
          cases hqp : qp (plC c (plN c P nb m s t n k).2) P s k h with
          | none => rfl
          | some R => rw [hqp] at hv; cases hv
        refine wp_iload (q := 39) d_Rf_plan_37 rfl rfl ?_
        refine wp_iconst (q := 40) d_Rf_plan_39 rfl ic_1 ?_
        refine wp_iload (q := 42) d_Rf_plan_40 rfl rfl ?_
        refine wp_ishl (q := 43) d_Rf_plan_42 rfl ?_
        rw [sh_5 h hh]
        refine wp_icmp_ge_f (q := 46) (tgt := 217) d_Rf_plan_43 (by decide) rfl (nI_ge hk (by omega)) ?_
        refine wp_iload (q := 48) d_Rf_plan_46 rfl rfl ?_
        refine wp_cs1 (q := 51) lk_Rf_282 (ro _ _ _) d_Rf_plan_48 rfl (Nat.le_of_ble_eq_true rfl) (Nat.zero_le _) (Nat.zero_le _) ?_
        refine ok_Rf_many (by omega) ?_
        refine wp_iload_n (q := 52) d_Rf_plan_51 rfl rfl ?_
        refine wp_icmp_gt_f (q := 55) (tgt := 59) d_Rf_plan_52 (by decide) rfl (le_nlt hb) ?_
        refine wp_iconst (q := 56) d_Rf_plan_55 rfl ic_1 ?_
        refine wp_goto (tgt := 60) d_Rf_plan_56 (by decide) ?_
        refine wp_istore (q := 62) (L2 := [(8, _), (7, _), (5, _), (4, _), (0, _), (1, _), (2, _), (3, _)]) d_Rf_plan_60 rfl (by decide) rfl ?_
        refine wp_iconst (q := 63) d_Rf_plan_62 rfl ic_0 ?_
        refine wp_istore (q := 65) (L2 := [(9, _), (8, _), (7, _), (5, _), (4, _), (0, _), (1, _), (2, _), (3, _)]) d_Rf_plan_63 rfl (by decide) rfl ?_
        exact pj_Rf_plan (c := (plC c (plN c P nb m s t n k).2)) hnb h12 hWV hm hT hSE hCI hs ht eh hh hk hp5 hSt hq (fun R hR => absurd hR (by rw [hn]; exact fun g => nomatch g)) (fun _ _ => pb_Rf_plan (c := (plC c (plN c P nb m s t n k).2)) hn1 hn2 (by rw [pl_b hb hv] at ih; exact ih z)) 0 (Nat.zero_le _) P rfl
      | some v =>
        have hv0 := hv
        obtain ⟨R, hR, ev2⟩ : ∃ R, qp (plC c (plN c P nb m s t n k).2) P s k h = some R ∧ v = (pN (plC c (plN c P nb m s t n k).2) R nb m n 238).toInt64 - (P 238).toInt64 := by
          unfold plV at hv
          rw [qp_5h hh hk] at hv
          cases hqp : qp (plC c (plN c P nb m s t n k).2) P s k h with
          | none => rw [hqp] at hv; cases hv
          | some R => rw [hqp] at hv; exact ⟨R, rfl, (Option.some.inj hv).symm⟩
        have hbadno := qp_no hR
        have wR : WV (plC c (plN c P nb m s t n k).2) R nb m := (qp_WV (c := (plC c (plN c P nb m s t n k).2)) (set := k) hWV hSt hq ht hnb h12 hSE eh hk hh h (by omega) R hR).1
        obtain ⟨a, ha, ev⟩ := plV_some (c := (plC c (plN c P nb m s t n k).2)) hWV hSt hq ht hnb h12 hT hSE eh (show k < 2 ^ h by omega) hmn hv
        rw [ev2] at hv ev
        cases hw : (plN c P nb m s t n k).1 with
        | none =>
          refine wp_iload (q := 39) d_Rf_plan_37 rfl rfl ?_
          refine wp_iconst (q := 40) d_Rf_plan_39 rfl ic_1 ?_
          refine wp_iload (q := 42) d_Rf_plan_40 rfl rfl ?_
          refine wp_ishl (q := 43) d_Rf_plan_42 rfl ?_
          rw [sh_5 h hh]
          refine wp_icmp_ge_f (q := 46) (tgt := 217) d_Rf_plan_43 (by decide) rfl (nI_ge hk (by omega)) ?_
          refine wp_iload (q := 48) d_Rf_plan_46 rfl rfl ?_
          refine wp_cs1 (q := 51) lk_Rf_282 (ro _ _ _) d_Rf_plan_48 rfl (Nat.le_of_ble_eq_true rfl) (Nat.zero_le _) (Nat.zero_le _) ?_
          refine ok_Rf_many (by omega) ?_
          refine wp_iload_n (q := 52) d_Rf_plan_51 rfl rfl ?_
          refine wp_icmp_gt_f (q := 55) (tgt := 59) d_Rf_plan_52 (by decide) rfl (le_nlt hb) ?_
          refine wp_iconst (q := 56) d_Rf_plan_55 rfl ic_1 ?_
          refine wp_goto (tgt := 60) d_Rf_plan_56 (by decide) ?_
          refine wp_istore (q := 62) (L2 := [(8, _), (7, _), (5, _), (4, _), (0, _), (1, _), (2, _), (3, _)]) d_Rf_plan_60 rfl (by decide) rfl ?_
          refine wp_iconst (q := 63) d_Rf_plan_62 rfl ic_0 ?_
          refine wp_istore (q := 65) (L2 := [(9, _), (8, _), (7, _), (5, _), (4, _), (0, _), (1, _), (2, _), (3, _)]) d_Rf_plan_63 rfl (by decide) rfl ?_
          refine pj_Rf_plan (c := (plC c (plN c P nb m s t n k).2)) hnb h12 hWV hm hT hSE hCI hs ht eh hh hk hp5 hSt hq (fun R2 hR2 => ?_) (fun {j} hj g => absurd g (hbadno j hj)) 0 (Nat.zero_le _) P rfl
          have e2 : R2 = R := Option.some.inj (hR2.symm.trans hR)
          subst e2
          exact pg_Rf_plan (c := (plC c (plN c P nb m s t n k).2)) hnb h12 hWV hm hT hSE hCI wR hmn (fun g => absurd g (by rw [ev]; exact i64_m ha)) (fun _ => by rw [pl_c hb hv hw] at ih; rw [plC_2]; exact ih z)
        | some u =>
          refine wp_iload (q := 39) d_Rf_plan_37 rfl rfl ?_
          refine wp_iconst (q := 40) d_Rf_plan_39 rfl ic_1 ?_
          refine wp_iload (q := 42) d_Rf_plan_40 rfl rfl ?_
          refine wp_ishl (q := 43) d_Rf_plan_42 rfl ?_
          rw [sh_5 h hh]
          refine wp_icmp_ge_f (q := 46) (tgt := 217) d_Rf_plan_43 (by decide) rfl (nI_ge hk (by omega)) ?_
          refine wp_iload (q := 48) d_Rf_plan_46 rfl rfl ?_
          refine wp_cs1 (q := 51) lk_Rf_282 (ro _ _ _) d_Rf_plan_48 rfl (Nat.le_of_ble_eq_true rfl) (Nat.zero_le _) (Nat.zero_le _) ?_
          refine ok_Rf_many (by omega) ?_
          refine wp_iload_n (q := 52) d_Rf_plan_51 rfl rfl ?_
          refine wp_icmp_gt_f (q := 55) (tgt := 59) d_Rf_plan_52 (by decide) rfl (le_nlt hb) ?_
          refine wp_iconst (q := 56) d_Rf_plan_55 rfl ic_1 ?_
          refine wp_goto (tgt := 60) d_Rf_plan_56 (by decide) ?_
          refine wp_istore (q := 62) (L2 := [(8, _), (7, _), (5, _), (4, _), (0, _), (1, _), (2, _), (3, _)]) d_Rf_plan_60 rfl (by decide) rfl ?_
          refine wp_iconst (q := 63) d_Rf_plan_62 rfl ic_0 ?_
          refine wp_istore (q := 65) (L2 := [(9, _), (8, _), (7, _), (5, _), (4, _), (0, _), (1, _), (2, _), (3, _)]) d_Rf_plan_63 rfl (by decide) rfl ?_
          refine pj_Rf_plan (c := (plC c (plN c P nb m s t n k).2)) hnb h12 hWV hm hT hSE hCI hs ht eh hh hk hp5 hSt hq (fun R2 hR2 => ?_) (fun {j} hj g => absurd g (hbadno j hj)) 0 (Nat.zero_le _) P rfl
          have e2 : R2 = R := Option.some.inj (hR2.symm.trans hR)
          subst e2
          exact pg_Rf_plan (c := (plC c (plN c P nb m s t n k).2)) hnb h12 hWV hm hT hSE hCI wR hmn (fun g => by rw [pl_e hb hv hw (nlt64 ((lg_cmp_ge _ _).mp g))] at ih; rw [hw] at ih; exact ih z) (fun g => by rw [pl_d hb hv hw (nle64 (fun g2 => g ((lg_cmp_ge _ _).mpr g2)))] at ih; rw [plC_2]; exact ih z)
    · skip
      refine wp_iload (q := 39) d_Rf_plan_37 rfl rfl ?_
      refine wp_iconst (q := 40) d_Rf_plan_39 rfl ic_1 ?_
      refine wp_iload (q := 42) d_Rf_plan_40 rfl rfl ?_
      refine wp_ishl (q := 43) d_Rf_plan_42 rfl ?_
      rw [sh_5 h hh]
      refine wp_icmp_ge_f (q := 46) (tgt := 217) d_Rf_plan_43 (by decide) rfl (nI_ge hk (by omega)) ?_
      refine wp_iload (q := 48) d_Rf_plan_46 rfl rfl ?_
      refine wp_cs1 (q := 51) lk_Rf_282 (ro _ _ _) d_Rf_plan_48 rfl (Nat.le_of_ble_eq_true rfl) (Nat.zero_le _) (Nat.zero_le _) ?_
      refine ok_Rf_many (by omega) ?_
      refine wp_iload_n (q := 52) d_Rf_plan_51 rfl rfl ?_
      refine wp_icmp_gt_t (tgt := 59) d_Rf_plan_52 (by decide) (nle_lt hb) ?_
      refine wp_iconst (q := 60) d_Rf_plan_59 rfl ic_0 ?_
      refine wp_istore (q := 62) (L2 := [(8, _), (7, _), (5, _), (4, _), (0, _), (1, _), (2, _), (3, _)]) d_Rf_plan_60 rfl (by decide) rfl ?_
      refine wp_iconst (q := 63) d_Rf_plan_62 rfl ic_0 ?_
      refine wp_istore (q := 65) (L2 := [(9, _), (8, _), (7, _), (5, _), (4, _), (0, _), (1, _), (2, _), (3, _)]) d_Rf_plan_63 rfl (by decide) rfl ?_
      exact pb_Rf_plan (c := (plC c (plN c P nb m s t n k).2)) hn1 hn2 (by rw [pl_a hb] at ih; exact ih z) _ P
set_option maxHeartbeats 4000000 in
set_option maxRecDepth 100000 in
theorem ok_Rf_plan {D : xD} {N : Nat} {l : Launch} {d : Nat} {c z : T2} {P Q : Nat → Int32} {rest : List va_E} {K : Option Value → List va_E → Prop} {s t n : Int32} {nb : Nat} (hnb : c 32 1 = nI nb) (h12 : nb ≤ 12) {m : Nat} (hWV : WV c P nb m) (hm : m ≤ 14400) (hT : TI c) (hSE : SE c) (hCI : CI c) (hSZ : ∀ s, s < 4 → isN (c 30 s) 41) {q : Nat} (hSt : St P q) (hq : q < 800000000) (hK : ∀ z2 : T2, K (some (.long (sp_plan c P nb m s t n).1)) (encR D N (sp_plan c P nb m s t n).2 z2 P Q ++ rest)) : Ok D N l (d + 8) M_Rf_plan [.ref (N + 0), .int s, .int t, .int n] (encR D N c z P Q ++ rest) 0 0 K := by
  refine ok_of (L := [(0, _), (1, _), (2, _), (3, _)]) (by decide) (Nat.le_of_ble_eq_true rfl) rfl ?_
  refine wp_aload_n (q := 1) d_Rf_plan_0 rfl rfl ?_
  refine wp_iload_n (q := 2) d_Rf_plan_1 rfl rfl ?_
  refine wp_iload_n (q := 3) d_Rf_plan_2 rfl rfl ?_
  refine wp_iload_n (q := 4) d_Rf_plan_3 rfl rfl ?_
  refine wp_cv3 (q := 7) lk_Rf_277 (ro _ _ _) d_Rf_plan_4 rfl (Nat.le_of_ble_eq_true rfl) (rfl) rfl (Nat.zero_le _) (Nat.zero_le _) ?_
  refine ok_Rf_isPlan hnb h12 hSZ hWV.1.1 (fun hgo => ?_) (fun hgo => ?_)
  · obtain ⟨s1, hs1, rfl⟩ := nI_btw (by decide) hgo.1.1 hgo.1.2
    obtain ⟨sz, hsz, es⟩ := (hSZ s1 (by omega)).ex
    refine wp_if_ne_t (tgt := 14) d_Rf_plan_7 (by decide) (by decide) ?_
    refine wp_aload_n (q := 15) d_Rf_plan_14 rfl rfl ?_
    refine wp_get (q := 18) fl_Rf_104 d_Rf_plan_15 rfl rfl rfl ?_
    refine wp_iload_n (q := 19) d_Rf_plan_18 rfl rfl ?_
    refine wp_iald (q := 20) d_Rf_plan_19 rfl (rfl) (by omega) (by decide) ?_
    rw [es]
    refine wp_iconst (q := 21) d_Rf_plan_20 rfl ic_2 ?_
    refine wp_idivN (q := 22) d_Rf_plan_21 rfl (by omega) (by decide) (by decide) ?_
    refine wp_istore (q := 24) (L2 := [(4, _), (0, _), (1, _), (2, _), (3, _)]) d_Rf_plan_22 rfl (by decide) rfl ?_
    refine wp_aload_n (q := 25) d_Rf_plan_24 rfl rfl ?_
    refine wp_iconst (q := 26) d_Rf_plan_25 rfl ic_0 ?_
    refine wp_cv1 (q := 29) lk_Rf_271 (ro _ _ _) d_Rf_plan_26 rfl (Nat.le_of_ble_eq_true rfl) (rfl) rfl (Nat.zero_le _) (Nat.zero_le _) ?_
    refine ok_Rf_lays0 ?_
    refine wp_ldc2 (q := 32) d_Rf_plan_29 rfl kl_Rf_280 ?_
    refine wp_lstore (q := 34) (L2 := [(5, _), (4, _), (0, _), (1, _), (2, _), (3, _)]) d_Rf_plan_32 rfl (by decide) rfl ?_
    refine wp_iconst (q := 35) d_Rf_plan_34 rfl ic_0 ?_
    refine wp_istore (q := 37) (L2 := [(7, _), (5, _), (4, _), (0, _), (1, _), (2, _), (3, _)]) d_Rf_plan_35 rfl (by decide) rfl ?_
    obtain ⟨n1, hn1, hn2, rfl⟩ := nI_btw1 (by decide) hgo.2.2.1.1 hgo.2.2.1.2
    have hg : tpl c s1 := by have := hgo.2.2.2.2; rw [tnl hs1] at this; exact this
    have hmn : m + n1 ≤ 14400 := by
      have h := hgo.2.2.2.1
      rw [nI_add] at h
      exact (nI_leI (by omega) (by decide)).mp h
    have h10 := ((tpl.sz es hsz).mp hg).2.2.1
    have eh : tn (c 30 s1) / 2 = sz / 2 := by rw [es, tnt hsz]
    have hp5 : 2 ^ (sz / 2) ≤ 32 := Nat.pow_le_pow_right (by decide) (show sz / 2 ≤ 5 by omega)
    have hpp : 0 < 2 ^ (sz / 2) := Nat.pow_pos (by decide)
    have h0 := pl_Rf_plan (l := l) (d := d) (z := z) (Q := Q) (rest := rest) (K := K) hnb h12 hWV hm hT hSE hCI (n := n1) (t := t) (show s1 < 4 by omega) hg eh (by omega) hp5 (by omega) hn2 hmn hSt hq (fun z2 => by
      have h := hK (tput z2 0 P)
      rw [spp_y hgo, tnl hs1, tnl hn2, eh] at h
      obtain ⟨v, hv⟩ := pl_is (c := c) (P := P) (nb := nb) (m := m) (s := s1) (n := n1) (t := t) hgo.2.1.1 (2 ^ (sz / 2) - 1)
      rw [show 2 ^ (sz / 2) - 1 + 1 = 2 ^ (sz / 2) by omega] at hv
      rw [hv] at h ⊢
      exact h) 0 (Nat.zero_le _) z
    simp only [plN, plC_0, ovR] at h0
    exact h0
  · refine wp_if_ne_f (q := 10) (tgt := 14) d_Rf_plan_7 (by decide) rfl (by decide) ?_
    refine wp_ldc2 (q := 13) d_Rf_plan_10 rfl kl_Rf_275 ?_
    refine wp_lret d_Rf_plan_13 rfl (Nat.le_refl _) (Nat.le_refl _) ?_
    have h := hK z
    rw [spp_n hgo] at h
    exact h
