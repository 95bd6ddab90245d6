theorem upd_id {f : Nat → Int32} {k : Nat} {v : Int32} (h : f k = v) : upd f k v = f := by
  funext i; simp only [upd]; split
  · rename_i e; rw [e, h]
  · rfl
def arr (P : Nat → Int32) (b kd s a : Nat) : Nat → Int32 := lineP (upd (upd P 236 (P 236 + (if kd = 1 then P (120 + b) / nI 2 else nI 0))) 237 (P 237 + (P (120 + b) - (if kd = 1 then P (120 + b) / nI 2 else nI 0)))) b (if kd = 1 then s else a)
def mv1 (P : Nat → Int32) (b kd s a : Nat) : Nat → Int32 := if P (72 + b) = nI 4 then (if P 234 < P (144 + b) then P else upd P (72 + b) (nI 3)) else if P (72 + b) = nI 3 then (if P (132 + b) - nI 1 = 0 then arr (upd P (132 + b) (P (132 + b) - nI 1)) b kd s a else upd P (132 + b) (P (132 + b) - nI 1)) else P
theorem d_Rf_goesBus_0 : decode M_Rf_goesBus.2.1 0 = .ok (.aload_n 0, 1) := by decide +kernel
theorem d_Rf_goesBus_1 : decode M_Rf_goesBus.2.1 1 = .ok (.getfield 7, 3) := by decide +kernel
theorem d_Rf_goesBus_4 : decode M_Rf_goesBus.2.1 4 = .ok (.bipush 72, 2) := by decide +kernel
theorem d_Rf_goesBus_6 : decode M_Rf_goesBus.2.1 6 = .ok (.iload_n 1, 1) := by decide +kernel
theorem d_Rf_goesBus_7 : decode M_Rf_goesBus.2.1 7 = .ok (.iadd, 1) := by decide +kernel
theorem d_Rf_goesBus_8 : decode M_Rf_goesBus.2.1 8 = .ok (.iaload, 1) := by decide +kernel
theorem d_Rf_goesBus_9 : decode M_Rf_goesBus.2.1 9 = .ok (.iconst 4, 1) := by decide +kernel
theorem d_Rf_goesBus_10 : decode M_Rf_goesBus.2.1 10 = .ok (.if_icmp .ne 41, 3) := by decide +kernel
theorem d_Rf_goesBus_13 : decode M_Rf_goesBus.2.1 13 = .ok (.aload_n 0, 1) := by decide +kernel
theorem d_Rf_goesBus_14 : decode M_Rf_goesBus.2.1 14 = .ok (.getfield 7, 3) := by decide +kernel
theorem d_Rf_goesBus_17 : decode M_Rf_goesBus.2.1 17 = .ok (.bipush 72, 2) := by decide +kernel
theorem d_Rf_goesBus_19 : decode M_Rf_goesBus.2.1 19 = .ok (.iload_n 1, 1) := by decide +kernel
theorem d_Rf_goesBus_20 : decode M_Rf_goesBus.2.1 20 = .ok (.iadd, 1) := by decide +kernel
theorem d_Rf_goesBus_21 : decode M_Rf_goesBus.2.1 21 = .ok (.aload_n 0, 1) := by decide +kernel
theorem d_Rf_goesBus_22 : decode M_Rf_goesBus.2.1 22 = .ok (.getfield 7, 3) := by decide +kernel
theorem d_Rf_goesBus_25 : decode M_Rf_goesBus.2.1 25 = .ok (.sipush 234, 3) := by decide +kernel
theorem d_Rf_goesBus_28 : decode M_Rf_goesBus.2.1 28 = .ok (.iaload, 1) := by decide +kernel
theorem d_Rf_goesBus_29 : decode M_Rf_goesBus.2.1 29 = .ok (.aload_n 0, 1) := by decide +kernel
theorem d_Rf_goesBus_30 : decode M_Rf_goesBus.2.1 30 = .ok (.getfield 7, 3) := by decide +kernel
theorem d_Rf_goesBus_33 : decode M_Rf_goesBus.2.1 33 = .ok (.sipush 144, 3) := by decide +kernel
theorem d_Rf_goesBus_36 : decode M_Rf_goesBus.2.1 36 = .ok (.iload_n 1, 1) := by decide +kernel
theorem d_Rf_goesBus_37 : decode M_Rf_goesBus.2.1 37 = .ok (.iadd, 1) := by decide +kernel
theorem d_Rf_goesBus_38 : decode M_Rf_goesBus.2.1 38 = .ok (.iaload, 1) := by decide +kernel
theorem d_Rf_goesBus_39 : decode M_Rf_goesBus.2.1 39 = .ok (.if_icmp .lt 7, 3) := by decide +kernel
theorem d_Rf_goesBus_42 : decode M_Rf_goesBus.2.1 42 = .ok (.iconst 3, 1) := by decide +kernel
theorem d_Rf_goesBus_43 : decode M_Rf_goesBus.2.1 43 = .ok (.goto 4, 3) := by decide +kernel
theorem d_Rf_goesBus_46 : decode M_Rf_goesBus.2.1 46 = .ok (.iconst 4, 1) := by decide +kernel
theorem d_Rf_goesBus_47 : decode M_Rf_goesBus.2.1 47 = .ok (.iastore, 1) := by decide +kernel
theorem d_Rf_goesBus_48 : decode M_Rf_goesBus.2.1 48 = .ok (.goto 147, 3) := by decide +kernel
theorem d_Rf_goesBus_51 : decode M_Rf_goesBus.2.1 51 = .ok (.aload_n 0, 1) := by decide +kernel
theorem d_Rf_goesBus_52 : decode M_Rf_goesBus.2.1 52 = .ok (.getfield 7, 3) := by decide +kernel
theorem d_Rf_goesBus_55 : decode M_Rf_goesBus.2.1 55 = .ok (.bipush 72, 2) := by decide +kernel
theorem d_Rf_goesBus_57 : decode M_Rf_goesBus.2.1 57 = .ok (.iload_n 1, 1) := by decide +kernel
theorem d_Rf_goesBus_58 : decode M_Rf_goesBus.2.1 58 = .ok (.iadd, 1) := by decide +kernel
theorem d_Rf_goesBus_59 : decode M_Rf_goesBus.2.1 59 = .ok (.iaload, 1) := by decide +kernel
theorem d_Rf_goesBus_60 : decode M_Rf_goesBus.2.1 60 = .ok (.iconst 3, 1) := by decide +kernel
theorem d_Rf_goesBus_61 : decode M_Rf_goesBus.2.1 61 = .ok (.if_icmp .ne 134, 3) := by decide +kernel
theorem d_Rf_goesBus_64 : decode M_Rf_goesBus.2.1 64 = .ok (.aload_n 0, 1) := by decide +kernel
theorem d_Rf_goesBus_65 : decode M_Rf_goesBus.2.1 65 = .ok (.getfield 7, 3) := by decide +kernel
theorem d_Rf_goesBus_68 : decode M_Rf_goesBus.2.1 68 = .ok (.sipush 132, 3) := by decide +kernel
theorem d_Rf_goesBus_71 : decode M_Rf_goesBus.2.1 71 = .ok (.iload_n 1, 1) := by decide +kernel
theorem d_Rf_goesBus_72 : decode M_Rf_goesBus.2.1 72 = .ok (.iadd, 1) := by decide +kernel
theorem d_Rf_goesBus_73 : decode M_Rf_goesBus.2.1 73 = .ok (.dup2, 1) := by decide +kernel
theorem d_Rf_goesBus_74 : decode M_Rf_goesBus.2.1 74 = .ok (.iaload, 1) := by decide +kernel
theorem d_Rf_goesBus_75 : decode M_Rf_goesBus.2.1 75 = .ok (.iconst 1, 1) := by decide +kernel
theorem d_Rf_goesBus_76 : decode M_Rf_goesBus.2.1 76 = .ok (.isub, 1) := by decide +kernel
theorem d_Rf_goesBus_77 : decode M_Rf_goesBus.2.1 77 = .ok (.iastore, 1) := by decide +kernel
theorem d_Rf_goesBus_78 : decode M_Rf_goesBus.2.1 78 = .ok (.aload_n 0, 1) := by decide +kernel
theorem d_Rf_goesBus_79 : decode M_Rf_goesBus.2.1 79 = .ok (.getfield 7, 3) := by decide +kernel
theorem d_Rf_goesBus_82 : decode M_Rf_goesBus.2.1 82 = .ok (.sipush 132, 3) := by decide +kernel
theorem d_Rf_goesBus_85 : decode M_Rf_goesBus.2.1 85 = .ok (.iload_n 1, 1) := by decide +kernel
theorem d_Rf_goesBus_86 : decode M_Rf_goesBus.2.1 86 = .ok (.iadd, 1) := by decide +kernel
theorem d_Rf_goesBus_87 : decode M_Rf_goesBus.2.1 87 = .ok (.iaload, 1) := by decide +kernel
theorem d_Rf_goesBus_88 : decode M_Rf_goesBus.2.1 88 = .ok (.ifCond .ne 107, 3) := by decide +kernel
theorem d_Rf_goesBus_91 : decode M_Rf_goesBus.2.1 91 = .ok (.aload_n 0, 1) := by decide +kernel
theorem d_Rf_goesBus_92 : decode M_Rf_goesBus.2.1 92 = .ok (.getfield 7, 3) := by decide +kernel
theorem d_Rf_goesBus_95 : decode M_Rf_goesBus.2.1 95 = .ok (.sipush 156, 3) := by decide +kernel
theorem d_Rf_goesBus_98 : decode M_Rf_goesBus.2.1 98 = .ok (.iload_n 1, 1) := by decide +kernel
theorem d_Rf_goesBus_99 : decode M_Rf_goesBus.2.1 99 = .ok (.iadd, 1) := by decide +kernel
theorem d_Rf_goesBus_100 : decode M_Rf_goesBus.2.1 100 = .ok (.iaload, 1) := by decide +kernel
theorem d_Rf_goesBus_101 : decode M_Rf_goesBus.2.1 101 = .ok (.iconst 1, 1) := by decide +kernel
theorem d_Rf_goesBus_102 : decode M_Rf_goesBus.2.1 102 = .ok (.if_icmp .ne 17, 3) := by decide +kernel
theorem d_Rf_goesBus_105 : decode M_Rf_goesBus.2.1 105 = .ok (.aload_n 0, 1) := by decide +kernel
theorem d_Rf_goesBus_106 : decode M_Rf_goesBus.2.1 106 = .ok (.getfield 7, 3) := by decide +kernel
theorem d_Rf_goesBus_109 : decode M_Rf_goesBus.2.1 109 = .ok (.bipush 120, 2) := by decide +kernel
theorem d_Rf_goesBus_111 : decode M_Rf_goesBus.2.1 111 = .ok (.iload_n 1, 1) := by decide +kernel
theorem d_Rf_goesBus_112 : decode M_Rf_goesBus.2.1 112 = .ok (.iadd, 1) := by decide +kernel
theorem d_Rf_goesBus_113 : decode M_Rf_goesBus.2.1 113 = .ok (.iaload, 1) := by decide +kernel
theorem d_Rf_goesBus_114 : decode M_Rf_goesBus.2.1 114 = .ok (.iconst 2, 1) := by decide +kernel
theorem d_Rf_goesBus_115 : decode M_Rf_goesBus.2.1 115 = .ok (.idiv, 1) := by decide +kernel
theorem d_Rf_goesBus_116 : decode M_Rf_goesBus.2.1 116 = .ok (.goto 4, 3) := by decide +kernel
theorem d_Rf_goesBus_119 : decode M_Rf_goesBus.2.1 119 = .ok (.iconst 0, 1) := by decide +kernel
theorem d_Rf_goesBus_120 : decode M_Rf_goesBus.2.1 120 = .ok (.istore_n 2, 1) := by decide +kernel
theorem d_Rf_goesBus_121 : decode M_Rf_goesBus.2.1 121 = .ok (.aload_n 0, 1) := by decide +kernel
theorem d_Rf_goesBus_122 : decode M_Rf_goesBus.2.1 122 = .ok (.getfield 7, 3) := by decide +kernel
theorem d_Rf_goesBus_125 : decode M_Rf_goesBus.2.1 125 = .ok (.sipush 236, 3) := by decide +kernel
theorem d_Rf_goesBus_128 : decode M_Rf_goesBus.2.1 128 = .ok (.dup2, 1) := by decide +kernel
theorem d_Rf_goesBus_129 : decode M_Rf_goesBus.2.1 129 = .ok (.iaload, 1) := by decide +kernel
theorem d_Rf_goesBus_130 : decode M_Rf_goesBus.2.1 130 = .ok (.iload_n 2, 1) := by decide +kernel
theorem d_Rf_goesBus_131 : decode M_Rf_goesBus.2.1 131 = .ok (.iadd, 1) := by decide +kernel
theorem d_Rf_goesBus_132 : decode M_Rf_goesBus.2.1 132 = .ok (.iastore, 1) := by decide +kernel
theorem d_Rf_goesBus_133 : decode M_Rf_goesBus.2.1 133 = .ok (.aload_n 0, 1) := by decide +kernel
theorem d_Rf_goesBus_134 : decode M_Rf_goesBus.2.1 134 = .ok (.getfield 7, 3) := by decide +kernel
theorem d_Rf_goesBus_137 : decode M_Rf_goesBus.2.1 137 = .ok (.sipush 237, 3) := by decide +kernel
theorem d_Rf_goesBus_140 : decode M_Rf_goesBus.2.1 140 = .ok (.dup2, 1) := by decide +kernel
theorem d_Rf_goesBus_141 : decode M_Rf_goesBus.2.1 141 = .ok (.iaload, 1) := by decide +kernel
theorem d_Rf_goesBus_142 : decode M_Rf_goesBus.2.1 142 = .ok (.aload_n 0, 1) := by decide +kernel
theorem d_Rf_goesBus_143 : decode M_Rf_goesBus.2.1 143 = .ok (.getfield 7, 3) := by decide +kernel
theorem d_Rf_goesBus_146 : decode M_Rf_goesBus.2.1 146 = .ok (.bipush 120, 2) := by decide +kernel
theorem d_Rf_goesBus_148 : decode M_Rf_goesBus.2.1 148 = .ok (.iload_n 1, 1) := by decide +kernel
theorem d_Rf_goesBus_149 : decode M_Rf_goesBus.2.1 149 = .ok (.iadd, 1) := by decide +kernel
theorem d_Rf_goesBus_150 : decode M_Rf_goesBus.2.1 150 = .ok (.iaload, 1) := by decide +kernel
theorem d_Rf_goesBus_151 : decode M_Rf_goesBus.2.1 151 = .ok (.iload_n 2, 1) := by decide +kernel
theorem d_Rf_goesBus_152 : decode M_Rf_goesBus.2.1 152 = .ok (.isub, 1) := by decide +kernel
theorem d_Rf_goesBus_153 : decode M_Rf_goesBus.2.1 153 = .ok (.iadd, 1) := by decide +kernel
theorem d_Rf_goesBus_154 : decode M_Rf_goesBus.2.1 154 = .ok (.iastore, 1) := by decide +kernel
theorem d_Rf_goesBus_155 : decode M_Rf_goesBus.2.1 155 = .ok (.aload_n 0, 1) := by decide +kernel
theorem d_Rf_goesBus_156 : decode M_Rf_goesBus.2.1 156 = .ok (.iload_n 1, 1) := by decide +kernel
theorem d_Rf_goesBus_157 : decode M_Rf_goesBus.2.1 157 = .ok (.aload_n 0, 1) := by decide +kernel
theorem d_Rf_goesBus_158 : decode M_Rf_goesBus.2.1 158 = .ok (.getfield 7, 3) := by decide +kernel
theorem d_Rf_goesBus_161 : decode M_Rf_goesBus.2.1 161 = .ok (.sipush 156, 3) := by decide +kernel
theorem d_Rf_goesBus_164 : decode M_Rf_goesBus.2.1 164 = .ok (.iload_n 1, 1) := by decide +kernel
theorem d_Rf_goesBus_165 : decode M_Rf_goesBus.2.1 165 = .ok (.iadd, 1) := by decide +kernel
theorem d_Rf_goesBus_166 : decode M_Rf_goesBus.2.1 166 = .ok (.iaload, 1) := by decide +kernel
theorem d_Rf_goesBus_167 : decode M_Rf_goesBus.2.1 167 = .ok (.iconst 1, 1) := by decide +kernel
theorem d_Rf_goesBus_168 : decode M_Rf_goesBus.2.1 168 = .ok (.if_icmp .ne 15, 3) := by decide +kernel
theorem d_Rf_goesBus_171 : decode M_Rf_goesBus.2.1 171 = .ok (.aload_n 0, 1) := by decide +kernel
theorem d_Rf_goesBus_172 : decode M_Rf_goesBus.2.1 172 = .ok (.getfield 7, 3) := by decide +kernel
theorem d_Rf_goesBus_175 : decode M_Rf_goesBus.2.1 175 = .ok (.bipush 84, 2) := by decide +kernel
theorem d_Rf_goesBus_177 : decode M_Rf_goesBus.2.1 177 = .ok (.iload_n 1, 1) := by decide +kernel
theorem d_Rf_goesBus_178 : decode M_Rf_goesBus.2.1 178 = .ok (.iadd, 1) := by decide +kernel
theorem d_Rf_goesBus_179 : decode M_Rf_goesBus.2.1 179 = .ok (.iaload, 1) := by decide +kernel
theorem d_Rf_goesBus_180 : decode M_Rf_goesBus.2.1 180 = .ok (.goto 12, 3) := by decide +kernel
theorem d_Rf_goesBus_183 : decode M_Rf_goesBus.2.1 183 = .ok (.aload_n 0, 1) := by decide +kernel
theorem d_Rf_goesBus_184 : decode M_Rf_goesBus.2.1 184 = .ok (.getfield 7, 3) := by decide +kernel
theorem d_Rf_goesBus_187 : decode M_Rf_goesBus.2.1 187 = .ok (.bipush 108, 2) := by decide +kernel
theorem d_Rf_goesBus_189 : decode M_Rf_goesBus.2.1 189 = .ok (.iload_n 1, 1) := by decide +kernel
theorem d_Rf_goesBus_190 : decode M_Rf_goesBus.2.1 190 = .ok (.iadd, 1) := by decide +kernel
theorem d_Rf_goesBus_191 : decode M_Rf_goesBus.2.1 191 = .ok (.iaload, 1) := by decide +kernel
theorem d_Rf_goesBus_192 : decode M_Rf_goesBus.2.1 192 = .ok (.invokevirtual 170, 3) := by decide +kernel
theorem d_Rf_goesBus_195 : decode M_Rf_goesBus.2.1 195 = .ok (.return_, 1) := by decide +kernel
set_option maxHeartbeats 4000000 in
set_option maxRecDepth 100000 in
theorem ok_Rf_goesBus {D : xD} {N : Nat} {l : Launch} {d : Nat} {c z : T2} {P Q : Nat → Int32} {rest : List va_E} {K : Option Value → List va_E → Prop} {b kd s a : Nat} (hb : b < 12) (ek : P (156 + b) = nI kd) (hk : kd < 6) (es : P (84 + b) = nI s) (hs : s < 6) (ea : P (108 + b) = nI a) (ha : a < 6) (hK : K none (encR D N c z (mv1 P b kd s a) Q ++ rest)) : Ok D N l (d + 1) M_Rf_goesBus [.ref (N + 0), .int (nI b)] (encR D N c z P Q ++ rest) 0 0 K := by
  refine ok_of (L := [(0, _), (1, _)]) (by decide) (Nat.le_of_ble_eq_true rfl) rfl ?_
  by_cases hk1 : kd = 1
  · skip
    refine wp_aload_n (q := 1) d_Rf_goesBus_0 rfl rfl ?_
    refine wp_get (q := 4) fl_Rf_7 d_Rf_goesBus_1 rfl rfl rfl ?_
    refine wp_bipush (q := 6) d_Rf_goesBus_4 rfl bp_72 ?_
    refine wp_iload_n (q := 7) d_Rf_goesBus_6 rfl rfl ?_
    first | refine wp_iaddN (q := 8) d_Rf_goesBus_7 rfl ?_ | refine wp_iadd (q := 8) d_Rf_goesBus_7 rfl ?_
    refine wp_iald (q := 9) d_Rf_goesBus_8 rfl (rfl) (by omega) (by decide) ?_
    refine wp_iconst (q := 10) d_Rf_goesBus_9 rfl ic_4 ?_
    refine wp_icmp_ne (q := 13) (tgt := 51) d_Rf_goesBus_10 (by decide) rfl (fun hc_10 => ?_) (fun hc_10 => ?_)
    · refine wp_aload_n (q := 52) d_Rf_goesBus_51 rfl rfl ?_
      refine wp_get (q := 55) fl_Rf_7 d_Rf_goesBus_52 rfl rfl rfl ?_
      refine wp_bipush (q := 57) d_Rf_goesBus_55 rfl bp_72 ?_
      refine wp_iload_n (q := 58) d_Rf_goesBus_57 rfl rfl ?_
      first | refine wp_iaddN (q := 59) d_Rf_goesBus_58 rfl ?_ | refine wp_iadd (q := 59) d_Rf_goesBus_58 rfl ?_
      refine wp_iald (q := 60) d_Rf_goesBus_59 rfl (rfl) (by omega) (by decide) ?_
      refine wp_iconst (q := 61) d_Rf_goesBus_60 rfl ic_3 ?_
      refine wp_icmp_ne (q := 64) (tgt := 195) d_Rf_goesBus_61 (by decide) rfl (fun hc_61 => ?_) (fun hc_61 => ?_)
      · refine wp_vret d_Rf_goesBus_195 rfl (Nat.le_refl _) (Nat.le_refl _) ?_
        refine kR hK rfl ?_
        first
          | (rw [mv1, if_pos hc_10, if_pos hc_39]; exact (upd_id hc_10).symm)
          | (rw [mv1, if_pos hc_10, if_neg hc_39]; done)
          | (rw [mv1, if_neg hc_10, if_neg hc_61]; done)
          | (rw [mv1, if_neg hc_10, if_pos hc_61, if_neg hc_88]; done)
          | (rw [mv1, if_neg hc_10, if_pos hc_61, if_pos hc_88, arr]; simp only [if_pos hk1]; simp (disch := omega) only [upd_ne, upd_eq])
      · refine wp_aload_n (q := 65) d_Rf_goesBus_64 rfl rfl ?_
        refine wp_get (q := 68) fl_Rf_7 d_Rf_goesBus_65 rfl rfl rfl ?_
        refine wp_sipush (q := 71) d_Rf_goesBus_68 rfl sp_132 ?_
        refine wp_iload_n (q := 72) d_Rf_goesBus_71 rfl rfl ?_
        first | refine wp_iaddN (q := 73) d_Rf_goesBus_72 rfl ?_ | refine wp_iadd (q := 73) d_Rf_goesBus_72 rfl ?_
        refine wp_dup2 (q := 74) d_Rf_goesBus_73 rfl rfl rfl ?_
        refine wp_iald (q := 75) d_Rf_goesBus_74 rfl (rfl) (by omega) (by decide) ?_
        refine wp_iconst (q := 76) d_Rf_goesBus_75 rfl ic_1 ?_
        refine wp_isub (q := 77) d_Rf_goesBus_76 rfl ?_
        refine wp_iast (q := 78) d_Rf_goesBus_77 rfl (rfl) (by omega) (by decide) (fr_P) ?_
        refine wp_aload_n (q := 79) d_Rf_goesBus_78 rfl rfl ?_
        refine wp_get (q := 82) fl_Rf_7 d_Rf_goesBus_79 rfl rfl rfl ?_
        refine wp_sipush (q := 85) d_Rf_goesBus_82 rfl sp_132 ?_
        refine wp_iload_n (q := 86) d_Rf_goesBus_85 rfl rfl ?_
        first | refine wp_iaddN (q := 87) d_Rf_goesBus_86 rfl ?_ | refine wp_iadd (q := 87) d_Rf_goesBus_86 rfl ?_
        refine wp_iald (q := 88) d_Rf_goesBus_87 rfl (rfl) (by omega) (by decide) ?_
        simp (disch := omega) only [upd_ne, upd_eq]
        refine wp_if_ne (q := 91) (tgt := 195) d_Rf_goesBus_88 (by decide) rfl (fun hc_88 => ?_) (fun hc_88 => ?_)
        · refine wp_vret d_Rf_goesBus_195 rfl (Nat.le_refl _) (Nat.le_refl _) ?_
          refine kR hK rfl ?_
          first
            | (rw [mv1, if_pos hc_10, if_pos hc_39]; exact (upd_id hc_10).symm)
            | (rw [mv1, if_pos hc_10, if_neg hc_39]; done)
            | (rw [mv1, if_neg hc_10, if_neg hc_61]; done)
            | (rw [mv1, if_neg hc_10, if_pos hc_61, if_neg hc_88]; done)
            | (rw [mv1, if_neg hc_10, if_pos hc_61, if_pos hc_88, arr]; simp only [if_pos hk1]; simp (disch := omega) only [upd_ne, upd_eq])
        · refine wp_aload_n (q := 92) d_Rf_goesBus_91 rfl rfl ?_
          refine wp_get (q := 95) fl_Rf_7 d_Rf_goesBus_92 rfl rfl rfl ?_
          refine wp_sipush (q := 98) d_Rf_goesBus_95 rfl sp_156 ?_
          refine wp_iload_n (q := 99) d_Rf_goesBus_98 rfl rfl ?_
          first | refine wp_iaddN (q := 100) d_Rf_goesBus_99 rfl ?_ | refine wp_iadd (q := 100) d_Rf_goesBus_99 rfl ?_
          refine wp_iald (q := 101) d_Rf_goesBus_100 rfl (rfl) (by omega) (by decide) ?_
          simp (disch := omega) only [upd_ne, upd_eq]
          rw [ek]
          refine wp_iconst (q := 102) d_Rf_goesBus_101 rfl ic_1 ?_
          refine wp_icmp_ne_f (q := 105) (tgt := 119) d_Rf_goesBus_102 (by decide) rfl (by rw [hk1]) ?_
          refine wp_aload_n (q := 106) d_Rf_goesBus_105 rfl rfl ?_
          refine wp_get (q := 109) fl_Rf_7 d_Rf_goesBus_106 rfl rfl rfl ?_
          refine wp_bipush (q := 111) d_Rf_goesBus_109 rfl bp_120 ?_
          refine wp_iload_n (q := 112) d_Rf_goesBus_111 rfl rfl ?_
          first | refine wp_iaddN (q := 113) d_Rf_goesBus_112 rfl ?_ | refine wp_iadd (q := 113) d_Rf_goesBus_112 rfl ?_
          refine wp_iald (q := 114) d_Rf_goesBus_113 rfl (rfl) (by omega) (by decide) ?_
          simp (disch := omega) only [upd_ne, upd_eq]
          refine wp_iconst (q := 115) d_Rf_goesBus_114 rfl ic_2 ?_
          refine wp_idiv (q := 116) d_Rf_goesBus_115 rfl (by decide) ?_
          refine wp_goto (tgt := 120) d_Rf_goesBus_116 (by decide) ?_
          refine wp_istore_n (q := 121) (L2 := [(2, _), (0, _), (1, _)]) d_Rf_goesBus_120 rfl (by decide) rfl ?_
          refine wp_aload_n (q := 122) d_Rf_goesBus_121 rfl rfl ?_
          refine wp_get (q := 125) fl_Rf_7 d_Rf_goesBus_122 rfl rfl rfl ?_
          refine wp_sipush (q := 128) d_Rf_goesBus_125 rfl sp_236 ?_
          refine wp_dup2 (q := 129) d_Rf_goesBus_128 rfl rfl rfl ?_
          refine wp_iald (q := 130) d_Rf_goesBus_129 rfl (rfl) (by omega) (by decide) ?_
          simp (disch := omega) only [upd_ne, upd_eq]
          refine wp_iload_n (q := 131) d_Rf_goesBus_130 rfl rfl ?_
          first | refine wp_iaddN (q := 132) d_Rf_goesBus_131 rfl ?_ | refine wp_iadd (q := 132) d_Rf_goesBus_131 rfl ?_
          refine wp_iast (q := 133) d_Rf_goesBus_132 rfl (rfl) (by omega) (by decide) (fr_P) ?_
          refine wp_aload_n (q := 134) d_Rf_goesBus_133 rfl rfl ?_
          refine wp_get (q := 137) fl_Rf_7 d_Rf_goesBus_134 rfl rfl rfl ?_
          refine wp_sipush (q := 140) d_Rf_goesBus_137 rfl sp_237 ?_
          refine wp_dup2 (q := 141) d_Rf_goesBus_140 rfl rfl rfl ?_
          refine wp_iald (q := 142) d_Rf_goesBus_141 rfl (rfl) (by omega) (by decide) ?_
          simp (disch := omega) only [upd_ne, upd_eq]
          refine wp_aload_n (q := 143) d_Rf_goesBus_142 rfl rfl ?_
          refine wp_get (q := 146) fl_Rf_7 d_Rf_goesBus_143 rfl rfl rfl ?_
          refine wp_bipush (q := 148) d_Rf_goesBus_146 rfl bp_120 ?_
          refine wp_iload_n (q := 149) d_Rf_goesBus_148 rfl rfl ?_
          first | refine wp_iaddN (q := 150) d_Rf_goesBus_149 rfl ?_ | refine wp_iadd (q := 150) d_Rf_goesBus_149 rfl ?_
          refine wp_iald (q := 151) d_Rf_goesBus_150 rfl (rfl) (by omega) (by decide) ?_
          simp (disch := omega) only [upd_ne, upd_eq]
          refine wp_iload_n (q := 152) d_Rf_goesBus_151 rfl rfl ?_
          refine wp_isub (q := 153) d_Rf_goesBus_152 rfl ?_
          first | refine wp_iaddN (q := 154) d_Rf_goesBus_153 rfl ?_ | refine wp_iadd (q := 154) d_Rf_goesBus_153 rfl ?_
          refine wp_iast (q := 155) d_Rf_goesBus_154 rfl (rfl) (by omega) (by decide) (fr_P) ?_
          refine wp_aload_n (q := 156) d_Rf_goesBus_155 rfl rfl ?_
          refine wp_iload_n (q := 157) d_Rf_goesBus_156 rfl rfl ?_
          refine wp_aload_n (q := 158) d_Rf_goesBus_157 rfl rfl ?_
          refine wp_get (q := 161) fl_Rf_7 d_Rf_goesBus_158 rfl rfl rfl ?_
          refine wp_sipush (q := 164) d_Rf_goesBus_161 rfl sp_156 ?_
          refine wp_iload_n (q := 165) d_Rf_goesBus_164 rfl rfl ?_
          first | refine wp_iaddN (q := 166) d_Rf_goesBus_165 rfl ?_ | refine wp_iadd (q := 166) d_Rf_goesBus_165 rfl ?_
          refine wp_iald (q := 167) d_Rf_goesBus_166 rfl (rfl) (by omega) (by decide) ?_
          simp (disch := omega) only [upd_ne, upd_eq]
          rw [ek]
          refine wp_iconst (q := 168) d_Rf_goesBus_167 rfl ic_1 ?_
          refine wp_icmp_ne_f (q := 171) (tgt := 183) d_Rf_goesBus_168 (by decide) rfl (by rw [hk1]) ?_
          refine wp_aload_n (q := 172) d_Rf_goesBus_171 rfl rfl ?_
          refine wp_get (q := 175) fl_Rf_7 d_Rf_goesBus_172 rfl rfl rfl ?_
          refine wp_bipush (q := 177) d_Rf_goesBus_175 rfl bp_84 ?_
          refine wp_iload_n (q := 178) d_Rf_goesBus_177 rfl rfl ?_
          first | refine wp_iaddN (q := 179) d_Rf_goesBus_178 rfl ?_ | refine wp_iadd (q := 179) d_Rf_goesBus_178 rfl ?_
          refine wp_iald (q := 180) d_Rf_goesBus_179 rfl (rfl) (by omega) (by decide) ?_
          refine wp_goto (tgt := 192) d_Rf_goesBus_180 (by decide) ?_
          simp (disch := omega) only [upd_ne, upd_eq]
          rw [es]
          refine wp_cv2 (q := 195) lk_Rf_170 (ro _ _ _) d_Rf_goesBus_192 rfl (Nat.le_of_ble_eq_true rfl) (rfl) rfl (Nat.zero_le _) (Nat.zero_le _) ?_
          refine ok_Rf_queuesAt hb hs ?_
          refine wp_vret d_Rf_goesBus_195 rfl (Nat.le_refl _) (Nat.le_refl _) ?_
          refine kR hK rfl ?_
          first
            | (rw [mv1, if_pos hc_10, if_pos hc_39]; exact (upd_id hc_10).symm)
            | (rw [mv1, if_pos hc_10, if_neg hc_39]; done)
            | (rw [mv1, if_neg hc_10, if_neg hc_61]; done)
            | (rw [mv1, if_neg hc_10, if_pos hc_61, if_neg hc_88]; done)
            | (rw [mv1, if_neg hc_10, if_pos hc_61, if_pos hc_88, arr]; simp only [if_pos hk1]; simp (disch := omega) only [upd_ne, upd_eq])
    · refine wp_aload_n (q := 14) d_Rf_goesBus_13 rfl rfl ?_
      refine wp_get (q := 17) fl_Rf_7 d_Rf_goesBus_14 rfl rfl rfl ?_
      refine wp_bipush (q := 19) d_Rf_goesBus_17 rfl bp_72 ?_
      refine wp_iload_n (q := 20) d_Rf_goesBus_19 rfl rfl ?_
      first | refine wp_iaddN (q := 21) d_Rf_goesBus_20 rfl ?_ | refine wp_iadd (q := 21) d_Rf_goesBus_20 rfl ?_
      refine wp_aload_n (q := 22) d_Rf_goesBus_21 rfl rfl ?_
      refine wp_get (q := 25) fl_Rf_7 d_Rf_goesBus_22 rfl rfl rfl ?_
      refine wp_sipush (q := 28) d_Rf_goesBus_25 rfl sp_234 ?_
      refine wp_iald (q := 29) d_Rf_goesBus_28 rfl (rfl) (by omega) (by decide) ?_
      refine wp_aload_n (q := 30) d_Rf_goesBus_29 rfl rfl ?_
      refine wp_get (q := 33) fl_Rf_7 d_Rf_goesBus_30 rfl rfl rfl ?_
      refine wp_sipush (q := 36) d_Rf_goesBus_33 rfl sp_144 ?_
      refine wp_iload_n (q := 37) d_Rf_goesBus_36 rfl rfl ?_
      first | refine wp_iaddN (q := 38) d_Rf_goesBus_37 rfl ?_ | refine wp_iadd (q := 38) d_Rf_goesBus_37 rfl ?_
      refine wp_iald (q := 39) d_Rf_goesBus_38 rfl (rfl) (by omega) (by decide) ?_
      refine wp_icmp_lt (q := 42) (tgt := 46) d_Rf_goesBus_39 (by decide) rfl (fun hc_39 => ?_) (fun hc_39 => ?_)
      · refine wp_iconst (q := 47) d_Rf_goesBus_46 rfl ic_4 ?_
        refine wp_iast (q := 48) d_Rf_goesBus_47 rfl (rfl) (by omega) (by decide) (fr_P) ?_
        refine wp_goto (tgt := 195) d_Rf_goesBus_48 (by decide) ?_
        refine wp_vret d_Rf_goesBus_195 rfl (Nat.le_refl _) (Nat.le_refl _) ?_
        refine kR hK rfl ?_
        first
          | (rw [mv1, if_pos hc_10, if_pos hc_39]; exact (upd_id hc_10).symm)
          | (rw [mv1, if_pos hc_10, if_neg hc_39]; done)
          | (rw [mv1, if_neg hc_10, if_neg hc_61]; done)
          | (rw [mv1, if_neg hc_10, if_pos hc_61, if_neg hc_88]; done)
          | (rw [mv1, if_neg hc_10, if_pos hc_61, if_pos hc_88, arr]; simp only [if_pos hk1]; simp (disch := omega) only [upd_ne, upd_eq])
      · refine wp_iconst (q := 43) d_Rf_goesBus_42 rfl ic_3 ?_
        refine wp_goto (tgt := 47) d_Rf_goesBus_43 (by decide) ?_
        refine wp_iast (q := 48) d_Rf_goesBus_47 rfl (rfl) (by omega) (by decide) (fr_P) ?_
        refine wp_goto (tgt := 195) d_Rf_goesBus_48 (by decide) ?_
        refine wp_vret d_Rf_goesBus_195 rfl (Nat.le_refl _) (Nat.le_refl _) ?_
        refine kR hK rfl ?_
        first
          | (rw [mv1, if_pos hc_10, if_pos hc_39]; exact (upd_id hc_10).symm)
          | (rw [mv1, if_pos hc_10, if_neg hc_39]; done)
          | (rw [mv1, if_neg hc_10, if_neg hc_61]; done)
          | (rw [mv1, if_neg hc_10, if_pos hc_61, if_neg hc_88]; done)
          | (rw [mv1, if_neg hc_10, if_pos hc_61, if_pos hc_88, arr]; simp only [if_pos hk1]; simp (disch := omega) only [upd_ne, upd_eq])
  · skip
    refine wp_aload_n (q := 1) d_Rf_goesBus_0 rfl rfl ?_
    refine wp_get (q := 4) fl_Rf_7 d_Rf_goesBus_1 rfl rfl rfl ?_
    refine wp_bipush (q := 6) d_Rf_goesBus_4 rfl bp_72 ?_
    refine wp_iload_n (q := 7) d_Rf_goesBus_6 rfl rfl ?_
    first | refine wp_iaddN (q := 8) d_Rf_goesBus_7 rfl ?_ | refine wp_iadd (q := 8) d_Rf_goesBus_7 rfl ?_
    refine wp_iald (q := 9) d_Rf_goesBus_8 rfl (rfl) (by omega) (by decide) ?_
    refine wp_iconst (q := 10) d_Rf_goesBus_9 rfl ic_4 ?_
    refine wp_icmp_ne (q := 13) (tgt := 51) d_Rf_goesBus_10 (by decide) rfl (fun hc_10 => ?_) (fun hc_10 => ?_)
    · refine wp_aload_n (q := 52) d_Rf_goesBus_51 rfl rfl ?_
      refine wp_get (q := 55) fl_Rf_7 d_Rf_goesBus_52 rfl rfl rfl ?_
      refine wp_bipush (q := 57) d_Rf_goesBus_55 rfl bp_72 ?_
      refine wp_iload_n (q := 58) d_Rf_goesBus_57 rfl rfl ?_
      first | refine wp_iaddN (q := 59) d_Rf_goesBus_58 rfl ?_ | refine wp_iadd (q := 59) d_Rf_goesBus_58 rfl ?_
      refine wp_iald (q := 60) d_Rf_goesBus_59 rfl (rfl) (by omega) (by decide) ?_
      refine wp_iconst (q := 61) d_Rf_goesBus_60 rfl ic_3 ?_
      refine wp_icmp_ne (q := 64) (tgt := 195) d_Rf_goesBus_61 (by decide) rfl (fun hc_61 => ?_) (fun hc_61 => ?_)
      · refine wp_vret d_Rf_goesBus_195 rfl (Nat.le_refl _) (Nat.le_refl _) ?_
        refine kR hK rfl ?_
        first
          | (rw [mv1, if_pos hc_10, if_pos hc_39]; exact (upd_id hc_10).symm)
          | (rw [mv1, if_pos hc_10, if_neg hc_39]; done)
          | (rw [mv1, if_neg hc_10, if_neg hc_61]; done)
          | (rw [mv1, if_neg hc_10, if_pos hc_61, if_neg hc_88]; done)
          | (rw [mv1, if_neg hc_10, if_pos hc_61, if_pos hc_88, arr]; simp only [if_neg hk1]; simp (disch := omega) only [upd_ne, upd_eq])
      · refine wp_aload_n (q := 65) d_Rf_goesBus_64 rfl rfl ?_
        refine wp_get (q := 68) fl_Rf_7 d_Rf_goesBus_65 rfl rfl rfl ?_
        refine wp_sipush (q := 71) d_Rf_goesBus_68 rfl sp_132 ?_
        refine wp_iload_n (q := 72) d_Rf_goesBus_71 rfl rfl ?_
        first | refine wp_iaddN (q := 73) d_Rf_goesBus_72 rfl ?_ | refine wp_iadd (q := 73) d_Rf_goesBus_72 rfl ?_
        refine wp_dup2 (q := 74) d_Rf_goesBus_73 rfl rfl rfl ?_
        refine wp_iald (q := 75) d_Rf_goesBus_74 rfl (rfl) (by omega) (by decide) ?_
        refine wp_iconst (q := 76) d_Rf_goesBus_75 rfl ic_1 ?_
        refine wp_isub (q := 77) d_Rf_goesBus_76 rfl ?_
        refine wp_iast (q := 78) d_Rf_goesBus_77 rfl (rfl) (by omega) (by decide) (fr_P) ?_
        refine wp_aload_n (q := 79) d_Rf_goesBus_78 rfl rfl ?_
        refine wp_get (q := 82) fl_Rf_7 d_Rf_goesBus_79 rfl rfl rfl ?_
        refine wp_sipush (q := 85) d_Rf_goesBus_82 rfl sp_132 ?_
        refine wp_iload_n (q := 86) d_Rf_goesBus_85 rfl rfl ?_
        first | refine wp_iaddN (q := 87) d_Rf_goesBus_86 rfl ?_ | refine wp_iadd (q := 87) d_Rf_goesBus_86 rfl ?_
        refine wp_iald (q := 88) d_Rf_goesBus_87 rfl (rfl) (by omega) (by decide) ?_
        simp (disch := omega) only [upd_ne, upd_eq]
        refine wp_if_ne (q := 91) (tgt := 195) d_Rf_goesBus_88 (by decide) rfl (fun hc_88 => ?_) (fun hc_88 => ?_)
        · refine wp_vret d_Rf_goesBus_195 rfl (Nat.le_refl _) (Nat.le_refl _) ?_
          refine kR hK rfl ?_
          first
            | (rw [mv1, if_pos hc_10, if_pos hc_39]; exact (upd_id hc_10).symm)
            | (rw [mv1, if_pos hc_10, if_neg hc_39]; done)
            | (rw [mv1, if_neg hc_10, if_neg hc_61]; done)
            | (rw [mv1, if_neg hc_10, if_pos hc_61, if_neg hc_88]; done)
            | (rw [mv1, if_neg hc_10, if_pos hc_61, if_pos hc_88, arr]; simp only [if_neg hk1]; simp (disch := omega) only [upd_ne, upd_eq])
        · refine wp_aload_n (q := 92) d_Rf_goesBus_91 rfl rfl ?_
          refine wp_get (q := 95) fl_Rf_7 d_Rf_goesBus_92 rfl rfl rfl ?_
          refine wp_sipush (q := 98) d_Rf_goesBus_95 rfl sp_156 ?_
          refine wp_iload_n (q := 99) d_Rf_goesBus_98 rfl rfl ?_
          first | refine wp_iaddN (q := 100) d_Rf_goesBus_99 rfl ?_ | refine wp_iadd (q := 100) d_Rf_goesBus_99 rfl ?_
          refine wp_iald (q := 101) d_Rf_goesBus_100 rfl (rfl) (by omega) (by decide) ?_
          simp (disch := omega) only [upd_ne, upd_eq]
          rw [ek]
          refine wp_iconst (q := 102) d_Rf_goesBus_101 rfl ic_1 ?_
          refine wp_icmp_ne_t (tgt := 119) d_Rf_goesBus_102 (by decide) (fun z => hk1 ((nI_eq (by omega) (by decide)).mp z)) ?_
          refine wp_iconst (q := 120) d_Rf_goesBus_119 rfl ic_0 ?_
          refine wp_istore_n (q := 121) (L2 := [(2, _), (0, _), (1, _)]) d_Rf_goesBus_120 rfl (by decide) rfl ?_
          refine wp_aload_n (q := 122) d_Rf_goesBus_121 rfl rfl ?_
          refine wp_get (q := 125) fl_Rf_7 d_Rf_goesBus_122 rfl rfl rfl ?_
          refine wp_sipush (q := 128) d_Rf_goesBus_125 rfl sp_236 ?_
          refine wp_dup2 (q := 129) d_Rf_goesBus_128 rfl rfl rfl ?_
          refine wp_iald (q := 130) d_Rf_goesBus_129 rfl (rfl) (by omega) (by decide) ?_
          simp (disch := omega) only [upd_ne, upd_eq]
          refine wp_iload_n (q := 131) d_Rf_goesBus_130 rfl rfl ?_
          first | refine wp_iaddN (q := 132) d_Rf_goesBus_131 rfl ?_ | refine wp_iadd (q := 132) d_Rf_goesBus_131 rfl ?_
          refine wp_iast (q := 133) d_Rf_goesBus_132 rfl (rfl) (by omega) (by decide) (fr_P) ?_
          refine wp_aload_n (q := 134) d_Rf_goesBus_133 rfl rfl ?_
          refine wp_get (q := 137) fl_Rf_7 d_Rf_goesBus_134 rfl rfl rfl ?_
          refine wp_sipush (q := 140) d_Rf_goesBus_137 rfl sp_237 ?_
          refine wp_dup2 (q := 141) d_Rf_goesBus_140 rfl rfl rfl ?_
          refine wp_iald (q := 142) d_Rf_goesBus_141 rfl (rfl) (by omega) (by decide) ?_
          simp (disch := omega) only [upd_ne, upd_eq]
          refine wp_aload_n (q := 143) d_Rf_goesBus_142 rfl rfl ?_
          refine wp_get (q := 146) fl_Rf_7 d_Rf_goesBus_143 rfl rfl rfl ?_
          refine wp_bipush (q := 148) d_Rf_goesBus_146 rfl bp_120 ?_
          refine wp_iload_n (q := 149) d_Rf_goesBus_148 rfl rfl ?_
          first | refine wp_iaddN (q := 150) d_Rf_goesBus_149 rfl ?_ | refine wp_iadd (q := 150) d_Rf_goesBus_149 rfl ?_
          refine wp_iald (q := 151) d_Rf_goesBus_150 rfl (rfl) (by omega) (by decide) ?_
          simp (disch := omega) only [upd_ne, upd_eq]
          refine wp_iload_n (q := 152) d_Rf_goesBus_151 rfl rfl ?_
          refine wp_isub (q := 153) d_Rf_goesBus_152 rfl ?_
          first | refine wp_iaddN (q := 154) d_Rf_goesBus_153 rfl ?_ | refine wp_iadd (q := 154) d_Rf_goesBus_153 rfl ?_
          refine wp_iast (q := 155) d_Rf_goesBus_154 rfl (rfl) (by omega) (by decide) (fr_P) ?_
          refine wp_aload_n (q := 156) d_Rf_goesBus_155 rfl rfl ?_
          refine wp_iload_n (q := 157) d_Rf_goesBus_156 rfl rfl ?_
          refine wp_aload_n (q := 158) d_Rf_goesBus_157 rfl rfl ?_
          refine wp_get (q := 161) fl_Rf_7 d_Rf_goesBus_158 rfl rfl rfl ?_
          refine wp_sipush (q := 164) d_Rf_goesBus_161 rfl sp_156 ?_
          refine wp_iload_n (q := 165) d_Rf_goesBus_164 rfl rfl ?_
          first | refine wp_iaddN (q := 166) d_Rf_goesBus_165 rfl ?_ | refine wp_iadd (q := 166) d_Rf_goesBus_165 rfl ?_
          refine wp_iald (q := 167) d_Rf_goesBus_166 rfl (rfl) (by omega) (by decide) ?_
          simp (disch := omega) only [upd_ne, upd_eq]
          rw [ek]
          refine wp_iconst (q := 168) d_Rf_goesBus_167 rfl ic_1 ?_
          refine wp_icmp_ne_t (tgt := 183) d_Rf_goesBus_168 (by decide) (fun z => hk1 ((nI_eq (by omega) (by decide)).mp z)) ?_
          refine wp_aload_n (q := 184) d_Rf_goesBus_183 rfl rfl ?_
          refine wp_get (q := 187) fl_Rf_7 d_Rf_goesBus_184 rfl rfl rfl ?_
          refine wp_bipush (q := 189) d_Rf_goesBus_187 rfl bp_108 ?_
          refine wp_iload_n (q := 190) d_Rf_goesBus_189 rfl rfl ?_
          first | refine wp_iaddN (q := 191) d_Rf_goesBus_190 rfl ?_ | refine wp_iadd (q := 191) d_Rf_goesBus_190 rfl ?_
          refine wp_iald (q := 192) d_Rf_goesBus_191 rfl (rfl) (by omega) (by decide) ?_
          simp (disch := omega) only [upd_ne, upd_eq]
          rw [ea]
          refine wp_cv2 (q := 195) lk_Rf_170 (ro _ _ _) d_Rf_goesBus_192 rfl (Nat.le_of_ble_eq_true rfl) (rfl) rfl (Nat.zero_le _) (Nat.zero_le _) ?_
          refine ok_Rf_queuesAt hb ha ?_
          refine wp_vret d_Rf_goesBus_195 rfl (Nat.le_refl _) (Nat.le_refl _) ?_
          refine kR hK rfl ?_
          first
            | (rw [mv1, if_pos hc_10, if_pos hc_39]; exact (upd_id hc_10).symm)
            | (rw [mv1, if_pos hc_10, if_neg hc_39]; done)
            | (rw [mv1, if_neg hc_10, if_neg hc_61]; done)
            | (rw [mv1, if_neg hc_10, if_pos hc_61, if_neg hc_88]; done)
            | (rw [mv1, if_neg hc_10, if_pos hc_61, if_pos hc_88, arr]; simp only [if_neg hk1]; simp (disch := omega) only [upd_ne, upd_eq])
    · refine wp_aload_n (q := 14) d_Rf_goesBus_13 rfl rfl ?_
      refine wp_get (q := 17) fl_Rf_7 d_Rf_goesBus_14 rfl rfl rfl ?_
      refine wp_bipush (q := 19) d_Rf_goesBus_17 rfl bp_72 ?_
      refine wp_iload_n (q := 20) d_Rf_goesBus_19 rfl rfl ?_
      first | refine wp_iaddN (q := 21) d_Rf_goesBus_20 rfl ?_ | refine wp_iadd (q := 21) d_Rf_goesBus_20 rfl ?_
      refine wp_aload_n (q := 22) d_Rf_goesBus_21 rfl rfl ?_
      refine wp_get (q := 25) fl_Rf_7 d_Rf_goesBus_22 rfl rfl rfl ?_
      refine wp_sipush (q := 28) d_Rf_goesBus_25 rfl sp_234 ?_
      refine wp_iald (q := 29) d_Rf_goesBus_28 rfl (rfl) (by omega) (by decide) ?_
      refine wp_aload_n (q := 30) d_Rf_goesBus_29 rfl rfl ?_
      refine wp_get (q := 33) fl_Rf_7 d_Rf_goesBus_30 rfl rfl rfl ?_
      refine wp_sipush (q := 36) d_Rf_goesBus_33 rfl sp_144 ?_
      refine wp_iload_n (q := 37) d_Rf_goesBus_36 rfl rfl ?_
      first | refine wp_iaddN (q := 38) d_Rf_goesBus_37 rfl ?_ | refine wp_iadd (q := 38) d_Rf_goesBus_37 rfl ?_
      refine wp_iald (q := 39) d_Rf_goesBus_38 rfl (rfl) (by omega) (by decide) ?_
      refine wp_icmp_lt (q := 42) (tgt := 46) d_Rf_goesBus_39 (by decide) rfl (fun hc_39 => ?_) (fun hc_39 => ?_)
      · refine wp_iconst (q := 47) d_Rf_goesBus_46 rfl ic_4 ?_
        refine wp_iast (q := 48) d_Rf_goesBus_47 rfl (rfl) (by omega) (by decide) (fr_P) ?_
        refine wp_goto (tgt := 195) d_Rf_goesBus_48 (by decide) ?_
        refine wp_vret d_Rf_goesBus_195 rfl (Nat.le_refl _) (Nat.le_refl _) ?_
        refine kR hK rfl ?_
        first
          | (rw [mv1, if_pos hc_10, if_pos hc_39]; exact (upd_id hc_10).symm)
          | (rw [mv1, if_pos hc_10, if_neg hc_39]; done)
          | (rw [mv1, if_neg hc_10, if_neg hc_61]; done)
          | (rw [mv1, if_neg hc_10, if_pos hc_61, if_neg hc_88]; done)
          | (rw [mv1, if_neg hc_10, if_pos hc_61, if_pos hc_88, arr]; simp only [if_neg hk1]; simp (disch := omega) only [upd_ne, upd_eq])
      · refine wp_iconst (q := 43) d_Rf_goesBus_42 rfl ic_3 ?_
        refine wp_goto (tgt := 47) d_Rf_goesBus_43 (by decide) ?_
        refine wp_iast (q := 48) d_Rf_goesBus_47 rfl (rfl) (by omega) (by decide) (fr_P) ?_
        refine wp_goto (tgt := 195) d_Rf_goesBus_48 (by decide) ?_
        refine wp_vret d_Rf_goesBus_195 rfl (Nat.le_refl _) (Nat.le_refl _) ?_
        refine kR hK rfl ?_
        first
          | (rw [mv1, if_pos hc_10, if_pos hc_39]; exact (upd_id hc_10).symm)
          | (rw [mv1, if_pos hc_10, if_neg hc_39]; done)
          | (rw [mv1, if_neg hc_10, if_neg hc_61]; done)
          | (rw [mv1, if_neg hc_10, if_pos hc_61, if_neg hc_88]; done)
          | (rw [mv1, if_neg hc_10, if_pos hc_61, if_pos hc_88, arr]; simp only [if_neg hk1]; simp (disch := omega) only [upd_ne, upd_eq])
theorem d_Tn_arrive_0 : decode M_Tn_arrive.2.1 0 = .ok (.aload_n 1, 1) := by decide +kernel
theorem d_Tn_arrive_1 : decode M_Tn_arrive.2.1 1 = .ok (.getfield 115, 3) := by decide +kernel
theorem d_Tn_arrive_4 : decode M_Tn_arrive.2.1 4 = .ok (.iload_n 2, 1) := by decide +kernel
theorem d_Tn_arrive_5 : decode M_Tn_arrive.2.1 5 = .ok (.aaload, 1) := by decide +kernel
theorem d_Tn_arrive_6 : decode M_Tn_arrive.2.1 6 = .ok (.astore_n 3, 1) := by decide +kernel
theorem d_Tn_arrive_7 : decode M_Tn_arrive.2.1 7 = .ok (.aload_n 0, 1) := by decide +kernel
theorem d_Tn_arrive_8 : decode M_Tn_arrive.2.1 8 = .ok (.getfield 47, 3) := by decide +kernel
theorem d_Tn_arrive_11 : decode M_Tn_arrive.2.1 11 = .ok (.aload_n 3, 1) := by decide +kernel
theorem d_Tn_arrive_12 : decode M_Tn_arrive.2.1 12 = .ok (.getfield 182, 3) := by decide +kernel
theorem d_Tn_arrive_15 : decode M_Tn_arrive.2.1 15 = .ok (.aaload, 1) := by decide +kernel
theorem d_Tn_arrive_16 : decode M_Tn_arrive.2.1 16 = .ok (.invokevirtual 239, 3) := by decide +kernel
theorem d_Tn_arrive_19 : decode M_Tn_arrive.2.1 19 = .ok (.istore 4, 2) := by decide +kernel
theorem d_Tn_arrive_21 : decode M_Tn_arrive.2.1 21 = .ok (.iload 4, 2) := by decide +kernel
theorem d_Tn_arrive_23 : decode M_Tn_arrive.2.1 23 = .ok (.ifCond .eq 12, 3) := by decide +kernel
theorem d_Tn_arrive_26 : decode M_Tn_arrive.2.1 26 = .ok (.aload_n 3, 1) := by decide +kernel
theorem d_Tn_arrive_27 : decode M_Tn_arrive.2.1 27 = .ok (.getfield 129, 3) := by decide +kernel
theorem d_Tn_arrive_30 : decode M_Tn_arrive.2.1 30 = .ok (.iconst 2, 1) := by decide +kernel
theorem d_Tn_arrive_31 : decode M_Tn_arrive.2.1 31 = .ok (.idiv, 1) := by decide +kernel
theorem d_Tn_arrive_32 : decode M_Tn_arrive.2.1 32 = .ok (.goto 4, 3) := by decide +kernel
theorem d_Tn_arrive_35 : decode M_Tn_arrive.2.1 35 = .ok (.iconst 0, 1) := by decide +kernel
theorem d_Tn_arrive_36 : decode M_Tn_arrive.2.1 36 = .ok (.istore 5, 2) := by decide +kernel
theorem d_Tn_arrive_38 : decode M_Tn_arrive.2.1 38 = .ok (.aload_n 1, 1) := by decide +kernel
theorem d_Tn_arrive_39 : decode M_Tn_arrive.2.1 39 = .ok (.dup, 1) := by decide +kernel
theorem d_Tn_arrive_40 : decode M_Tn_arrive.2.1 40 = .ok (.getfield 172, 3) := by decide +kernel
theorem d_Tn_arrive_43 : decode M_Tn_arrive.2.1 43 = .ok (.iload 5, 2) := by decide +kernel
theorem d_Tn_arrive_45 : decode M_Tn_arrive.2.1 45 = .ok (.iadd, 1) := by decide +kernel
theorem d_Tn_arrive_46 : decode M_Tn_arrive.2.1 46 = .ok (.putfield 172, 3) := by decide +kernel
theorem d_Tn_arrive_49 : decode M_Tn_arrive.2.1 49 = .ok (.aload_n 1, 1) := by decide +kernel
theorem d_Tn_arrive_50 : decode M_Tn_arrive.2.1 50 = .ok (.dup, 1) := by decide +kernel
theorem d_Tn_arrive_51 : decode M_Tn_arrive.2.1 51 = .ok (.getfield 242, 3) := by decide +kernel
theorem d_Tn_arrive_54 : decode M_Tn_arrive.2.1 54 = .ok (.aload_n 3, 1) := by decide +kernel
theorem d_Tn_arrive_55 : decode M_Tn_arrive.2.1 55 = .ok (.getfield 129, 3) := by decide +kernel
theorem d_Tn_arrive_58 : decode M_Tn_arrive.2.1 58 = .ok (.iload 5, 2) := by decide +kernel
theorem d_Tn_arrive_60 : decode M_Tn_arrive.2.1 60 = .ok (.isub, 1) := by decide +kernel
theorem d_Tn_arrive_61 : decode M_Tn_arrive.2.1 61 = .ok (.iadd, 1) := by decide +kernel
theorem d_Tn_arrive_62 : decode M_Tn_arrive.2.1 62 = .ok (.putfield 242, 3) := by decide +kernel
theorem d_Tn_arrive_65 : decode M_Tn_arrive.2.1 65 = .ok (.aload_n 1, 1) := by decide +kernel
theorem d_Tn_arrive_66 : decode M_Tn_arrive.2.1 66 = .ok (.iload_n 2, 1) := by decide +kernel
theorem d_Tn_arrive_67 : decode M_Tn_arrive.2.1 67 = .ok (.iload 4, 2) := by decide +kernel
theorem d_Tn_arrive_69 : decode M_Tn_arrive.2.1 69 = .ok (.ifCond .eq 10, 3) := by decide +kernel
theorem d_Tn_arrive_72 : decode M_Tn_arrive.2.1 72 = .ok (.aload_n 3, 1) := by decide +kernel
theorem d_Tn_arrive_73 : decode M_Tn_arrive.2.1 73 = .ok (.getfield 139, 3) := by decide +kernel
theorem d_Tn_arrive_76 : decode M_Tn_arrive.2.1 76 = .ok (.goto 7, 3) := by decide +kernel
theorem d_Tn_arrive_79 : decode M_Tn_arrive.2.1 79 = .ok (.aload_n 3, 1) := by decide +kernel
theorem d_Tn_arrive_80 : decode M_Tn_arrive.2.1 80 = .ok (.getfield 215, 3) := by decide +kernel
theorem d_Tn_arrive_83 : decode M_Tn_arrive.2.1 83 = .ok (.invokevirtual 245, 3) := by decide +kernel
theorem d_Tn_arrive_86 : decode M_Tn_arrive.2.1 86 = .ok (.pop, 1) := by decide +kernel
theorem d_Tn_arrive_87 : decode M_Tn_arrive.2.1 87 = .ok (.return_, 1) := by decide +kernel
set_option maxHeartbeats 4000000 in
set_option maxRecDepth 100000 in
theorem ok_Tn_arrive {D : xD} {N : Nat} {l : Launch} {d : Nat} {c x V : T2} {P : Nat → Int32} {w : Nat} {ln df : Nat → Option Nat} {rest : List va_E} {K : Option Value → List va_E → Prop} (hw : w < 3) {b kd s a : Nat} (hb : b < 12) (ek : P (156 + b) = nI kd) (hk : kd < 6) (es : P (84 + b) = nI s) (hs : s < 6) (ea : P (108 + b) = nI a) (ha : a < 6) (hK : K none (encC D N c x (va_up V w (arr P b kd s a)) ln df ++ rest)) : Ok D N l (d + 2) M_Tn_arrive [.ref (N + 1), .ref (N + wA w), .int (nI b)] (encC D N c x (va_up V w P) ln df ++ rest) 0 0 K := by
  refine ok_of (L := [(0, _), (1, _), (2, _)]) (by decide) (Nat.le_of_ble_eq_true rfl) rfl ?_
  by_cases hk1 : kd = 1
  · skip
    refine wp_aload_n (q := 1) d_Tn_arrive_0 rfl rfl ?_
    refine wp_get (q := 4) fl_Tn_115 d_Tn_arrive_1 rfl (rdO (w := w) hw) rfl ?_
    refine wp_iload_n (q := 5) d_Tn_arrive_4 rfl rfl ?_
    refine wp_aldR (q := 6) d_Tn_arrive_5 rfl (rd4 (w := w) hw) (by omega) (by decide) (rowsW_at (by omega)) ?_
    refine wp_astore_n (q := 7) (L2 := [(3, _), (0, _), (1, _), (2, _)]) d_Tn_arrive_6 rfl (by decide) rfl ?_
    refine wp_aload_n (q := 8) d_Tn_arrive_7 rfl rfl ?_
    refine wp_get (q := 11) fl_Tn_47 d_Tn_arrive_8 rfl rfl rfl ?_
    refine wp_aload_n (q := 12) d_Tn_arrive_11 rfl rfl ?_
    refine wp_get (q := 15) fl_Tn_182 d_Tn_arrive_12 rfl (rdR (w := w) hw hb) rfl ?_
    rw [ek]
    refine wp_aldK (q := 16) d_Tn_arrive_15 rfl (rfl) (by omega) (by decide) (rows_at (by omega)) ?_
    refine wp_v_turnsBack lm_Tn_239 (ro _ _ _) d_Tn_arrive_16 rfl (Nat.le_of_ble_eq_true rfl) hk (rdK hk) (Nat.zero_le _) (Nat.zero_le _) ?_
    rw [show kTurn kd = nI 1 from if_pos hk1]
    refine wp_istore (q := 21) (L2 := [(4, _), (3, _), (0, _), (1, _), (2, _)]) d_Tn_arrive_19 rfl (by decide) rfl ?_
    refine wp_iload (q := 23) d_Tn_arrive_21 rfl rfl ?_
    refine wp_if_eq_f (q := 26) (tgt := 35) d_Tn_arrive_23 (by decide) rfl (by decide) ?_
    refine wp_aload_n (q := 27) d_Tn_arrive_26 rfl rfl ?_
    refine wp_get (q := 30) fl_Tn_129 d_Tn_arrive_27 rfl (rdR (w := w) hw hb) rfl ?_
    refine wp_iconst (q := 31) d_Tn_arrive_30 rfl ic_2 ?_
    refine wp_idiv (q := 32) d_Tn_arrive_31 rfl (by decide) ?_
    refine wp_goto (tgt := 36) d_Tn_arrive_32 (by decide) ?_
    refine wp_istore (q := 38) (L2 := [(5, _), (4, _), (3, _), (0, _), (1, _), (2, _)]) d_Tn_arrive_36 rfl (by decide) rfl ?_
    refine wp_aload_n (q := 39) d_Tn_arrive_38 rfl rfl ?_
    refine wp_dup (q := 40) d_Tn_arrive_39 rfl rfl ?_
    refine wp_get (q := 43) fl_Tn_172 d_Tn_arrive_40 rfl (rdO (w := w) hw) rfl ?_
    refine wp_iload (q := 45) d_Tn_arrive_43 rfl rfl ?_
    first | refine wp_iaddN (q := 46) d_Tn_arrive_45 rfl ?_ | refine wp_iadd (q := 46) d_Tn_arrive_45 rfl ?_
    refine wp_put (q := 49) fl_Tn_172 d_Tn_arrive_46 rfl (rdO (w := w) hw) (Nat.le_of_ble_eq_true rfl) rfl rfl (fdw (w := w) (i := 0) hw (by decide) ws_o2) ?_
    refine wp_aload_n (q := 50) d_Tn_arrive_49 rfl rfl ?_
    refine wp_dup (q := 51) d_Tn_arrive_50 rfl rfl ?_
    refine wp_get (q := 54) fl_Tn_242 d_Tn_arrive_51 rfl (rdO (w := w) hw) rfl ?_
    try simp (disch := omega) only [upd_ne, upd_eq]
    refine wp_aload_n (q := 55) d_Tn_arrive_54 rfl rfl ?_
    refine wp_get (q := 58) fl_Tn_129 d_Tn_arrive_55 rfl (rdR (w := w) hw hb) rfl ?_
    try simp (disch := omega) only [upd_ne, upd_eq]
    refine wp_iload (q := 60) d_Tn_arrive_58 rfl rfl ?_
    refine wp_isub (q := 61) d_Tn_arrive_60 rfl ?_
    first | refine wp_iaddN (q := 62) d_Tn_arrive_61 rfl ?_ | refine wp_iadd (q := 62) d_Tn_arrive_61 rfl ?_
    refine wp_put (q := 65) fl_Tn_242 d_Tn_arrive_62 rfl (rdO (w := w) hw) (Nat.le_of_ble_eq_true rfl) rfl rfl (fdw (w := w) (i := 0) hw (by decide) ws_o3) ?_
    refine wp_aload_n (q := 66) d_Tn_arrive_65 rfl rfl ?_
    refine wp_iload_n (q := 67) d_Tn_arrive_66 rfl rfl ?_
    refine wp_iload (q := 69) d_Tn_arrive_67 rfl rfl ?_
    refine wp_if_eq_f (q := 72) (tgt := 79) d_Tn_arrive_69 (by decide) rfl (by decide) ?_
    refine wp_aload_n (q := 73) d_Tn_arrive_72 rfl rfl ?_
    refine wp_get (q := 76) fl_Tn_139 d_Tn_arrive_73 rfl (rdR (w := w) hw hb) rfl ?_
    refine wp_goto (tgt := 83) d_Tn_arrive_76 (by decide) ?_
    try simp (disch := omega) only [upd_ne, upd_eq]
    rw [es]
    refine wp_cv2 (q := 86) lk_Tn_245 (ro _ _ _) d_Tn_arrive_83 rfl (Nat.le_of_ble_eq_true rfl) (rdO (w := w) hw) rfl (Nat.zero_le _) (Nat.zero_le _) ?_
    refine ok_Wd_lineUp (w := w) hw hb hs ?_
    refine wp_pop (q := 87) d_Tn_arrive_86 rfl rfl ?_
    refine wp_vret d_Tn_arrive_87 rfl (Nat.le_refl _) (Nat.le_refl _) ?_
    simp only [arr, if_pos hk1] at hK
    first | exact hK | (refine kP hK rfl ?_; simp (disch := omega) only [upd_ne, upd_eq])
  · skip
    refine wp_aload_n (q := 1) d_Tn_arrive_0 rfl rfl ?_
    refine wp_get (q := 4) fl_Tn_115 d_Tn_arrive_1 rfl (rdO (w := w) hw) rfl ?_
    refine wp_iload_n (q := 5) d_Tn_arrive_4 rfl rfl ?_
    refine wp_aldR (q := 6) d_Tn_arrive_5 rfl (rd4 (w := w) hw) (by omega) (by decide) (rowsW_at (by omega)) ?_
    refine wp_astore_n (q := 7) (L2 := [(3, _), (0, _), (1, _), (2, _)]) d_Tn_arrive_6 rfl (by decide) rfl ?_
    refine wp_aload_n (q := 8) d_Tn_arrive_7 rfl rfl ?_
    refine wp_get (q := 11) fl_Tn_47 d_Tn_arrive_8 rfl rfl rfl ?_
    refine wp_aload_n (q := 12) d_Tn_arrive_11 rfl rfl ?_
    refine wp_get (q := 15) fl_Tn_182 d_Tn_arrive_12 rfl (rdR (w := w) hw hb) rfl ?_
    rw [ek]
    refine wp_aldK (q := 16) d_Tn_arrive_15 rfl (rfl) (by omega) (by decide) (rows_at (by omega)) ?_
    refine wp_v_turnsBack lm_Tn_239 (ro _ _ _) d_Tn_arrive_16 rfl (Nat.le_of_ble_eq_true rfl) hk (rdK hk) (Nat.zero_le _) (Nat.zero_le _) ?_
    rw [show kTurn kd = nI 0 from if_neg hk1]
    refine wp_istore (q := 21) (L2 := [(4, _), (3, _), (0, _), (1, _), (2, _)]) d_Tn_arrive_19 rfl (by decide) rfl ?_
    refine wp_iload (q := 23) d_Tn_arrive_21 rfl rfl ?_
    refine wp_if_eq_t (tgt := 35) d_Tn_arrive_23 (by decide) (by decide) ?_
    refine wp_iconst (q := 36) d_Tn_arrive_35 rfl ic_0 ?_
    refine wp_istore (q := 38) (L2 := [(5, _), (4, _), (3, _), (0, _), (1, _), (2, _)]) d_Tn_arrive_36 rfl (by decide) rfl ?_
    refine wp_aload_n (q := 39) d_Tn_arrive_38 rfl rfl ?_
    refine wp_dup (q := 40) d_Tn_arrive_39 rfl rfl ?_
    refine wp_get (q := 43) fl_Tn_172 d_Tn_arrive_40 rfl (rdO (w := w) hw) rfl ?_
    refine wp_iload (q := 45) d_Tn_arrive_43 rfl rfl ?_
    first | refine wp_iaddN (q := 46) d_Tn_arrive_45 rfl ?_ | refine wp_iadd (q := 46) d_Tn_arrive_45 rfl ?_
    refine wp_put (q := 49) fl_Tn_172 d_Tn_arrive_46 rfl (rdO (w := w) hw) (Nat.le_of_ble_eq_true rfl) rfl rfl (fdw (w := w) (i := 0) hw (by decide) ws_o2) ?_
    refine wp_aload_n (q := 50) d_Tn_arrive_49 rfl rfl ?_
    refine wp_dup (q := 51) d_Tn_arrive_50 rfl rfl ?_
    refine wp_get (q := 54) fl_Tn_242 d_Tn_arrive_51 rfl (rdO (w := w) hw) rfl ?_
    try simp (disch := omega) only [upd_ne, upd_eq]
    refine wp_aload_n (q := 55) d_Tn_arrive_54 rfl rfl ?_
    refine wp_get (q := 58) fl_Tn_129 d_Tn_arrive_55 rfl (rdR (w := w) hw hb) rfl ?_
    try simp (disch := omega) only [upd_ne, upd_eq]
    refine wp_iload (q := 60) d_Tn_arrive_58 rfl rfl ?_
    refine wp_isub (q := 61) d_Tn_arrive_60 rfl ?_
    first | refine wp_iaddN (q := 62) d_Tn_arrive_61 rfl ?_ | refine wp_iadd (q := 62) d_Tn_arrive_61 rfl ?_
    refine wp_put (q := 65) fl_Tn_242 d_Tn_arrive_62 rfl (rdO (w := w) hw) (Nat.le_of_ble_eq_true rfl) rfl rfl (fdw (w := w) (i := 0) hw (by decide) ws_o3) ?_
    refine wp_aload_n (q := 66) d_Tn_arrive_65 rfl rfl ?_
    refine wp_iload_n (q := 67) d_Tn_arrive_66 rfl rfl ?_
    refine wp_iload (q := 69) d_Tn_arrive_67 rfl rfl ?_
    refine wp_if_eq_t (tgt := 79) d_Tn_arrive_69 (by decide) (by decide) ?_
    refine wp_aload_n (q := 80) d_Tn_arrive_79 rfl rfl ?_
    refine wp_get (q := 83) fl_Tn_215 d_Tn_arrive_80 rfl (rdR (w := w) hw hb) rfl ?_
    try simp (disch := omega) only [upd_ne, upd_eq]
    rw [ea]
    refine wp_cv2 (q := 86) lk_Tn_245 (ro _ _ _) d_Tn_arrive_83 rfl (Nat.le_of_ble_eq_true rfl) (rdO (w := w) hw) rfl (Nat.zero_le _) (Nat.zero_le _) ?_
    refine ok_Wd_lineUp (w := w) hw hb ha ?_
    refine wp_pop (q := 87) d_Tn_arrive_86 rfl rfl ?_
    refine wp_vret d_Tn_arrive_87 rfl (Nat.le_refl _) (Nat.le_refl _) ?_
    simp only [arr, if_neg hk1] at hK
    first | exact hK | (refine kP hK rfl ?_; simp (disch := omega) only [upd_ne, upd_eq])
theorem d_Tn_move_0 : decode M_Tn_move.2.1 0 = .ok (.aload_n 1, 1) := by decide +kernel
theorem d_Tn_move_1 : decode M_Tn_move.2.1 1 = .ok (.getfield 115, 3) := by decide +kernel
theorem d_Tn_move_4 : decode M_Tn_move.2.1 4 = .ok (.iload_n 2, 1) := by decide +kernel
theorem d_Tn_move_5 : decode M_Tn_move.2.1 5 = .ok (.aaload, 1) := by decide +kernel
theorem d_Tn_move_6 : decode M_Tn_move.2.1 6 = .ok (.astore_n 3, 1) := by decide +kernel
theorem d_Tn_move_7 : decode M_Tn_move.2.1 7 = .ok (.aload_n 3, 1) := by decide +kernel
theorem d_Tn_move_8 : decode M_Tn_move.2.1 8 = .ok (.getfield 212, 3) := by decide +kernel
theorem d_Tn_move_11 : decode M_Tn_move.2.1 11 = .ok (.iconst 4, 1) := by decide +kernel
theorem d_Tn_move_12 : decode M_Tn_move.2.1 12 = .ok (.if_icmp .ne 22, 3) := by decide +kernel
theorem d_Tn_move_15 : decode M_Tn_move.2.1 15 = .ok (.aload_n 1, 1) := by decide +kernel
theorem d_Tn_move_16 : decode M_Tn_move.2.1 16 = .ok (.getfield 121, 3) := by decide +kernel
theorem d_Tn_move_19 : decode M_Tn_move.2.1 19 = .ok (.aload_n 3, 1) := by decide +kernel
theorem d_Tn_move_20 : decode M_Tn_move.2.1 20 = .ok (.getfield 124, 3) := by decide +kernel
theorem d_Tn_move_23 : decode M_Tn_move.2.1 23 = .ok (.if_icmp .lt 11, 3) := by decide +kernel
theorem d_Tn_move_26 : decode M_Tn_move.2.1 26 = .ok (.aload_n 3, 1) := by decide +kernel
theorem d_Tn_move_27 : decode M_Tn_move.2.1 27 = .ok (.iconst 3, 1) := by decide +kernel
theorem d_Tn_move_28 : decode M_Tn_move.2.1 28 = .ok (.putfield 212, 3) := by decide +kernel
theorem d_Tn_move_31 : decode M_Tn_move.2.1 31 = .ok (.goto 34, 3) := by decide +kernel
theorem d_Tn_move_34 : decode M_Tn_move.2.1 34 = .ok (.aload_n 3, 1) := by decide +kernel
theorem d_Tn_move_35 : decode M_Tn_move.2.1 35 = .ok (.getfield 212, 3) := by decide +kernel
theorem d_Tn_move_38 : decode M_Tn_move.2.1 38 = .ok (.iconst 3, 1) := by decide +kernel
theorem d_Tn_move_39 : decode M_Tn_move.2.1 39 = .ok (.if_icmp .ne 26, 3) := by decide +kernel
theorem d_Tn_move_42 : decode M_Tn_move.2.1 42 = .ok (.aload_n 3, 1) := by decide +kernel
theorem d_Tn_move_43 : decode M_Tn_move.2.1 43 = .ok (.dup, 1) := by decide +kernel
theorem d_Tn_move_44 : decode M_Tn_move.2.1 44 = .ok (.getfield 224, 3) := by decide +kernel
theorem d_Tn_move_47 : decode M_Tn_move.2.1 47 = .ok (.iconst 1, 1) := by decide +kernel
theorem d_Tn_move_48 : decode M_Tn_move.2.1 48 = .ok (.isub, 1) := by decide +kernel
theorem d_Tn_move_49 : decode M_Tn_move.2.1 49 = .ok (.putfield 224, 3) := by decide +kernel
theorem d_Tn_move_52 : decode M_Tn_move.2.1 52 = .ok (.aload_n 3, 1) := by decide +kernel
theorem d_Tn_move_53 : decode M_Tn_move.2.1 53 = .ok (.getfield 224, 3) := by decide +kernel
theorem d_Tn_move_56 : decode M_Tn_move.2.1 56 = .ok (.ifCond .gt 9, 3) := by decide +kernel
theorem d_Tn_move_59 : decode M_Tn_move.2.1 59 = .ok (.aload_n 0, 1) := by decide +kernel
theorem d_Tn_move_60 : decode M_Tn_move.2.1 60 = .ok (.aload_n 1, 1) := by decide +kernel
theorem d_Tn_move_61 : decode M_Tn_move.2.1 61 = .ok (.iload_n 2, 1) := by decide +kernel
theorem d_Tn_move_62 : decode M_Tn_move.2.1 62 = .ok (.invokevirtual 236, 3) := by decide +kernel
theorem d_Tn_move_65 : decode M_Tn_move.2.1 65 = .ok (.return_, 1) := by decide +kernel
set_option maxHeartbeats 4000000 in
set_option maxRecDepth 100000 in
theorem ok_Tn_move {D : xD} {N : Nat} {l : Launch} {d : Nat} {c x V : T2} {P : Nat → Int32} {w : Nat} {ln df : Nat → Option Nat} {rest : List va_E} {K : Option Value → List va_E → Prop} (hw : w < 3) {b kd s a : Nat} (hb : b < 12) (ek : P (156 + b) = nI kd) (hk : kd < 6) (es : P (84 + b) = nI s) (hs : s < 6) (ea : P (108 + b) = nI a) (ha : a < 6) (hl0 : P (72 + b) = nI 3 → ¬ 0 < P (132 + b) - nI 1 → P (132 + b) - nI 1 = 0) (hK : K none (encC D N c x (va_up V w (mv1 P b kd s a)) ln df ++ rest)) : Ok D N l (d + 3) M_Tn_move [.ref (N + 1), .ref (N + wA w), .int (nI b)] (encC D N c x (va_up V w P) ln df ++ rest) 0 0 K := by
  refine ok_of (L := [(0, _), (1, _), (2, _)]) (by decide) (Nat.le_of_ble_eq_true rfl) rfl ?_
  by_cases hc_12 : P (72 + b) = nI 4
  · skip
    refine wp_aload_n (q := 1) d_Tn_move_0 rfl rfl ?_
    refine wp_get (q := 4) fl_Tn_115 d_Tn_move_1 rfl (rdO (w := w) hw) rfl ?_
    refine wp_iload_n (q := 5) d_Tn_move_4 rfl rfl ?_
    refine wp_aldR (q := 6) d_Tn_move_5 rfl (rd4 (w := w) hw) (by omega) (by decide) (rowsW_at (by omega)) ?_
    refine wp_astore_n (q := 7) (L2 := [(3, _), (0, _), (1, _), (2, _)]) d_Tn_move_6 rfl (by decide) rfl ?_
    refine wp_aload_n (q := 8) d_Tn_move_7 rfl rfl ?_
    refine wp_get (q := 11) fl_Tn_212 d_Tn_move_8 rfl (rdR (w := w) hw hb) rfl ?_
    refine wp_iconst (q := 12) d_Tn_move_11 rfl ic_4 ?_
    refine wp_icmp_ne_f (q := 15) (tgt := 34) d_Tn_move_12 (by decide) rfl (hc_12) ?_
    refine wp_aload_n (q := 16) d_Tn_move_15 rfl rfl ?_
    refine wp_get (q := 19) fl_Tn_121 d_Tn_move_16 rfl (rdO (w := w) hw) rfl ?_
    refine wp_aload_n (q := 20) d_Tn_move_19 rfl rfl ?_
    refine wp_get (q := 23) fl_Tn_124 d_Tn_move_20 rfl (rdR (w := w) hw hb) rfl ?_
    refine wp_icmp_lt (q := 26) (tgt := 34) d_Tn_move_23 (by decide) rfl (fun hc_23 => ?_) (fun hc_23 => ?_)
    · refine wp_aload_n (q := 35) d_Tn_move_34 rfl rfl ?_
      refine wp_get (q := 38) fl_Tn_212 d_Tn_move_35 rfl (rdR (w := w) hw hb) rfl ?_
      refine wp_iconst (q := 39) d_Tn_move_38 rfl ic_3 ?_
      refine wp_icmp_ne_t (tgt := 65) d_Tn_move_39 (by decide) (by rw [hc_12]; decide) ?_
      refine wp_vret d_Tn_move_65 rfl (Nat.le_refl _) (Nat.le_refl _) ?_
      refine kP hK rfl ?_
      first
        | (rw [mv1, if_pos hc_12, if_neg hc_23]; done)
        | (rw [mv1, if_pos hc_12, if_pos hc_23]; done)
        | (rw [mv1, if_neg hc_12, if_neg hc_39]; done)
        | (rw [mv1, if_neg hc_12, if_pos hc_39, if_neg h0]; done)
        | (rw [mv1, if_neg hc_12, if_pos hc_39, if_pos h0]; done)
    · refine wp_aload_n (q := 27) d_Tn_move_26 rfl rfl ?_
      refine wp_iconst (q := 28) d_Tn_move_27 rfl ic_3 ?_
      refine wp_put (q := 31) fl_Tn_212 d_Tn_move_28 rfl (rdR (w := w) hw hb) (Nat.le_of_ble_eq_true rfl) rfl rfl (fdw (w := w) hw (by omega) (ws_r0 hb)) ?_
      refine wp_goto (tgt := 65) d_Tn_move_31 (by decide) ?_
      refine wp_vret d_Tn_move_65 rfl (Nat.le_refl _) (Nat.le_refl _) ?_
      refine kP hK rfl ?_
      first
        | (rw [mv1, if_pos hc_12, if_neg hc_23]; done)
        | (rw [mv1, if_pos hc_12, if_pos hc_23]; done)
        | (rw [mv1, if_neg hc_12, if_neg hc_39]; done)
        | (rw [mv1, if_neg hc_12, if_pos hc_39, if_neg h0]; done)
        | (rw [mv1, if_neg hc_12, if_pos hc_39, if_pos h0]; done)
  · skip
    refine wp_aload_n (q := 1) d_Tn_move_0 rfl rfl ?_
    refine wp_get (q := 4) fl_Tn_115 d_Tn_move_1 rfl (rdO (w := w) hw) rfl ?_
    refine wp_iload_n (q := 5) d_Tn_move_4 rfl rfl ?_
    refine wp_aldR (q := 6) d_Tn_move_5 rfl (rd4 (w := w) hw) (by omega) (by decide) (rowsW_at (by omega)) ?_
    refine wp_astore_n (q := 7) (L2 := [(3, _), (0, _), (1, _), (2, _)]) d_Tn_move_6 rfl (by decide) rfl ?_
    refine wp_aload_n (q := 8) d_Tn_move_7 rfl rfl ?_
    refine wp_get (q := 11) fl_Tn_212 d_Tn_move_8 rfl (rdR (w := w) hw hb) rfl ?_
    refine wp_iconst (q := 12) d_Tn_move_11 rfl ic_4 ?_
    refine wp_icmp_ne_t (tgt := 34) d_Tn_move_12 (by decide) (hc_12) ?_
    refine wp_aload_n (q := 35) d_Tn_move_34 rfl rfl ?_
    refine wp_get (q := 38) fl_Tn_212 d_Tn_move_35 rfl (rdR (w := w) hw hb) rfl ?_
    refine wp_iconst (q := 39) d_Tn_move_38 rfl ic_3 ?_
    refine wp_icmp_ne (q := 42) (tgt := 65) d_Tn_move_39 (by decide) rfl (fun hc_39 => ?_) (fun hc_39 => ?_)
    · refine wp_vret d_Tn_move_65 rfl (Nat.le_refl _) (Nat.le_refl _) ?_
      refine kP hK rfl ?_
      first
        | (rw [mv1, if_pos hc_12, if_neg hc_23]; done)
        | (rw [mv1, if_pos hc_12, if_pos hc_23]; done)
        | (rw [mv1, if_neg hc_12, if_neg hc_39]; done)
        | (rw [mv1, if_neg hc_12, if_pos hc_39, if_neg h0]; done)
        | (rw [mv1, if_neg hc_12, if_pos hc_39, if_pos h0]; done)
    · refine wp_aload_n (q := 43) d_Tn_move_42 rfl rfl ?_
      refine wp_dup (q := 44) d_Tn_move_43 rfl rfl ?_
      refine wp_get (q := 47) fl_Tn_224 d_Tn_move_44 rfl (rdR (w := w) hw hb) rfl ?_
      refine wp_iconst (q := 48) d_Tn_move_47 rfl ic_1 ?_
      refine wp_isub (q := 49) d_Tn_move_48 rfl ?_
      refine wp_put (q := 52) fl_Tn_224 d_Tn_move_49 rfl (rdR (w := w) hw hb) (Nat.le_of_ble_eq_true rfl) rfl rfl (fdw (w := w) hw (by omega) (ws_r5 hb)) ?_
      refine wp_aload_n (q := 53) d_Tn_move_52 rfl rfl ?_
      refine wp_get (q := 56) fl_Tn_224 d_Tn_move_53 rfl (rdR (w := w) hw hb) rfl ?_
      simp (disch := omega) only [upd_ne, upd_eq]
      refine wp_if_gt (q := 59) (tgt := 65) d_Tn_move_56 (by decide) rfl (fun hc_56 => ?_) (fun hc_56 => ?_)
      · have h0 : ¬ P (132 + b) - nI 1 = 0 := fun z => by rw [z] at hc_56; exact absurd hc_56 (by decide)
        refine wp_vret d_Tn_move_65 rfl (Nat.le_refl _) (Nat.le_refl _) ?_
        refine kP hK rfl ?_
        first
          | (rw [mv1, if_pos hc_12, if_neg hc_23]; done)
          | (rw [mv1, if_pos hc_12, if_pos hc_23]; done)
          | (rw [mv1, if_neg hc_12, if_neg hc_39]; done)
          | (rw [mv1, if_neg hc_12, if_pos hc_39, if_neg h0]; done)
          | (rw [mv1, if_neg hc_12, if_pos hc_39, if_pos h0]; done)
      · have h0 : P (132 + b) - nI 1 = 0 := hl0 hc_39 hc_56
        refine wp_aload_n (q := 60) d_Tn_move_59 rfl rfl ?_
        refine wp_aload_n (q := 61) d_Tn_move_60 rfl rfl ?_
        refine wp_iload_n (q := 62) d_Tn_move_61 rfl rfl ?_
        refine wp_cv2 (q := 65) lk_Tn_236 (ro _ _ _) d_Tn_move_62 rfl (Nat.le_of_ble_eq_true rfl) (rfl) rfl (Nat.zero_le _) (Nat.zero_le _) ?_
        refine ok_Tn_arrive (w := w) hw (kd := kd) (s := s) (a := a) hb (by simp (disch := omega) only [upd_ne, upd_eq]; exact ek) hk (by simp (disch := omega) only [upd_ne, upd_eq]; exact es) hs (by simp (disch := omega) only [upd_ne, upd_eq]; exact ea) ha ?_
        refine wp_vret d_Tn_move_65 rfl (Nat.le_refl _) (Nat.le_refl _) ?_
        refine kP hK rfl ?_
        first
          | (rw [mv1, if_pos hc_12, if_neg hc_23]; done)
          | (rw [mv1, if_pos hc_12, if_pos hc_23]; done)
          | (rw [mv1, if_neg hc_12, if_neg hc_39]; done)
          | (rw [mv1, if_neg hc_12, if_pos hc_39, if_neg h0]; done)
          | (rw [mv1, if_neg hc_12, if_pos hc_39, if_pos h0]; done)
