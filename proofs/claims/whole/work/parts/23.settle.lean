theorem minE (x y : Int32) : (if y < x then y else x) = if x < y then x else y := by
  by_cases h1 : y < x
  · rw [if_pos h1, if_neg (fun h => by rw [Int32.lt_iff_toInt_lt] at *; omega)]
  · rw [if_neg h1]
    by_cases h2 : x < y
    · rw [if_pos h2]
    · rw [if_neg h2]
      exact Int32.le_antisymm (nlt_le h1) (nlt_le h2)
def pays (P : Nat → Int32) (b : Nat) (e : Int32) : Int32 := if e < P (204 + b) then e else P (204 + b)
def stl (P : Nat → Int32) (b : Nat) (e lw : Int32) : Nat → Int32 := if e < 0 then upd (upd (upd P (204 + b) (P (204 + b) - e)) (168 + b) (nI 0)) (180 + b) (nI 0) else upd (upd (upd (upd P (204 + b) (P (204 + b) - pays P b e)) (192 + b) (P (192 + b) + ((e - pays P b e).toInt64 * (if nI 100 < lw then nI 100 else lw).toInt64 / 100).toInt32)) (168 + b) (nI 0)) (180 + b) (nI 0)
theorem d_Rf_settles_0 : decode M_Rf_settles.2.1 0 = .ok (.aload_n 0, 1) := by decide +kernel
theorem d_Rf_settles_1 : decode M_Rf_settles.2.1 1 = .ok (.getfield 7, 3) := by decide +kernel
theorem d_Rf_settles_4 : decode M_Rf_settles.2.1 4 = .ok (.sipush 168, 3) := by decide +kernel
theorem d_Rf_settles_7 : decode M_Rf_settles.2.1 7 = .ok (.iload_n 1, 1) := by decide +kernel
theorem d_Rf_settles_8 : decode M_Rf_settles.2.1 8 = .ok (.iadd, 1) := by decide +kernel
theorem d_Rf_settles_9 : decode M_Rf_settles.2.1 9 = .ok (.iaload, 1) := by decide +kernel
theorem d_Rf_settles_10 : decode M_Rf_settles.2.1 10 = .ok (.aload_n 0, 1) := by decide +kernel
theorem d_Rf_settles_11 : decode M_Rf_settles.2.1 11 = .ok (.getfield 7, 3) := by decide +kernel
theorem d_Rf_settles_14 : decode M_Rf_settles.2.1 14 = .ok (.sipush 180, 3) := by decide +kernel
theorem d_Rf_settles_17 : decode M_Rf_settles.2.1 17 = .ok (.iload_n 1, 1) := by decide +kernel
theorem d_Rf_settles_18 : decode M_Rf_settles.2.1 18 = .ok (.iadd, 1) := by decide +kernel
theorem d_Rf_settles_19 : decode M_Rf_settles.2.1 19 = .ok (.iaload, 1) := by decide +kernel
theorem d_Rf_settles_20 : decode M_Rf_settles.2.1 20 = .ok (.isub, 1) := by decide +kernel
theorem d_Rf_settles_21 : decode M_Rf_settles.2.1 21 = .ok (.aload_n 0, 1) := by decide +kernel
theorem d_Rf_settles_22 : decode M_Rf_settles.2.1 22 = .ok (.getfield 34, 3) := by decide +kernel
theorem d_Rf_settles_25 : decode M_Rf_settles.2.1 25 = .ok (.iload_n 1, 1) := by decide +kernel
theorem d_Rf_settles_26 : decode M_Rf_settles.2.1 26 = .ok (.iaload, 1) := by decide +kernel
theorem d_Rf_settles_27 : decode M_Rf_settles.2.1 27 = .ok (.isub, 1) := by decide +kernel
theorem d_Rf_settles_28 : decode M_Rf_settles.2.1 28 = .ok (.istore_n 2, 1) := by decide +kernel
theorem d_Rf_settles_29 : decode M_Rf_settles.2.1 29 = .ok (.iload_n 2, 1) := by decide +kernel
theorem d_Rf_settles_30 : decode M_Rf_settles.2.1 30 = .ok (.ifCond .ge 20, 3) := by decide +kernel
theorem d_Rf_settles_33 : decode M_Rf_settles.2.1 33 = .ok (.aload_n 0, 1) := by decide +kernel
theorem d_Rf_settles_34 : decode M_Rf_settles.2.1 34 = .ok (.getfield 7, 3) := by decide +kernel
theorem d_Rf_settles_37 : decode M_Rf_settles.2.1 37 = .ok (.sipush 204, 3) := by decide +kernel
theorem d_Rf_settles_40 : decode M_Rf_settles.2.1 40 = .ok (.iload_n 1, 1) := by decide +kernel
theorem d_Rf_settles_41 : decode M_Rf_settles.2.1 41 = .ok (.iadd, 1) := by decide +kernel
theorem d_Rf_settles_42 : decode M_Rf_settles.2.1 42 = .ok (.dup2, 1) := by decide +kernel
theorem d_Rf_settles_43 : decode M_Rf_settles.2.1 43 = .ok (.iaload, 1) := by decide +kernel
theorem d_Rf_settles_44 : decode M_Rf_settles.2.1 44 = .ok (.iload_n 2, 1) := by decide +kernel
theorem d_Rf_settles_45 : decode M_Rf_settles.2.1 45 = .ok (.isub, 1) := by decide +kernel
theorem d_Rf_settles_46 : decode M_Rf_settles.2.1 46 = .ok (.iastore, 1) := by decide +kernel
theorem d_Rf_settles_47 : decode M_Rf_settles.2.1 47 = .ok (.goto 92, 3) := by decide +kernel
theorem d_Rf_settles_50 : decode M_Rf_settles.2.1 50 = .ok (.iload_n 2, 1) := by decide +kernel
theorem d_Rf_settles_51 : decode M_Rf_settles.2.1 51 = .ok (.aload_n 0, 1) := by decide +kernel
theorem d_Rf_settles_52 : decode M_Rf_settles.2.1 52 = .ok (.getfield 7, 3) := by decide +kernel
theorem d_Rf_settles_55 : decode M_Rf_settles.2.1 55 = .ok (.sipush 204, 3) := by decide +kernel
theorem d_Rf_settles_58 : decode M_Rf_settles.2.1 58 = .ok (.iload_n 1, 1) := by decide +kernel
theorem d_Rf_settles_59 : decode M_Rf_settles.2.1 59 = .ok (.iadd, 1) := by decide +kernel
theorem d_Rf_settles_60 : decode M_Rf_settles.2.1 60 = .ok (.iaload, 1) := by decide +kernel
theorem d_Rf_settles_61 : decode M_Rf_settles.2.1 61 = .ok (.if_icmp .ge 7, 3) := by decide +kernel
theorem d_Rf_settles_64 : decode M_Rf_settles.2.1 64 = .ok (.iload_n 2, 1) := by decide +kernel
theorem d_Rf_settles_65 : decode M_Rf_settles.2.1 65 = .ok (.goto 13, 3) := by decide +kernel
theorem d_Rf_settles_68 : decode M_Rf_settles.2.1 68 = .ok (.aload_n 0, 1) := by decide +kernel
theorem d_Rf_settles_69 : decode M_Rf_settles.2.1 69 = .ok (.getfield 7, 3) := by decide +kernel
theorem d_Rf_settles_72 : decode M_Rf_settles.2.1 72 = .ok (.sipush 204, 3) := by decide +kernel
theorem d_Rf_settles_75 : decode M_Rf_settles.2.1 75 = .ok (.iload_n 1, 1) := by decide +kernel
theorem d_Rf_settles_76 : decode M_Rf_settles.2.1 76 = .ok (.iadd, 1) := by decide +kernel
theorem d_Rf_settles_77 : decode M_Rf_settles.2.1 77 = .ok (.iaload, 1) := by decide +kernel
theorem d_Rf_settles_78 : decode M_Rf_settles.2.1 78 = .ok (.istore_n 3, 1) := by decide +kernel
theorem d_Rf_settles_79 : decode M_Rf_settles.2.1 79 = .ok (.aload_n 0, 1) := by decide +kernel
theorem d_Rf_settles_80 : decode M_Rf_settles.2.1 80 = .ok (.iload_n 1, 1) := by decide +kernel
theorem d_Rf_settles_81 : decode M_Rf_settles.2.1 81 = .ok (.iconst 2, 1) := by decide +kernel
theorem d_Rf_settles_82 : decode M_Rf_settles.2.1 82 = .ok (.invokevirtual 230, 3) := by decide +kernel
theorem d_Rf_settles_85 : decode M_Rf_settles.2.1 85 = .ok (.istore 4, 2) := by decide +kernel
theorem d_Rf_settles_87 : decode M_Rf_settles.2.1 87 = .ok (.aload_n 0, 1) := by decide +kernel
theorem d_Rf_settles_88 : decode M_Rf_settles.2.1 88 = .ok (.getfield 7, 3) := by decide +kernel
theorem d_Rf_settles_91 : decode M_Rf_settles.2.1 91 = .ok (.sipush 204, 3) := by decide +kernel
theorem d_Rf_settles_94 : decode M_Rf_settles.2.1 94 = .ok (.iload_n 1, 1) := by decide +kernel
theorem d_Rf_settles_95 : decode M_Rf_settles.2.1 95 = .ok (.iadd, 1) := by decide +kernel
theorem d_Rf_settles_96 : decode M_Rf_settles.2.1 96 = .ok (.dup2, 1) := by decide +kernel
theorem d_Rf_settles_97 : decode M_Rf_settles.2.1 97 = .ok (.iaload, 1) := by decide +kernel
theorem d_Rf_settles_98 : decode M_Rf_settles.2.1 98 = .ok (.iload_n 3, 1) := by decide +kernel
theorem d_Rf_settles_99 : decode M_Rf_settles.2.1 99 = .ok (.isub, 1) := by decide +kernel
theorem d_Rf_settles_100 : decode M_Rf_settles.2.1 100 = .ok (.iastore, 1) := by decide +kernel
theorem d_Rf_settles_101 : decode M_Rf_settles.2.1 101 = .ok (.aload_n 0, 1) := by decide +kernel
theorem d_Rf_settles_102 : decode M_Rf_settles.2.1 102 = .ok (.getfield 7, 3) := by decide +kernel
theorem d_Rf_settles_105 : decode M_Rf_settles.2.1 105 = .ok (.sipush 192, 3) := by decide +kernel
theorem d_Rf_settles_108 : decode M_Rf_settles.2.1 108 = .ok (.iload_n 1, 1) := by decide +kernel
theorem d_Rf_settles_109 : decode M_Rf_settles.2.1 109 = .ok (.iadd, 1) := by decide +kernel
theorem d_Rf_settles_110 : decode M_Rf_settles.2.1 110 = .ok (.dup2, 1) := by decide +kernel
theorem d_Rf_settles_111 : decode M_Rf_settles.2.1 111 = .ok (.iaload, 1) := by decide +kernel
theorem d_Rf_settles_112 : decode M_Rf_settles.2.1 112 = .ok (.iload_n 2, 1) := by decide +kernel
theorem d_Rf_settles_113 : decode M_Rf_settles.2.1 113 = .ok (.iload_n 3, 1) := by decide +kernel
theorem d_Rf_settles_114 : decode M_Rf_settles.2.1 114 = .ok (.isub, 1) := by decide +kernel
theorem d_Rf_settles_115 : decode M_Rf_settles.2.1 115 = .ok (.i2l, 1) := by decide +kernel
theorem d_Rf_settles_116 : decode M_Rf_settles.2.1 116 = .ok (.iload 4, 2) := by decide +kernel
theorem d_Rf_settles_118 : decode M_Rf_settles.2.1 118 = .ok (.bipush 100, 2) := by decide +kernel
theorem d_Rf_settles_120 : decode M_Rf_settles.2.1 120 = .ok (.if_icmp .le 8, 3) := by decide +kernel
theorem d_Rf_settles_123 : decode M_Rf_settles.2.1 123 = .ok (.bipush 100, 2) := by decide +kernel
theorem d_Rf_settles_125 : decode M_Rf_settles.2.1 125 = .ok (.goto 5, 3) := by decide +kernel
theorem d_Rf_settles_128 : decode M_Rf_settles.2.1 128 = .ok (.iload 4, 2) := by decide +kernel
theorem d_Rf_settles_130 : decode M_Rf_settles.2.1 130 = .ok (.i2l, 1) := by decide +kernel
theorem d_Rf_settles_131 : decode M_Rf_settles.2.1 131 = .ok (.lmul, 1) := by decide +kernel
theorem d_Rf_settles_132 : decode M_Rf_settles.2.1 132 = .ok (.ldc2_w 242, 3) := by decide +kernel
theorem d_Rf_settles_135 : decode M_Rf_settles.2.1 135 = .ok (.ldiv, 1) := by decide +kernel
theorem d_Rf_settles_136 : decode M_Rf_settles.2.1 136 = .ok (.l2i, 1) := by decide +kernel
theorem d_Rf_settles_137 : decode M_Rf_settles.2.1 137 = .ok (.iadd, 1) := by decide +kernel
theorem d_Rf_settles_138 : decode M_Rf_settles.2.1 138 = .ok (.iastore, 1) := by decide +kernel
theorem d_Rf_settles_139 : decode M_Rf_settles.2.1 139 = .ok (.aload_n 0, 1) := by decide +kernel
theorem d_Rf_settles_140 : decode M_Rf_settles.2.1 140 = .ok (.getfield 7, 3) := by decide +kernel
theorem d_Rf_settles_143 : decode M_Rf_settles.2.1 143 = .ok (.sipush 168, 3) := by decide +kernel
theorem d_Rf_settles_146 : decode M_Rf_settles.2.1 146 = .ok (.iload_n 1, 1) := by decide +kernel
theorem d_Rf_settles_147 : decode M_Rf_settles.2.1 147 = .ok (.iadd, 1) := by decide +kernel
theorem d_Rf_settles_148 : decode M_Rf_settles.2.1 148 = .ok (.iconst 0, 1) := by decide +kernel
theorem d_Rf_settles_149 : decode M_Rf_settles.2.1 149 = .ok (.iastore, 1) := by decide +kernel
theorem d_Rf_settles_150 : decode M_Rf_settles.2.1 150 = .ok (.aload_n 0, 1) := by decide +kernel
theorem d_Rf_settles_151 : decode M_Rf_settles.2.1 151 = .ok (.getfield 7, 3) := by decide +kernel
theorem d_Rf_settles_154 : decode M_Rf_settles.2.1 154 = .ok (.sipush 180, 3) := by decide +kernel
theorem d_Rf_settles_157 : decode M_Rf_settles.2.1 157 = .ok (.iload_n 1, 1) := by decide +kernel
theorem d_Rf_settles_158 : decode M_Rf_settles.2.1 158 = .ok (.iadd, 1) := by decide +kernel
theorem d_Rf_settles_159 : decode M_Rf_settles.2.1 159 = .ok (.iconst 0, 1) := by decide +kernel
theorem d_Rf_settles_160 : decode M_Rf_settles.2.1 160 = .ok (.iastore, 1) := by decide +kernel
theorem d_Rf_settles_161 : decode M_Rf_settles.2.1 161 = .ok (.return_, 1) := by decide +kernel
set_option maxHeartbeats 4000000 in
set_option maxRecDepth 100000 in
theorem ok_Rf_settles {D : xD} {N : Nat} {l : Launch} {d : Nat} {c z : T2} {P Q : Nat → Int32} {rest : List va_E} {K : Option Value → List va_E → Prop} {nb : Nat} (hnb : c 32 1 = nI nb) (h12 : nb ≤ 12) {m : Nat} (em : P 234 = nI m) (hm : m < 14700) {b s : Nat} (hb : b < 12) (hs : s < 6) (es : P (84 + b) = nI s) (hCI : CI c) (hK : K none (encR D N c z (stl P b (P (168 + b) - P (180 + b) - c 7 b) (lawv c P nb m s b 2)) Q ++ rest)) : Ok D N l (d + 5) M_Rf_settles [.ref (N + 0), .int (nI b)] (encR D N c z P Q ++ rest) 0 0 K := by
  refine ok_of (L := [(0, _), (1, _)]) (by decide) (Nat.le_of_ble_eq_true rfl) rfl ?_
  refine wp_aload_n (q := 1) d_Rf_settles_0 rfl rfl ?_
  refine wp_get (q := 4) fl_Rf_7 d_Rf_settles_1 rfl rfl rfl ?_
  refine wp_sipush (q := 7) d_Rf_settles_4 rfl sp_168 ?_
  refine wp_iload_n (q := 8) d_Rf_settles_7 rfl rfl ?_
  first | refine wp_iaddN (q := 9) d_Rf_settles_8 rfl ?_ | refine wp_iadd (q := 9) d_Rf_settles_8 rfl ?_
  refine wp_iald (q := 10) d_Rf_settles_9 rfl (rfl) (by omega) (by decide) ?_
  refine wp_aload_n (q := 11) d_Rf_settles_10 rfl rfl ?_
  refine wp_get (q := 14) fl_Rf_7 d_Rf_settles_11 rfl rfl rfl ?_
  refine wp_sipush (q := 17) d_Rf_settles_14 rfl sp_180 ?_
  refine wp_iload_n (q := 18) d_Rf_settles_17 rfl rfl ?_
  first | refine wp_iaddN (q := 19) d_Rf_settles_18 rfl ?_ | refine wp_iadd (q := 19) d_Rf_settles_18 rfl ?_
  refine wp_iald (q := 20) d_Rf_settles_19 rfl (rfl) (by omega) (by decide) ?_
  refine wp_isub (q := 21) d_Rf_settles_20 rfl ?_
  refine wp_aload_n (q := 22) d_Rf_settles_21 rfl rfl ?_
  refine wp_get (q := 25) fl_Rf_34 d_Rf_settles_22 rfl rfl rfl ?_
  refine wp_iload_n (q := 26) d_Rf_settles_25 rfl rfl ?_
  refine wp_iald (q := 27) d_Rf_settles_26 rfl (rfl) (by omega) (by decide) ?_
  refine wp_isub (q := 28) d_Rf_settles_27 rfl ?_
  refine wp_istore_n (q := 29) (L2 := [(2, _), (0, _), (1, _)]) d_Rf_settles_28 rfl (by decide) rfl ?_
  refine wp_iload_n (q := 30) d_Rf_settles_29 rfl rfl ?_
  refine wp_if_ge (q := 33) (tgt := 50) d_Rf_settles_30 (by decide) rfl (fun hc_30 => ?_) (fun hc_30 => ?_)
  · refine wp_iload_n (q := 51) d_Rf_settles_50 rfl rfl ?_
    refine wp_aload_n (q := 52) d_Rf_settles_51 rfl rfl ?_
    refine wp_get (q := 55) fl_Rf_7 d_Rf_settles_52 rfl rfl rfl ?_
    refine wp_sipush (q := 58) d_Rf_settles_55 rfl sp_204 ?_
    refine wp_iload_n (q := 59) d_Rf_settles_58 rfl rfl ?_
    first | refine wp_iaddN (q := 60) d_Rf_settles_59 rfl ?_ | refine wp_iadd (q := 60) d_Rf_settles_59 rfl ?_
    refine wp_iald (q := 61) d_Rf_settles_60 rfl (rfl) (by omega) (by decide) ?_
    refine wp_icmp_ge (q := 64) (tgt := 68) d_Rf_settles_61 (by decide) rfl (fun hc_61 => ?_) (fun hc_61 => ?_)
    · refine wp_aload_n (q := 69) d_Rf_settles_68 rfl rfl ?_
      refine wp_get (q := 72) fl_Rf_7 d_Rf_settles_69 rfl rfl rfl ?_
      refine wp_sipush (q := 75) d_Rf_settles_72 rfl sp_204 ?_
      refine wp_iload_n (q := 76) d_Rf_settles_75 rfl rfl ?_
      first | refine wp_iaddN (q := 77) d_Rf_settles_76 rfl ?_ | refine wp_iadd (q := 77) d_Rf_settles_76 rfl ?_
      refine wp_iald (q := 78) d_Rf_settles_77 rfl (rfl) (by omega) (by decide) ?_
      refine wp_istore_n (q := 79) (L2 := [(3, _), (2, _), (0, _), (1, _)]) d_Rf_settles_78 rfl (by decide) rfl ?_
      refine wp_aload_n (q := 80) d_Rf_settles_79 rfl rfl ?_
      refine wp_iload_n (q := 81) d_Rf_settles_80 rfl rfl ?_
      refine wp_iconst (q := 82) d_Rf_settles_81 rfl ic_2 ?_
      refine wp_cv2 (q := 85) lk_Rf_230 (ro _ _ _) d_Rf_settles_82 rfl (Nat.le_of_ble_eq_true rfl) (rfl) rfl (Nat.zero_le _) (Nat.zero_le _) ?_
      refine ok_Rf_lawOf hnb h12 em hm hb hs es (by decide) hCI ?_
      refine wp_istore (q := 87) (L2 := [(4, _), (3, _), (2, _), (0, _), (1, _)]) d_Rf_settles_85 rfl (by decide) rfl ?_
      refine wp_aload_n (q := 88) d_Rf_settles_87 rfl rfl ?_
      refine wp_get (q := 91) fl_Rf_7 d_Rf_settles_88 rfl rfl rfl ?_
      refine wp_sipush (q := 94) d_Rf_settles_91 rfl sp_204 ?_
      refine wp_iload_n (q := 95) d_Rf_settles_94 rfl rfl ?_
      first | refine wp_iaddN (q := 96) d_Rf_settles_95 rfl ?_ | refine wp_iadd (q := 96) d_Rf_settles_95 rfl ?_
      refine wp_dup2 (q := 97) d_Rf_settles_96 rfl rfl rfl ?_
      refine wp_iald (q := 98) d_Rf_settles_97 rfl (rfl) (by omega) (by decide) ?_
      refine wp_iload_n (q := 99) d_Rf_settles_98 rfl rfl ?_
      refine wp_isub (q := 100) d_Rf_settles_99 rfl ?_
      refine wp_iast (q := 101) d_Rf_settles_100 rfl (rfl) (by omega) (by decide) (fr_P) ?_
      refine wp_aload_n (q := 102) d_Rf_settles_101 rfl rfl ?_
      refine wp_get (q := 105) fl_Rf_7 d_Rf_settles_102 rfl rfl rfl ?_
      refine wp_sipush (q := 108) d_Rf_settles_105 rfl sp_192 ?_
      refine wp_iload_n (q := 109) d_Rf_settles_108 rfl rfl ?_
      first | refine wp_iaddN (q := 110) d_Rf_settles_109 rfl ?_ | refine wp_iadd (q := 110) d_Rf_settles_109 rfl ?_
      refine wp_dup2 (q := 111) d_Rf_settles_110 rfl rfl rfl ?_
      refine wp_iald (q := 112) d_Rf_settles_111 rfl (rfl) (by omega) (by decide) ?_
      simp (disch := omega) only [upd_ne, upd_eq]
      refine wp_iload_n (q := 113) d_Rf_settles_112 rfl rfl ?_
      refine wp_iload_n (q := 114) d_Rf_settles_113 rfl rfl ?_
      refine wp_isub (q := 115) d_Rf_settles_114 rfl ?_
      refine wp_i2l (q := 116) d_Rf_settles_115 rfl ?_
      refine wp_iload (q := 118) d_Rf_settles_116 rfl rfl ?_
      refine wp_bipush (q := 120) d_Rf_settles_118 rfl bp_100 ?_
      refine wp_icmp_le (q := 123) (tgt := 128) d_Rf_settles_120 (by decide) rfl (fun hc_120 => ?_) (fun hc_120 => ?_)
      · refine wp_iload (q := 130) d_Rf_settles_128 rfl rfl ?_
        refine wp_i2l (q := 131) d_Rf_settles_130 rfl ?_
        refine wp_lmul (q := 132) d_Rf_settles_131 rfl ?_
        refine wp_ldc2 (q := 135) d_Rf_settles_132 rfl kl_Rf_242 ?_
        refine wp_ldiv (q := 136) d_Rf_settles_135 rfl (by decide) ?_
        refine wp_l2i (q := 137) d_Rf_settles_136 rfl ?_
        first | refine wp_iaddN (q := 138) d_Rf_settles_137 rfl ?_ | refine wp_iadd (q := 138) d_Rf_settles_137 rfl ?_
        refine wp_iast (q := 139) d_Rf_settles_138 rfl (rfl) (by omega) (by decide) (fr_P) ?_
        refine wp_aload_n (q := 140) d_Rf_settles_139 rfl rfl ?_
        refine wp_get (q := 143) fl_Rf_7 d_Rf_settles_140 rfl rfl rfl ?_
        refine wp_sipush (q := 146) d_Rf_settles_143 rfl sp_168 ?_
        refine wp_iload_n (q := 147) d_Rf_settles_146 rfl rfl ?_
        first | refine wp_iaddN (q := 148) d_Rf_settles_147 rfl ?_ | refine wp_iadd (q := 148) d_Rf_settles_147 rfl ?_
        refine wp_iconst (q := 149) d_Rf_settles_148 rfl ic_0 ?_
        refine wp_iast (q := 150) d_Rf_settles_149 rfl (rfl) (by omega) (by decide) (fr_P) ?_
        refine wp_aload_n (q := 151) d_Rf_settles_150 rfl rfl ?_
        refine wp_get (q := 154) fl_Rf_7 d_Rf_settles_151 rfl rfl rfl ?_
        refine wp_sipush (q := 157) d_Rf_settles_154 rfl sp_180 ?_
        refine wp_iload_n (q := 158) d_Rf_settles_157 rfl rfl ?_
        first | refine wp_iaddN (q := 159) d_Rf_settles_158 rfl ?_ | refine wp_iadd (q := 159) d_Rf_settles_158 rfl ?_
        refine wp_iconst (q := 160) d_Rf_settles_159 rfl ic_0 ?_
        refine wp_iast (q := 161) d_Rf_settles_160 rfl (rfl) (by omega) (by decide) (fr_P) ?_
        refine wp_vret d_Rf_settles_161 rfl (Nat.le_refl _) (Nat.le_refl _) ?_
        refine kR hK rfl ?_
        first
          | (rw [stl, if_pos (nle_lt hc_30)]; try simp (disch := omega) only [upd_ne, upd_eq]; done)
          | (rw [stl, if_neg (le_nlt hc_30), pays, if_neg (le_nlt hc_61), if_neg (le_nlt hc_120)]; try simp (disch := omega) only [upd_ne, upd_eq]; done)
          | (rw [stl, if_neg (le_nlt hc_30), pays, if_neg (le_nlt hc_61), if_pos (nle_lt hc_120)]; try simp (disch := omega) only [upd_ne, upd_eq]; done)
          | (rw [stl, if_neg (le_nlt hc_30), pays, if_pos (nle_lt hc_61), if_neg (le_nlt hc_120)]; try simp (disch := omega) only [upd_ne, upd_eq]; done)
          | (rw [stl, if_neg (le_nlt hc_30), pays, if_pos (nle_lt hc_61), if_pos (nle_lt hc_120)]; try simp (disch := omega) only [upd_ne, upd_eq])
      · refine wp_bipush (q := 125) d_Rf_settles_123 rfl bp_100 ?_
        refine wp_goto (tgt := 130) d_Rf_settles_125 (by decide) ?_
        refine wp_i2l (q := 131) d_Rf_settles_130 rfl ?_
        refine wp_lmul (q := 132) d_Rf_settles_131 rfl ?_
        refine wp_ldc2 (q := 135) d_Rf_settles_132 rfl kl_Rf_242 ?_
        refine wp_ldiv (q := 136) d_Rf_settles_135 rfl (by decide) ?_
        refine wp_l2i (q := 137) d_Rf_settles_136 rfl ?_
        first | refine wp_iaddN (q := 138) d_Rf_settles_137 rfl ?_ | refine wp_iadd (q := 138) d_Rf_settles_137 rfl ?_
        refine wp_iast (q := 139) d_Rf_settles_138 rfl (rfl) (by omega) (by decide) (fr_P) ?_
        refine wp_aload_n (q := 140) d_Rf_settles_139 rfl rfl ?_
        refine wp_get (q := 143) fl_Rf_7 d_Rf_settles_140 rfl rfl rfl ?_
        refine wp_sipush (q := 146) d_Rf_settles_143 rfl sp_168 ?_
        refine wp_iload_n (q := 147) d_Rf_settles_146 rfl rfl ?_
        first | refine wp_iaddN (q := 148) d_Rf_settles_147 rfl ?_ | refine wp_iadd (q := 148) d_Rf_settles_147 rfl ?_
        refine wp_iconst (q := 149) d_Rf_settles_148 rfl ic_0 ?_
        refine wp_iast (q := 150) d_Rf_settles_149 rfl (rfl) (by omega) (by decide) (fr_P) ?_
        refine wp_aload_n (q := 151) d_Rf_settles_150 rfl rfl ?_
        refine wp_get (q := 154) fl_Rf_7 d_Rf_settles_151 rfl rfl rfl ?_
        refine wp_sipush (q := 157) d_Rf_settles_154 rfl sp_180 ?_
        refine wp_iload_n (q := 158) d_Rf_settles_157 rfl rfl ?_
        first | refine wp_iaddN (q := 159) d_Rf_settles_158 rfl ?_ | refine wp_iadd (q := 159) d_Rf_settles_158 rfl ?_
        refine wp_iconst (q := 160) d_Rf_settles_159 rfl ic_0 ?_
        refine wp_iast (q := 161) d_Rf_settles_160 rfl (rfl) (by omega) (by decide) (fr_P) ?_
        refine wp_vret d_Rf_settles_161 rfl (Nat.le_refl _) (Nat.le_refl _) ?_
        refine kR hK rfl ?_
        first
          | (rw [stl, if_pos (nle_lt hc_30)]; try simp (disch := omega) only [upd_ne, upd_eq]; done)
          | (rw [stl, if_neg (le_nlt hc_30), pays, if_neg (le_nlt hc_61), if_neg (le_nlt hc_120)]; try simp (disch := omega) only [upd_ne, upd_eq]; done)
          | (rw [stl, if_neg (le_nlt hc_30), pays, if_neg (le_nlt hc_61), if_pos (nle_lt hc_120)]; try simp (disch := omega) only [upd_ne, upd_eq]; done)
          | (rw [stl, if_neg (le_nlt hc_30), pays, if_pos (nle_lt hc_61), if_neg (le_nlt hc_120)]; try simp (disch := omega) only [upd_ne, upd_eq]; done)
          | (rw [stl, if_neg (le_nlt hc_30), pays, if_pos (nle_lt hc_61), if_pos (nle_lt hc_120)]; try simp (disch := omega) only [upd_ne, upd_eq])
    · refine wp_iload_n (q := 65) d_Rf_settles_64 rfl rfl ?_
      refine wp_goto (tgt := 78) d_Rf_settles_65 (by decide) ?_
      refine wp_istore_n (q := 79) (L2 := [(3, _), (2, _), (0, _), (1, _)]) d_Rf_settles_78 rfl (by decide) rfl ?_
      refine wp_aload_n (q := 80) d_Rf_settles_79 rfl rfl ?_
      refine wp_iload_n (q := 81) d_Rf_settles_80 rfl rfl ?_
      refine wp_iconst (q := 82) d_Rf_settles_81 rfl ic_2 ?_
      refine wp_cv2 (q := 85) lk_Rf_230 (ro _ _ _) d_Rf_settles_82 rfl (Nat.le_of_ble_eq_true rfl) (rfl) rfl (Nat.zero_le _) (Nat.zero_le _) ?_
      refine ok_Rf_lawOf hnb h12 em hm hb hs es (by decide) hCI ?_
      refine wp_istore (q := 87) (L2 := [(4, _), (3, _), (2, _), (0, _), (1, _)]) d_Rf_settles_85 rfl (by decide) rfl ?_
      refine wp_aload_n (q := 88) d_Rf_settles_87 rfl rfl ?_
      refine wp_get (q := 91) fl_Rf_7 d_Rf_settles_88 rfl rfl rfl ?_
      refine wp_sipush (q := 94) d_Rf_settles_91 rfl sp_204 ?_
      refine wp_iload_n (q := 95) d_Rf_settles_94 rfl rfl ?_
      first | refine wp_iaddN (q := 96) d_Rf_settles_95 rfl ?_ | refine wp_iadd (q := 96) d_Rf_settles_95 rfl ?_
      refine wp_dup2 (q := 97) d_Rf_settles_96 rfl rfl rfl ?_
      refine wp_iald (q := 98) d_Rf_settles_97 rfl (rfl) (by omega) (by decide) ?_
      refine wp_iload_n (q := 99) d_Rf_settles_98 rfl rfl ?_
      refine wp_isub (q := 100) d_Rf_settles_99 rfl ?_
      refine wp_iast (q := 101) d_Rf_settles_100 rfl (rfl) (by omega) (by decide) (fr_P) ?_
      refine wp_aload_n (q := 102) d_Rf_settles_101 rfl rfl ?_
      refine wp_get (q := 105) fl_Rf_7 d_Rf_settles_102 rfl rfl rfl ?_
      refine wp_sipush (q := 108) d_Rf_settles_105 rfl sp_192 ?_
      refine wp_iload_n (q := 109) d_Rf_settles_108 rfl rfl ?_
      first | refine wp_iaddN (q := 110) d_Rf_settles_109 rfl ?_ | refine wp_iadd (q := 110) d_Rf_settles_109 rfl ?_
      refine wp_dup2 (q := 111) d_Rf_settles_110 rfl rfl rfl ?_
      refine wp_iald (q := 112) d_Rf_settles_111 rfl (rfl) (by omega) (by decide) ?_
      simp (disch := omega) only [upd_ne, upd_eq]
      refine wp_iload_n (q := 113) d_Rf_settles_112 rfl rfl ?_
      refine wp_iload_n (q := 114) d_Rf_settles_113 rfl rfl ?_
      refine wp_isub (q := 115) d_Rf_settles_114 rfl ?_
      refine wp_i2l (q := 116) d_Rf_settles_115 rfl ?_
      refine wp_iload (q := 118) d_Rf_settles_116 rfl rfl ?_
      refine wp_bipush (q := 120) d_Rf_settles_118 rfl bp_100 ?_
      refine wp_icmp_le (q := 123) (tgt := 128) d_Rf_settles_120 (by decide) rfl (fun hc_120 => ?_) (fun hc_120 => ?_)
      · refine wp_iload (q := 130) d_Rf_settles_128 rfl rfl ?_
        refine wp_i2l (q := 131) d_Rf_settles_130 rfl ?_
        refine wp_lmul (q := 132) d_Rf_settles_131 rfl ?_
        refine wp_ldc2 (q := 135) d_Rf_settles_132 rfl kl_Rf_242 ?_
        refine wp_ldiv (q := 136) d_Rf_settles_135 rfl (by decide) ?_
        refine wp_l2i (q := 137) d_Rf_settles_136 rfl ?_
        first | refine wp_iaddN (q := 138) d_Rf_settles_137 rfl ?_ | refine wp_iadd (q := 138) d_Rf_settles_137 rfl ?_
        refine wp_iast (q := 139) d_Rf_settles_138 rfl (rfl) (by omega) (by decide) (fr_P) ?_
        refine wp_aload_n (q := 140) d_Rf_settles_139 rfl rfl ?_
        refine wp_get (q := 143) fl_Rf_7 d_Rf_settles_140 rfl rfl rfl ?_
        refine wp_sipush (q := 146) d_Rf_settles_143 rfl sp_168 ?_
        refine wp_iload_n (q := 147) d_Rf_settles_146 rfl rfl ?_
        first | refine wp_iaddN (q := 148) d_Rf_settles_147 rfl ?_ | refine wp_iadd (q := 148) d_Rf_settles_147 rfl ?_
        refine wp_iconst (q := 149) d_Rf_settles_148 rfl ic_0 ?_
        refine wp_iast (q := 150) d_Rf_settles_149 rfl (rfl) (by omega) (by decide) (fr_P) ?_
        refine wp_aload_n (q := 151) d_Rf_settles_150 rfl rfl ?_
        refine wp_get (q := 154) fl_Rf_7 d_Rf_settles_151 rfl rfl rfl ?_
        refine wp_sipush (q := 157) d_Rf_settles_154 rfl sp_180 ?_
        refine wp_iload_n (q := 158) d_Rf_settles_157 rfl rfl ?_
        first | refine wp_iaddN (q := 159) d_Rf_settles_158 rfl ?_ | refine wp_iadd (q := 159) d_Rf_settles_158 rfl ?_
        refine wp_iconst (q := 160) d_Rf_settles_159 rfl ic_0 ?_
        refine wp_iast (q := 161) d_Rf_settles_160 rfl (rfl) (by omega) (by decide) (fr_P) ?_
        refine wp_vret d_Rf_settles_161 rfl (Nat.le_refl _) (Nat.le_refl _) ?_
        refine kR hK rfl ?_
        first
          | (rw [stl, if_pos (nle_lt hc_30)]; try simp (disch := omega) only [upd_ne, upd_eq]; done)
          | (rw [stl, if_neg (le_nlt hc_30), pays, if_neg (le_nlt hc_61), if_neg (le_nlt hc_120)]; try simp (disch := omega) only [upd_ne, upd_eq]; done)
          | (rw [stl, if_neg (le_nlt hc_30), pays, if_neg (le_nlt hc_61), if_pos (nle_lt hc_120)]; try simp (disch := omega) only [upd_ne, upd_eq]; done)
          | (rw [stl, if_neg (le_nlt hc_30), pays, if_pos (nle_lt hc_61), if_neg (le_nlt hc_120)]; try simp (disch := omega) only [upd_ne, upd_eq]; done)
          | (rw [stl, if_neg (le_nlt hc_30), pays, if_pos (nle_lt hc_61), if_pos (nle_lt hc_120)]; try simp (disch := omega) only [upd_ne, upd_eq])
      · refine wp_bipush (q := 125) d_Rf_settles_123 rfl bp_100 ?_
        refine wp_goto (tgt := 130) d_Rf_settles_125 (by decide) ?_
        refine wp_i2l (q := 131) d_Rf_settles_130 rfl ?_
        refine wp_lmul (q := 132) d_Rf_settles_131 rfl ?_
        refine wp_ldc2 (q := 135) d_Rf_settles_132 rfl kl_Rf_242 ?_
        refine wp_ldiv (q := 136) d_Rf_settles_135 rfl (by decide) ?_
        refine wp_l2i (q := 137) d_Rf_settles_136 rfl ?_
        first | refine wp_iaddN (q := 138) d_Rf_settles_137 rfl ?_ | refine wp_iadd (q := 138) d_Rf_settles_137 rfl ?_
        refine wp_iast (q := 139) d_Rf_settles_138 rfl (rfl) (by omega) (by decide) (fr_P) ?_
        refine wp_aload_n (q := 140) d_Rf_settles_139 rfl rfl ?_
        refine wp_get (q := 143) fl_Rf_7 d_Rf_settles_140 rfl rfl rfl ?_
        refine wp_sipush (q := 146) d_Rf_settles_143 rfl sp_168 ?_
        refine wp_iload_n (q := 147) d_Rf_settles_146 rfl rfl ?_
        first | refine wp_iaddN (q := 148) d_Rf_settles_147 rfl ?_ | refine wp_iadd (q := 148) d_Rf_settles_147 rfl ?_
        refine wp_iconst (q := 149) d_Rf_settles_148 rfl ic_0 ?_
        refine wp_iast (q := 150) d_Rf_settles_149 rfl (rfl) (by omega) (by decide) (fr_P) ?_
        refine wp_aload_n (q := 151) d_Rf_settles_150 rfl rfl ?_
        refine wp_get (q := 154) fl_Rf_7 d_Rf_settles_151 rfl rfl rfl ?_
        refine wp_sipush (q := 157) d_Rf_settles_154 rfl sp_180 ?_
        refine wp_iload_n (q := 158) d_Rf_settles_157 rfl rfl ?_
        first | refine wp_iaddN (q := 159) d_Rf_settles_158 rfl ?_ | refine wp_iadd (q := 159) d_Rf_settles_158 rfl ?_
        refine wp_iconst (q := 160) d_Rf_settles_159 rfl ic_0 ?_
        refine wp_iast (q := 161) d_Rf_settles_160 rfl (rfl) (by omega) (by decide) (fr_P) ?_
        refine wp_vret d_Rf_settles_161 rfl (Nat.le_refl _) (Nat.le_refl _) ?_
        refine kR hK rfl ?_
        first
          | (rw [stl, if_pos (nle_lt hc_30)]; try simp (disch := omega) only [upd_ne, upd_eq]; done)
          | (rw [stl, if_neg (le_nlt hc_30), pays, if_neg (le_nlt hc_61), if_neg (le_nlt hc_120)]; try simp (disch := omega) only [upd_ne, upd_eq]; done)
          | (rw [stl, if_neg (le_nlt hc_30), pays, if_neg (le_nlt hc_61), if_pos (nle_lt hc_120)]; try simp (disch := omega) only [upd_ne, upd_eq]; done)
          | (rw [stl, if_neg (le_nlt hc_30), pays, if_pos (nle_lt hc_61), if_neg (le_nlt hc_120)]; try simp (disch := omega) only [upd_ne, upd_eq]; done)
          | (rw [stl, if_neg (le_nlt hc_30), pays, if_pos (nle_lt hc_61), if_pos (nle_lt hc_120)]; try simp (disch := omega) only [upd_ne, upd_eq])
  · refine wp_aload_n (q := 34) d_Rf_settles_33 rfl rfl ?_
    refine wp_get (q := 37) fl_Rf_7 d_Rf_settles_34 rfl rfl rfl ?_
    refine wp_sipush (q := 40) d_Rf_settles_37 rfl sp_204 ?_
    refine wp_iload_n (q := 41) d_Rf_settles_40 rfl rfl ?_
    first | refine wp_iaddN (q := 42) d_Rf_settles_41 rfl ?_ | refine wp_iadd (q := 42) d_Rf_settles_41 rfl ?_
    refine wp_dup2 (q := 43) d_Rf_settles_42 rfl rfl rfl ?_
    refine wp_iald (q := 44) d_Rf_settles_43 rfl (rfl) (by omega) (by decide) ?_
    refine wp_iload_n (q := 45) d_Rf_settles_44 rfl rfl ?_
    refine wp_isub (q := 46) d_Rf_settles_45 rfl ?_
    refine wp_iast (q := 47) d_Rf_settles_46 rfl (rfl) (by omega) (by decide) (fr_P) ?_
    refine wp_goto (tgt := 139) d_Rf_settles_47 (by decide) ?_
    refine wp_aload_n (q := 140) d_Rf_settles_139 rfl rfl ?_
    refine wp_get (q := 143) fl_Rf_7 d_Rf_settles_140 rfl rfl rfl ?_
    refine wp_sipush (q := 146) d_Rf_settles_143 rfl sp_168 ?_
    refine wp_iload_n (q := 147) d_Rf_settles_146 rfl rfl ?_
    first | refine wp_iaddN (q := 148) d_Rf_settles_147 rfl ?_ | refine wp_iadd (q := 148) d_Rf_settles_147 rfl ?_
    refine wp_iconst (q := 149) d_Rf_settles_148 rfl ic_0 ?_
    refine wp_iast (q := 150) d_Rf_settles_149 rfl (rfl) (by omega) (by decide) (fr_P) ?_
    refine wp_aload_n (q := 151) d_Rf_settles_150 rfl rfl ?_
    refine wp_get (q := 154) fl_Rf_7 d_Rf_settles_151 rfl rfl rfl ?_
    refine wp_sipush (q := 157) d_Rf_settles_154 rfl sp_180 ?_
    refine wp_iload_n (q := 158) d_Rf_settles_157 rfl rfl ?_
    first | refine wp_iaddN (q := 159) d_Rf_settles_158 rfl ?_ | refine wp_iadd (q := 159) d_Rf_settles_158 rfl ?_
    refine wp_iconst (q := 160) d_Rf_settles_159 rfl ic_0 ?_
    refine wp_iast (q := 161) d_Rf_settles_160 rfl (rfl) (by omega) (by decide) (fr_P) ?_
    refine wp_vret d_Rf_settles_161 rfl (Nat.le_refl _) (Nat.le_refl _) ?_
    refine kR hK rfl ?_
    first
      | (rw [stl, if_pos (nle_lt hc_30)]; try simp (disch := omega) only [upd_ne, upd_eq]; done)
      | (rw [stl, if_neg (le_nlt hc_30), pays, if_neg (le_nlt hc_61), if_neg (le_nlt hc_120)]; try simp (disch := omega) only [upd_ne, upd_eq]; done)
      | (rw [stl, if_neg (le_nlt hc_30), pays, if_neg (le_nlt hc_61), if_pos (nle_lt hc_120)]; try simp (disch := omega) only [upd_ne, upd_eq]; done)
      | (rw [stl, if_neg (le_nlt hc_30), pays, if_pos (nle_lt hc_61), if_neg (le_nlt hc_120)]; try simp (disch := omega) only [upd_ne, upd_eq]; done)
      | (rw [stl, if_neg (le_nlt hc_30), pays, if_pos (nle_lt hc_61), if_pos (nle_lt hc_120)]; try simp (disch := omega) only [upd_ne, upd_eq])
theorem d_Tn_settle_0 : decode M_Tn_settle.2.1 0 = .ok (.aload_n 1, 1) := by decide +kernel
theorem d_Tn_settle_1 : decode M_Tn_settle.2.1 1 = .ok (.getfield 115, 3) := by decide +kernel
theorem d_Tn_settle_4 : decode M_Tn_settle.2.1 4 = .ok (.iload_n 2, 1) := by decide +kernel
theorem d_Tn_settle_5 : decode M_Tn_settle.2.1 5 = .ok (.aaload, 1) := by decide +kernel
theorem d_Tn_settle_6 : decode M_Tn_settle.2.1 6 = .ok (.astore_n 3, 1) := by decide +kernel
theorem d_Tn_settle_7 : decode M_Tn_settle.2.1 7 = .ok (.aload_n 3, 1) := by decide +kernel
theorem d_Tn_settle_8 : decode M_Tn_settle.2.1 8 = .ok (.getfield 146, 3) := by decide +kernel
theorem d_Tn_settle_11 : decode M_Tn_settle.2.1 11 = .ok (.aload_n 3, 1) := by decide +kernel
theorem d_Tn_settle_12 : decode M_Tn_settle.2.1 12 = .ok (.getfield 227, 3) := by decide +kernel
theorem d_Tn_settle_15 : decode M_Tn_settle.2.1 15 = .ok (.isub, 1) := by decide +kernel
theorem d_Tn_settle_16 : decode M_Tn_settle.2.1 16 = .ok (.aload_n 0, 1) := by decide +kernel
theorem d_Tn_settle_17 : decode M_Tn_settle.2.1 17 = .ok (.getfield 27, 3) := by decide +kernel
theorem d_Tn_settle_20 : decode M_Tn_settle.2.1 20 = .ok (.iload_n 2, 1) := by decide +kernel
theorem d_Tn_settle_21 : decode M_Tn_settle.2.1 21 = .ok (.iaload, 1) := by decide +kernel
theorem d_Tn_settle_22 : decode M_Tn_settle.2.1 22 = .ok (.isub, 1) := by decide +kernel
theorem d_Tn_settle_23 : decode M_Tn_settle.2.1 23 = .ok (.istore 4, 2) := by decide +kernel
theorem d_Tn_settle_25 : decode M_Tn_settle.2.1 25 = .ok (.iload 4, 2) := by decide +kernel
theorem d_Tn_settle_27 : decode M_Tn_settle.2.1 27 = .ok (.ifCond .ge 17, 3) := by decide +kernel
theorem d_Tn_settle_30 : decode M_Tn_settle.2.1 30 = .ok (.aload_n 3, 1) := by decide +kernel
theorem d_Tn_settle_31 : decode M_Tn_settle.2.1 31 = .ok (.dup, 1) := by decide +kernel
theorem d_Tn_settle_32 : decode M_Tn_settle.2.1 32 = .ok (.getfield 248, 3) := by decide +kernel
theorem d_Tn_settle_35 : decode M_Tn_settle.2.1 35 = .ok (.iload 4, 2) := by decide +kernel
theorem d_Tn_settle_37 : decode M_Tn_settle.2.1 37 = .ok (.isub, 1) := by decide +kernel
theorem d_Tn_settle_38 : decode M_Tn_settle.2.1 38 = .ok (.putfield 248, 3) := by decide +kernel
theorem d_Tn_settle_41 : decode M_Tn_settle.2.1 41 = .ok (.goto 67, 3) := by decide +kernel
theorem d_Tn_settle_44 : decode M_Tn_settle.2.1 44 = .ok (.iload 4, 2) := by decide +kernel
theorem d_Tn_settle_46 : decode M_Tn_settle.2.1 46 = .ok (.aload_n 3, 1) := by decide +kernel
theorem d_Tn_settle_47 : decode M_Tn_settle.2.1 47 = .ok (.getfield 248, 3) := by decide +kernel
theorem d_Tn_settle_50 : decode M_Tn_settle.2.1 50 = .ok (.invokestatic 95, 3) := by decide +kernel
theorem d_Tn_settle_53 : decode M_Tn_settle.2.1 53 = .ok (.istore 5, 2) := by decide +kernel
theorem d_Tn_settle_55 : decode M_Tn_settle.2.1 55 = .ok (.bipush 100, 2) := by decide +kernel
theorem d_Tn_settle_57 : decode M_Tn_settle.2.1 57 = .ok (.aload_n 0, 1) := by decide +kernel
theorem d_Tn_settle_58 : decode M_Tn_settle.2.1 58 = .ok (.aload_n 0, 1) := by decide +kernel
theorem d_Tn_settle_59 : decode M_Tn_settle.2.1 59 = .ok (.aload_n 1, 1) := by decide +kernel
theorem d_Tn_settle_60 : decode M_Tn_settle.2.1 60 = .ok (.iload_n 2, 1) := by decide +kernel
theorem d_Tn_settle_61 : decode M_Tn_settle.2.1 61 = .ok (.invokevirtual 192, 3) := by decide +kernel
theorem d_Tn_settle_64 : decode M_Tn_settle.2.1 64 = .ok (.iconst 2, 1) := by decide +kernel
theorem d_Tn_settle_65 : decode M_Tn_settle.2.1 65 = .ok (.invokevirtual 196, 3) := by decide +kernel
theorem d_Tn_settle_68 : decode M_Tn_settle.2.1 68 = .ok (.invokestatic 95, 3) := by decide +kernel
theorem d_Tn_settle_71 : decode M_Tn_settle.2.1 71 = .ok (.i2l, 1) := by decide +kernel
theorem d_Tn_settle_72 : decode M_Tn_settle.2.1 72 = .ok (.lstore 6, 2) := by decide +kernel
theorem d_Tn_settle_74 : decode M_Tn_settle.2.1 74 = .ok (.aload_n 3, 1) := by decide +kernel
theorem d_Tn_settle_75 : decode M_Tn_settle.2.1 75 = .ok (.dup, 1) := by decide +kernel
theorem d_Tn_settle_76 : decode M_Tn_settle.2.1 76 = .ok (.getfield 248, 3) := by decide +kernel
theorem d_Tn_settle_79 : decode M_Tn_settle.2.1 79 = .ok (.iload 5, 2) := by decide +kernel
theorem d_Tn_settle_81 : decode M_Tn_settle.2.1 81 = .ok (.isub, 1) := by decide +kernel
theorem d_Tn_settle_82 : decode M_Tn_settle.2.1 82 = .ok (.putfield 248, 3) := by decide +kernel
theorem d_Tn_settle_85 : decode M_Tn_settle.2.1 85 = .ok (.aload_n 3, 1) := by decide +kernel
theorem d_Tn_settle_86 : decode M_Tn_settle.2.1 86 = .ok (.dup, 1) := by decide +kernel
theorem d_Tn_settle_87 : decode M_Tn_settle.2.1 87 = .ok (.getfield 251, 3) := by decide +kernel
theorem d_Tn_settle_90 : decode M_Tn_settle.2.1 90 = .ok (.iload 4, 2) := by decide +kernel
theorem d_Tn_settle_92 : decode M_Tn_settle.2.1 92 = .ok (.iload 5, 2) := by decide +kernel
theorem d_Tn_settle_94 : decode M_Tn_settle.2.1 94 = .ok (.isub, 1) := by decide +kernel
theorem d_Tn_settle_95 : decode M_Tn_settle.2.1 95 = .ok (.i2l, 1) := by decide +kernel
theorem d_Tn_settle_96 : decode M_Tn_settle.2.1 96 = .ok (.lload 6, 2) := by decide +kernel
theorem d_Tn_settle_98 : decode M_Tn_settle.2.1 98 = .ok (.lmul, 1) := by decide +kernel
theorem d_Tn_settle_99 : decode M_Tn_settle.2.1 99 = .ok (.ldc2_w 254, 3) := by decide +kernel
theorem d_Tn_settle_102 : decode M_Tn_settle.2.1 102 = .ok (.ldiv, 1) := by decide +kernel
theorem d_Tn_settle_103 : decode M_Tn_settle.2.1 103 = .ok (.l2i, 1) := by decide +kernel
theorem d_Tn_settle_104 : decode M_Tn_settle.2.1 104 = .ok (.iadd, 1) := by decide +kernel
theorem d_Tn_settle_105 : decode M_Tn_settle.2.1 105 = .ok (.putfield 251, 3) := by decide +kernel
theorem d_Tn_settle_108 : decode M_Tn_settle.2.1 108 = .ok (.aload_n 3, 1) := by decide +kernel
theorem d_Tn_settle_109 : decode M_Tn_settle.2.1 109 = .ok (.iconst 0, 1) := by decide +kernel
theorem d_Tn_settle_110 : decode M_Tn_settle.2.1 110 = .ok (.putfield 146, 3) := by decide +kernel
theorem d_Tn_settle_113 : decode M_Tn_settle.2.1 113 = .ok (.aload_n 3, 1) := by decide +kernel
theorem d_Tn_settle_114 : decode M_Tn_settle.2.1 114 = .ok (.iconst 0, 1) := by decide +kernel
theorem d_Tn_settle_115 : decode M_Tn_settle.2.1 115 = .ok (.putfield 227, 3) := by decide +kernel
theorem d_Tn_settle_118 : decode M_Tn_settle.2.1 118 = .ok (.return_, 1) := by decide +kernel
set_option maxHeartbeats 4000000 in
set_option maxRecDepth 100000 in
theorem ok_Tn_settle {D : xD} {N : Nat} {l : Launch} {d : Nat} {c x V : T2} {P : Nat → Int32} {w : Nat} {ln df : Nat → Option Nat} {rest : List va_E} {K : Option Value → List va_E → Prop} {nb : Nat} (h12 : nb ≤ 12) (hz : ∀ b, nb ≤ b → b < 12 → P (72 + b) = nI 0) (hw : w < 3) {m : Nat} (em : P 234 = nI m) (hm : m < 14700) {b s : Nat} (hb : b < 12) (hs : s < 6) (es : P (84 + b) = nI s) (hCI : CI c) (hLOK : LOK D N c ln rest) (hK : ∀ x2 : T2, K none (encC D N c x2 (va_up V w (stl P b (P (168 + b) - P (180 + b) - c 7 b) (lawv c P nb m s b 2))) ln df ++ rest)) : Ok D N l (d + 3) M_Tn_settle [.ref (N + 1), .ref (N + wA w), .int (nI b)] (encC D N c x (va_up V w P) ln df ++ rest) 0 0 K := by
  refine ok_of (L := [(0, _), (1, _), (2, _)]) (by decide) (Nat.le_of_ble_eq_true rfl) rfl ?_
  refine wp_aload_n (q := 1) d_Tn_settle_0 rfl rfl ?_
  refine wp_get (q := 4) fl_Tn_115 d_Tn_settle_1 rfl (rdO (w := w) hw) rfl ?_
  refine wp_iload_n (q := 5) d_Tn_settle_4 rfl rfl ?_
  refine wp_aldR (q := 6) d_Tn_settle_5 rfl (rd4 (w := w) hw) (by omega) (by decide) (rowsW_at (by omega)) ?_
  refine wp_astore_n (q := 7) (L2 := [(3, _), (0, _), (1, _), (2, _)]) d_Tn_settle_6 rfl (by decide) rfl ?_
  refine wp_aload_n (q := 8) d_Tn_settle_7 rfl rfl ?_
  refine wp_get (q := 11) fl_Tn_146 d_Tn_settle_8 rfl (rdR (w := w) hw hb) rfl ?_
  refine wp_aload_n (q := 12) d_Tn_settle_11 rfl rfl ?_
  refine wp_get (q := 15) fl_Tn_227 d_Tn_settle_12 rfl (rdR (w := w) hw hb) rfl ?_
  refine wp_isub (q := 16) d_Tn_settle_15 rfl ?_
  refine wp_aload_n (q := 17) d_Tn_settle_16 rfl rfl ?_
  refine wp_get (q := 20) fl_Tn_27 d_Tn_settle_17 rfl rfl rfl ?_
  refine wp_iload_n (q := 21) d_Tn_settle_20 rfl rfl ?_
  refine wp_iald (q := 22) d_Tn_settle_21 rfl (rfl) (by omega) (by decide) ?_
  refine wp_isub (q := 23) d_Tn_settle_22 rfl ?_
  refine wp_istore (q := 25) (L2 := [(4, _), (3, _), (0, _), (1, _), (2, _)]) d_Tn_settle_23 rfl (by decide) rfl ?_
  refine wp_iload (q := 27) d_Tn_settle_25 rfl rfl ?_
  refine wp_if_ge (q := 30) (tgt := 44) d_Tn_settle_27 (by decide) rfl (fun hc_27 => ?_) (fun hc_27 => ?_)
  · refine wp_iload (q := 46) d_Tn_settle_44 rfl rfl ?_
    refine wp_aload_n (q := 47) d_Tn_settle_46 rfl rfl ?_
    refine wp_get (q := 50) fl_Tn_248 d_Tn_settle_47 rfl (rdR (w := w) hw hb) rfl ?_
    refine wp_mmin km_Tn_95 (RO0 ()) d_Tn_settle_50 rfl (Nat.le_of_ble_eq_true rfl) (Nat.zero_le _) (Nat.zero_le _) ?_
    rw [minE]
    refine wp_istore (q := 55) (L2 := [(5, _), (4, _), (3, _), (0, _), (1, _), (2, _)]) d_Tn_settle_53 rfl (by decide) rfl ?_
    refine wp_bipush (q := 57) d_Tn_settle_55 rfl bp_100 ?_
    refine wp_aload_n (q := 58) d_Tn_settle_57 rfl rfl ?_
    refine wp_aload_n (q := 59) d_Tn_settle_58 rfl rfl ?_
    refine wp_aload_n (q := 60) d_Tn_settle_59 rfl rfl ?_
    refine wp_iload_n (q := 61) d_Tn_settle_60 rfl rfl ?_
    refine wp_cv2 (q := 64) lk_Tn_192 (ro _ _ _) d_Tn_settle_61 rfl (Nat.le_of_ble_eq_true rfl) (rfl) rfl (Nat.zero_le _) (Nat.zero_le _) ?_
    refine ok_Tn_factsOf (w := w) h12 hz hw em hm hb hs es ?_
    intro F hF
    refine wp_iconst (q := 65) d_Tn_settle_64 rfl ic_2 ?_
    refine wp_cv2 (q := 68) lk_Tn_196 (ro _ _ _) d_Tn_settle_65 rfl (Nat.le_of_ble_eq_true rfl) (rfl) rfl (Nat.zero_le _) (Nat.zero_le _) ?_
    refine ok_Tn_says (P := P) (nb := nb) (m := m) (s := s) (b := b) (key := 2) hs (by decide) hCI hLOK (fun f hf => by rw [tput_eq]; exact hF f hf) ?_
    refine wp_mmin km_Tn_95 (RO0 ()) d_Tn_settle_68 rfl (Nat.le_of_ble_eq_true rfl) (Nat.zero_le _) (Nat.zero_le _) ?_
    rw [minE (nI 100)]
    refine wp_i2l (q := 72) d_Tn_settle_71 rfl ?_
    refine wp_lstore (q := 74) (L2 := [(6, _), (5, _), (4, _), (3, _), (0, _), (1, _), (2, _)]) d_Tn_settle_72 rfl (by decide) rfl ?_
    refine wp_aload_n (q := 75) d_Tn_settle_74 rfl rfl ?_
    refine wp_dup (q := 76) d_Tn_settle_75 rfl rfl ?_
    refine wp_get (q := 79) fl_Tn_248 d_Tn_settle_76 rfl (rdR (w := w) hw hb) rfl ?_
    refine wp_iload (q := 81) d_Tn_settle_79 rfl rfl ?_
    refine wp_isub (q := 82) d_Tn_settle_81 rfl ?_
    refine wp_put (q := 85) fl_Tn_248 d_Tn_settle_82 rfl (rdR (w := w) hw hb) (Nat.le_of_ble_eq_true rfl) rfl rfl (fdw (w := w) hw (by omega) (ws_r11 hb)) ?_
    refine wp_aload_n (q := 86) d_Tn_settle_85 rfl rfl ?_
    refine wp_dup (q := 87) d_Tn_settle_86 rfl rfl ?_
    refine wp_get (q := 90) fl_Tn_251 d_Tn_settle_87 rfl (rdR (w := w) hw hb) rfl ?_
    simp (disch := omega) only [upd_ne, upd_eq]
    refine wp_iload (q := 92) d_Tn_settle_90 rfl rfl ?_
    refine wp_iload (q := 94) d_Tn_settle_92 rfl rfl ?_
    refine wp_isub (q := 95) d_Tn_settle_94 rfl ?_
    refine wp_i2l (q := 96) d_Tn_settle_95 rfl ?_
    refine wp_lload (q := 98) d_Tn_settle_96 rfl rfl ?_
    refine wp_lmul (q := 99) d_Tn_settle_98 rfl ?_
    refine wp_ldc2 (q := 102) d_Tn_settle_99 rfl kl_Tn_254 ?_
    refine wp_ldiv (q := 103) d_Tn_settle_102 rfl (by decide) ?_
    refine wp_l2i (q := 104) d_Tn_settle_103 rfl ?_
    first | refine wp_iaddN (q := 105) d_Tn_settle_104 rfl ?_ | refine wp_iadd (q := 105) d_Tn_settle_104 rfl ?_
    refine wp_put (q := 108) fl_Tn_251 d_Tn_settle_105 rfl (rdR (w := w) hw hb) (Nat.le_of_ble_eq_true rfl) rfl rfl (fdw (w := w) hw (by omega) (ws_r10 hb)) ?_
    refine wp_aload_n (q := 109) d_Tn_settle_108 rfl rfl ?_
    refine wp_iconst (q := 110) d_Tn_settle_109 rfl ic_0 ?_
    refine wp_put (q := 113) fl_Tn_146 d_Tn_settle_110 rfl (rdR (w := w) hw hb) (Nat.le_of_ble_eq_true rfl) rfl rfl (fdw (w := w) hw (by omega) (ws_r8 hb)) ?_
    refine wp_aload_n (q := 114) d_Tn_settle_113 rfl rfl ?_
    refine wp_iconst (q := 115) d_Tn_settle_114 rfl ic_0 ?_
    refine wp_put (q := 118) fl_Tn_227 d_Tn_settle_115 rfl (rdR (w := w) hw hb) (Nat.le_of_ble_eq_true rfl) rfl rfl (fdw (w := w) hw (by omega) (ws_r9 hb)) ?_
    refine wp_vret d_Tn_settle_118 rfl (Nat.le_refl _) (Nat.le_refl _) ?_
    refine kP (hK _) rfl ?_
    first
      | (rw [stl, if_pos (nle_lt hc_27)]; try simp (disch := omega) only [upd_ne, upd_eq]; done)
      | (rw [stl, if_neg (le_nlt hc_27), pays]; try simp (disch := omega) only [upd_ne, upd_eq])
  · refine wp_aload_n (q := 31) d_Tn_settle_30 rfl rfl ?_
    refine wp_dup (q := 32) d_Tn_settle_31 rfl rfl ?_
    refine wp_get (q := 35) fl_Tn_248 d_Tn_settle_32 rfl (rdR (w := w) hw hb) rfl ?_
    refine wp_iload (q := 37) d_Tn_settle_35 rfl rfl ?_
    refine wp_isub (q := 38) d_Tn_settle_37 rfl ?_
    refine wp_put (q := 41) fl_Tn_248 d_Tn_settle_38 rfl (rdR (w := w) hw hb) (Nat.le_of_ble_eq_true rfl) rfl rfl (fdw (w := w) hw (by omega) (ws_r11 hb)) ?_
    refine wp_goto (tgt := 108) d_Tn_settle_41 (by decide) ?_
    refine wp_aload_n (q := 109) d_Tn_settle_108 rfl rfl ?_
    refine wp_iconst (q := 110) d_Tn_settle_109 rfl ic_0 ?_
    refine wp_put (q := 113) fl_Tn_146 d_Tn_settle_110 rfl (rdR (w := w) hw hb) (Nat.le_of_ble_eq_true rfl) rfl rfl (fdw (w := w) hw (by omega) (ws_r8 hb)) ?_
    refine wp_aload_n (q := 114) d_Tn_settle_113 rfl rfl ?_
    refine wp_iconst (q := 115) d_Tn_settle_114 rfl ic_0 ?_
    refine wp_put (q := 118) fl_Tn_227 d_Tn_settle_115 rfl (rdR (w := w) hw hb) (Nat.le_of_ble_eq_true rfl) rfl rfl (fdw (w := w) hw (by omega) (ws_r9 hb)) ?_
    refine wp_vret d_Tn_settle_118 rfl (Nat.le_refl _) (Nat.le_refl _) ?_
    refine kP (hK _) rfl ?_
    first
      | (rw [stl, if_pos (nle_lt hc_27)]; try simp (disch := omega) only [upd_ne, upd_eq]; done)
      | (rw [stl, if_neg (le_nlt hc_27), pays]; try simp (disch := omega) only [upd_ne, upd_eq])
