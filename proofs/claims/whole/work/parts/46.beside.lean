theorem sub64 {a b : Nat} (ha : a < 1000000000) (hb : b < 1000000000) : (nI a - nI b).toInt64 = (nI a).toInt64 - (nI b).toInt64 := by
  apply Int64.toInt_inj.mp
  rw [Int32.toInt_toInt64, pk_sub_toInt (by omega) (by omega), Int64.toInt_sub, Int32.toInt_toInt64, Int32.toInt_toInt64, nI_toInt (by omega), nI_toInt (by omega)]
  exact (Int.bmod_eq_of_le (by omega) (by omega)).symm
theorem WV.put {c : T2} {P : Nat → Int32} {nb m : Nat} {i : Nat} {v : Int32} (h : WV c P nb m) (h1 : ¬ crit i) (h2 : ¬ gcr i) : WV c (upd P i v) nb m := ⟨h.1.put h1, h.2.put h2⟩
def bsI (w : Nat) : Nat := if w = 0 then 238 else if w = 1 then 237 else 236
theorem WV.big {c : T2} {P : Nat → Int32} {nb m w : Nat} (h : WV c P nb m) (hm : m ≤ 14700) : ∃ a, a < 1000000000 ∧ P (bsI w) = nI a := by
  unfold bsI
  split
  · exact ⟨_, Nat.lt_of_lt_of_le h.2.2.2.2.2.2.2 (by omega), h.2.2.2.2.2.2.1⟩
  · split
    · exact ⟨_, Nat.lt_of_lt_of_le h.2.2.2.2.2.1.2 (by omega), h.2.2.2.2.2.1.1⟩
    · exact ⟨_, Nat.lt_of_lt_of_le h.2.2.2.2.1.2 (by omega), h.2.2.2.2.1.1⟩
theorem WV.diff {c : T2} {P R : Nat → Int32} {nb m m2 w : Nat} (h : WV c P nb m) (h2 : WV c R nb m2) (hm : m ≤ 14700) (hm2 : m2 ≤ 14700) : (R (bsI w) - P (bsI w)).toInt64 = (R (bsI w)).toInt64 - (P (bsI w)).toInt64 := by
  obtain ⟨a, ha, ea⟩ := h.big (w := w) hm
  obtain ⟨b, hb, eb⟩ := h2.big (w := w) hm2
  rw [ea, eb]
  exact sub64 hb ha
def sp_beside (c : T2) (P : Nat → Int32) (nb m : Nat) (n r w : Int32) : Int64 := if ¬ btw (nI 1) n (nI 240) ∨ ¬ inn r 1 ∨ ¬ inn w 2 then (-4611686018427387904) else if ¬ nI m + n ≤ nI 14400 then (-4611686018427387904) else (pN c (upd P 235 r) nb m (tn n) (bsI (tn w))).toInt64 - (P (bsI (tn w))).toInt64
theorem d_FG_beside_0 : decode M_FG_beside.2.1 0 = .ok (.iload_n 1, 1) := by decide +kernel
theorem d_FG_beside_1 : decode M_FG_beside.2.1 1 = .ok (.iconst 1, 1) := by decide +kernel
theorem d_FG_beside_2 : decode M_FG_beside.2.1 2 = .ok (.sipush 240, 3) := by decide +kernel
theorem d_FG_beside_5 : decode M_FG_beside.2.1 5 = .ok (.invokestatic 61, 3) := by decide +kernel
theorem d_FG_beside_8 : decode M_FG_beside.2.1 8 = .ok (.ifCond .eq 21, 3) := by decide +kernel
theorem d_FG_beside_11 : decode M_FG_beside.2.1 11 = .ok (.iload_n 2, 1) := by decide +kernel
theorem d_FG_beside_12 : decode M_FG_beside.2.1 12 = .ok (.iconst 0, 1) := by decide +kernel
theorem d_FG_beside_13 : decode M_FG_beside.2.1 13 = .ok (.iconst 1, 1) := by decide +kernel
theorem d_FG_beside_14 : decode M_FG_beside.2.1 14 = .ok (.invokestatic 61, 3) := by decide +kernel
theorem d_FG_beside_17 : decode M_FG_beside.2.1 17 = .ok (.ifCond .eq 12, 3) := by decide +kernel
theorem d_FG_beside_20 : decode M_FG_beside.2.1 20 = .ok (.iload_n 3, 1) := by decide +kernel
theorem d_FG_beside_21 : decode M_FG_beside.2.1 21 = .ok (.iconst 0, 1) := by decide +kernel
theorem d_FG_beside_22 : decode M_FG_beside.2.1 22 = .ok (.iconst 2, 1) := by decide +kernel
theorem d_FG_beside_23 : decode M_FG_beside.2.1 23 = .ok (.invokestatic 61, 3) := by decide +kernel
theorem d_FG_beside_26 : decode M_FG_beside.2.1 26 = .ok (.ifCond .ne 7, 3) := by decide +kernel
theorem d_FG_beside_29 : decode M_FG_beside.2.1 29 = .ok (.ldc2_w 253, 3) := by decide +kernel
theorem d_FG_beside_32 : decode M_FG_beside.2.1 32 = .ok (.lreturn, 1) := by decide +kernel
theorem d_FG_beside_33 : decode M_FG_beside.2.1 33 = .ok (.aload_n 0, 1) := by decide +kernel
theorem d_FG_beside_34 : decode M_FG_beside.2.1 34 = .ok (.getfield 19, 3) := by decide +kernel
theorem d_FG_beside_37 : decode M_FG_beside.2.1 37 = .ok (.getfield 111, 3) := by decide +kernel
theorem d_FG_beside_40 : decode M_FG_beside.2.1 40 = .ok (.iload_n 1, 1) := by decide +kernel
theorem d_FG_beside_41 : decode M_FG_beside.2.1 41 = .ok (.iadd, 1) := by decide +kernel
theorem d_FG_beside_42 : decode M_FG_beside.2.1 42 = .ok (.sipush 14400, 3) := by decide +kernel
theorem d_FG_beside_45 : decode M_FG_beside.2.1 45 = .ok (.if_icmp .le 7, 3) := by decide +kernel
theorem d_FG_beside_48 : decode M_FG_beside.2.1 48 = .ok (.ldc2_w 253, 3) := by decide +kernel
theorem d_FG_beside_51 : decode M_FG_beside.2.1 51 = .ok (.lreturn, 1) := by decide +kernel
theorem d_FG_beside_52 : decode M_FG_beside.2.1 52 = .ok (.aload_n 0, 1) := by decide +kernel
theorem d_FG_beside_53 : decode M_FG_beside.2.1 53 = .ok (.getfield 23, 3) := by decide +kernel
theorem d_FG_beside_56 : decode M_FG_beside.2.1 56 = .ok (.aload_n 0, 1) := by decide +kernel
theorem d_FG_beside_57 : decode M_FG_beside.2.1 57 = .ok (.getfield 19, 3) := by decide +kernel
theorem d_FG_beside_60 : decode M_FG_beside.2.1 60 = .ok (.invokevirtual 250, 3) := by decide +kernel
theorem d_FG_beside_63 : decode M_FG_beside.2.1 63 = .ok (.aload_n 0, 1) := by decide +kernel
theorem d_FG_beside_64 : decode M_FG_beside.2.1 64 = .ok (.getfield 23, 3) := by decide +kernel
theorem d_FG_beside_67 : decode M_FG_beside.2.1 67 = .ok (.iload_n 2, 1) := by decide +kernel
theorem d_FG_beside_68 : decode M_FG_beside.2.1 68 = .ok (.putfield 74, 3) := by decide +kernel
theorem d_FG_beside_71 : decode M_FG_beside.2.1 71 = .ok (.iconst 0, 1) := by decide +kernel
theorem d_FG_beside_72 : decode M_FG_beside.2.1 72 = .ok (.istore 4, 2) := by decide +kernel
theorem d_FG_beside_74 : decode M_FG_beside.2.1 74 = .ok (.iload 4, 2) := by decide +kernel
theorem d_FG_beside_76 : decode M_FG_beside.2.1 76 = .ok (.iload_n 1, 1) := by decide +kernel
theorem d_FG_beside_77 : decode M_FG_beside.2.1 77 = .ok (.if_icmp .ge 20, 3) := by decide +kernel
theorem d_FG_beside_80 : decode M_FG_beside.2.1 80 = .ok (.aload_n 0, 1) := by decide +kernel
theorem d_FG_beside_81 : decode M_FG_beside.2.1 81 = .ok (.getfield 10, 3) := by decide +kernel
theorem d_FG_beside_84 : decode M_FG_beside.2.1 84 = .ok (.aload_n 0, 1) := by decide +kernel
theorem d_FG_beside_85 : decode M_FG_beside.2.1 85 = .ok (.getfield 23, 3) := by decide +kernel
theorem d_FG_beside_88 : decode M_FG_beside.2.1 88 = .ok (.invokevirtual 168, 3) := by decide +kernel
theorem d_FG_beside_91 : decode M_FG_beside.2.1 91 = .ok (.iinc 4 1, 3) := by decide +kernel
theorem d_FG_beside_94 : decode M_FG_beside.2.1 94 = .ok (.goto (-20), 3) := by decide +kernel
theorem d_FG_beside_97 : decode M_FG_beside.2.1 97 = .ok (.iload_n 3, 1) := by decide +kernel
theorem d_FG_beside_98 : decode M_FG_beside.2.1 98 = .ok (.ifCond .ne 21, 3) := by decide +kernel
theorem d_FG_beside_101 : decode M_FG_beside.2.1 101 = .ok (.aload_n 0, 1) := by decide +kernel
theorem d_FG_beside_102 : decode M_FG_beside.2.1 102 = .ok (.getfield 23, 3) := by decide +kernel
theorem d_FG_beside_105 : decode M_FG_beside.2.1 105 = .ok (.getfield 233, 3) := by decide +kernel
theorem d_FG_beside_108 : decode M_FG_beside.2.1 108 = .ok (.i2l, 1) := by decide +kernel
theorem d_FG_beside_109 : decode M_FG_beside.2.1 109 = .ok (.aload_n 0, 1) := by decide +kernel
theorem d_FG_beside_110 : decode M_FG_beside.2.1 110 = .ok (.getfield 19, 3) := by decide +kernel
theorem d_FG_beside_113 : decode M_FG_beside.2.1 113 = .ok (.getfield 233, 3) := by decide +kernel
theorem d_FG_beside_116 : decode M_FG_beside.2.1 116 = .ok (.i2l, 1) := by decide +kernel
theorem d_FG_beside_117 : decode M_FG_beside.2.1 117 = .ok (.lsub, 1) := by decide +kernel
theorem d_FG_beside_118 : decode M_FG_beside.2.1 118 = .ok (.lreturn, 1) := by decide +kernel
theorem d_FG_beside_119 : decode M_FG_beside.2.1 119 = .ok (.iload_n 3, 1) := by decide +kernel
theorem d_FG_beside_120 : decode M_FG_beside.2.1 120 = .ok (.iconst 1, 1) := by decide +kernel
theorem d_FG_beside_121 : decode M_FG_beside.2.1 121 = .ok (.if_icmp .ne 21, 3) := by decide +kernel
theorem d_FG_beside_124 : decode M_FG_beside.2.1 124 = .ok (.aload_n 0, 1) := by decide +kernel
theorem d_FG_beside_125 : decode M_FG_beside.2.1 125 = .ok (.getfield 23, 3) := by decide +kernel
theorem d_FG_beside_128 : decode M_FG_beside.2.1 128 = .ok (.getfield 230, 3) := by decide +kernel
theorem d_FG_beside_131 : decode M_FG_beside.2.1 131 = .ok (.i2l, 1) := by decide +kernel
theorem d_FG_beside_132 : decode M_FG_beside.2.1 132 = .ok (.aload_n 0, 1) := by decide +kernel
theorem d_FG_beside_133 : decode M_FG_beside.2.1 133 = .ok (.getfield 19, 3) := by decide +kernel
theorem d_FG_beside_136 : decode M_FG_beside.2.1 136 = .ok (.getfield 230, 3) := by decide +kernel
theorem d_FG_beside_139 : decode M_FG_beside.2.1 139 = .ok (.i2l, 1) := by decide +kernel
theorem d_FG_beside_140 : decode M_FG_beside.2.1 140 = .ok (.lsub, 1) := by decide +kernel
theorem d_FG_beside_141 : decode M_FG_beside.2.1 141 = .ok (.lreturn, 1) := by decide +kernel
theorem d_FG_beside_142 : decode M_FG_beside.2.1 142 = .ok (.aload_n 0, 1) := by decide +kernel
theorem d_FG_beside_143 : decode M_FG_beside.2.1 143 = .ok (.getfield 23, 3) := by decide +kernel
theorem d_FG_beside_146 : decode M_FG_beside.2.1 146 = .ok (.getfield 227, 3) := by decide +kernel
theorem d_FG_beside_149 : decode M_FG_beside.2.1 149 = .ok (.i2l, 1) := by decide +kernel
theorem d_FG_beside_150 : decode M_FG_beside.2.1 150 = .ok (.aload_n 0, 1) := by decide +kernel
theorem d_FG_beside_151 : decode M_FG_beside.2.1 151 = .ok (.getfield 19, 3) := by decide +kernel
theorem d_FG_beside_154 : decode M_FG_beside.2.1 154 = .ok (.getfield 227, 3) := by decide +kernel
theorem d_FG_beside_157 : decode M_FG_beside.2.1 157 = .ok (.i2l, 1) := by decide +kernel
theorem d_FG_beside_158 : decode M_FG_beside.2.1 158 = .ok (.lsub, 1) := by decide +kernel
theorem d_FG_beside_159 : decode M_FG_beside.2.1 159 = .ok (.lreturn, 1) := by decide +kernel
set_option maxHeartbeats 4000000 in
set_option maxRecDepth 100000 in
theorem be_FG_beside {D : xD} {N : Nat} {l : Launch} {d : Nat} {c V : T2} {P : Nat → Int32} {ln df : Nat → Option Nat} {rest : List va_E} {K : Option Value → List va_E → Prop} {nb : Nat} (hnb : c 32 1 = nI nb) (h12 : nb ≤ 12) {m n : Nat} {R : Nat → Int32} {r w : Int32} (hWR : WV c R nb m) (hmn : m + n ≤ 14400) (hT : TI c) (hSE : SE c) (hCI : CI c) (hLOK : LOK D N c ln rest) (hend : ∀ x, Wp D N l (EI M_FG_beside) M_FG_beside (Rm (d + 7) 0 0) (Qm D N K 0 0) 0 0 97 [(4, .int (nI n)), (0, .ref (N + 0)), (1, .int (nI n)), (2, .int r), (3, .int w)] [] (encC D N c x (va_up (va_up V 0 P) 1 (pN c R nb m n)) ln df ++ rest)) : ∀ k, k ≤ n → ∀ x, Wp D N l (EI M_FG_beside) M_FG_beside (Rm (d + 7) 0 0) (Qm D N K 0 0) 0 0 74 [(4, .int (nI k)), (0, .ref (N + 0)), (1, .int (nI n)), (2, .int r), (3, .int w)] [] (encC D N c x (va_up (va_up V 0 P) 1 (pN c R nb m k)) ln df ++ rest) := by
  refine up_loop ?_ ?_
  · intro x
    refine wp_iload (q := 76) d_FG_beside_74 rfl rfl ?_
    refine wp_iload_n (q := 77) d_FG_beside_76 rfl rfl ?_
    refine wp_icmp_ge_t (tgt := 97) d_FG_beside_77 (by decide) (nI_le (Nat.le_refl _) (by omega)) ?_
    exact hend x
  · intro k hk ih x
    refine wp_iload (q := 76) d_FG_beside_74 rfl rfl ?_
    refine wp_iload_n (q := 77) d_FG_beside_76 rfl rfl ?_
    refine wp_icmp_ge_f (q := 80) (tgt := 97) d_FG_beside_77 (by decide) rfl (nI_ge hk (by omega)) ?_
    have wk := hWR.ps hT hSE h12 k (by omega)
    refine wp_aload_n (q := 81) d_FG_beside_80 rfl rfl ?_
    refine wp_get (q := 84) fl_FG_10 d_FG_beside_81 rfl rfl rfl ?_
    refine wp_aload_n (q := 85) d_FG_beside_84 rfl rfl ?_
    refine wp_get (q := 88) fl_FG_23 d_FG_beside_85 rfl rfl rfl ?_
    refine wp_cv1 (q := 91) lk_FG_168 (ro _ _ _) d_FG_beside_88 rfl (Nat.le_of_ble_eq_true rfl) (rfl) rfl (Nat.zero_le _) (Nat.zero_le _) ?_
    refine ok_Tn_pass (w := 1) hnb h12 (by decide) (by omega) wk.1 hT hCI hLOK wk.cr wk.2.2.1 ?_
    intro x2
    refine wp_iinc (q := 94) (L2 := [(4, _), (0, _), (1, _), (2, _), (3, _)]) d_FG_beside_91 rfl rfl (iinc_1) (by decide) rfl ?_
    refine wp_goto (tgt := 74) d_FG_beside_94 (by decide) ?_
    exact ih x2
theorem d_Rf_beside_0 : decode M_Rf_beside.2.1 0 = .ok (.iload_n 1, 1) := by decide +kernel
theorem d_Rf_beside_1 : decode M_Rf_beside.2.1 1 = .ok (.iconst 1, 1) := by decide +kernel
theorem d_Rf_beside_2 : decode M_Rf_beside.2.1 2 = .ok (.sipush 240, 3) := by decide +kernel
theorem d_Rf_beside_5 : decode M_Rf_beside.2.1 5 = .ok (.invokestatic 151, 3) := by decide +kernel
theorem d_Rf_beside_8 : decode M_Rf_beside.2.1 8 = .ok (.ifCond .eq 37, 3) := by decide +kernel
theorem d_Rf_beside_11 : decode M_Rf_beside.2.1 11 = .ok (.iload_n 2, 1) := by decide +kernel
theorem d_Rf_beside_12 : decode M_Rf_beside.2.1 12 = .ok (.iconst 0, 1) := by decide +kernel
theorem d_Rf_beside_13 : decode M_Rf_beside.2.1 13 = .ok (.iconst 1, 1) := by decide +kernel
theorem d_Rf_beside_14 : decode M_Rf_beside.2.1 14 = .ok (.invokestatic 151, 3) := by decide +kernel
theorem d_Rf_beside_17 : decode M_Rf_beside.2.1 17 = .ok (.ifCond .eq 28, 3) := by decide +kernel
theorem d_Rf_beside_20 : decode M_Rf_beside.2.1 20 = .ok (.iload_n 3, 1) := by decide +kernel
theorem d_Rf_beside_21 : decode M_Rf_beside.2.1 21 = .ok (.iconst 0, 1) := by decide +kernel
theorem d_Rf_beside_22 : decode M_Rf_beside.2.1 22 = .ok (.iconst 2, 1) := by decide +kernel
theorem d_Rf_beside_23 : decode M_Rf_beside.2.1 23 = .ok (.invokestatic 151, 3) := by decide +kernel
theorem d_Rf_beside_26 : decode M_Rf_beside.2.1 26 = .ok (.ifCond .eq 19, 3) := by decide +kernel
theorem d_Rf_beside_29 : decode M_Rf_beside.2.1 29 = .ok (.aload_n 0, 1) := by decide +kernel
theorem d_Rf_beside_30 : decode M_Rf_beside.2.1 30 = .ok (.getfield 7, 3) := by decide +kernel
theorem d_Rf_beside_33 : decode M_Rf_beside.2.1 33 = .ok (.sipush 234, 3) := by decide +kernel
theorem d_Rf_beside_36 : decode M_Rf_beside.2.1 36 = .ok (.iaload, 1) := by decide +kernel
theorem d_Rf_beside_37 : decode M_Rf_beside.2.1 37 = .ok (.iload_n 1, 1) := by decide +kernel
theorem d_Rf_beside_38 : decode M_Rf_beside.2.1 38 = .ok (.iadd, 1) := by decide +kernel
theorem d_Rf_beside_39 : decode M_Rf_beside.2.1 39 = .ok (.sipush 14400, 3) := by decide +kernel
theorem d_Rf_beside_42 : decode M_Rf_beside.2.1 42 = .ok (.if_icmp .le 7, 3) := by decide +kernel
theorem d_Rf_beside_45 : decode M_Rf_beside.2.1 45 = .ok (.ldc2_w 275, 3) := by decide +kernel
theorem d_Rf_beside_48 : decode M_Rf_beside.2.1 48 = .ok (.lreturn, 1) := by decide +kernel
theorem d_Rf_beside_49 : decode M_Rf_beside.2.1 49 = .ok (.aload_n 0, 1) := by decide +kernel
theorem d_Rf_beside_50 : decode M_Rf_beside.2.1 50 = .ok (.iconst 0, 1) := by decide +kernel
theorem d_Rf_beside_51 : decode M_Rf_beside.2.1 51 = .ok (.invokevirtual 271, 3) := by decide +kernel
theorem d_Rf_beside_54 : decode M_Rf_beside.2.1 54 = .ok (.aload_n 0, 1) := by decide +kernel
theorem d_Rf_beside_55 : decode M_Rf_beside.2.1 55 = .ok (.getfield 7, 3) := by decide +kernel
theorem d_Rf_beside_58 : decode M_Rf_beside.2.1 58 = .ok (.sipush 235, 3) := by decide +kernel
theorem d_Rf_beside_61 : decode M_Rf_beside.2.1 61 = .ok (.iload_n 2, 1) := by decide +kernel
theorem d_Rf_beside_62 : decode M_Rf_beside.2.1 62 = .ok (.iastore, 1) := by decide +kernel
theorem d_Rf_beside_63 : decode M_Rf_beside.2.1 63 = .ok (.iload_n 3, 1) := by decide +kernel
theorem d_Rf_beside_64 : decode M_Rf_beside.2.1 64 = .ok (.ifCond .ne 9, 3) := by decide +kernel
theorem d_Rf_beside_67 : decode M_Rf_beside.2.1 67 = .ok (.sipush 238, 3) := by decide +kernel
theorem d_Rf_beside_70 : decode M_Rf_beside.2.1 70 = .ok (.goto 17, 3) := by decide +kernel
theorem d_Rf_beside_73 : decode M_Rf_beside.2.1 73 = .ok (.iload_n 3, 1) := by decide +kernel
theorem d_Rf_beside_74 : decode M_Rf_beside.2.1 74 = .ok (.iconst 1, 1) := by decide +kernel
theorem d_Rf_beside_75 : decode M_Rf_beside.2.1 75 = .ok (.if_icmp .ne 9, 3) := by decide +kernel
theorem d_Rf_beside_78 : decode M_Rf_beside.2.1 78 = .ok (.sipush 237, 3) := by decide +kernel
theorem d_Rf_beside_81 : decode M_Rf_beside.2.1 81 = .ok (.goto 6, 3) := by decide +kernel
theorem d_Rf_beside_84 : decode M_Rf_beside.2.1 84 = .ok (.sipush 236, 3) := by decide +kernel
theorem d_Rf_beside_87 : decode M_Rf_beside.2.1 87 = .ok (.istore 4, 2) := by decide +kernel
theorem d_Rf_beside_89 : decode M_Rf_beside.2.1 89 = .ok (.iconst 0, 1) := by decide +kernel
theorem d_Rf_beside_90 : decode M_Rf_beside.2.1 90 = .ok (.istore 5, 2) := by decide +kernel
theorem d_Rf_beside_92 : decode M_Rf_beside.2.1 92 = .ok (.iload 5, 2) := by decide +kernel
theorem d_Rf_beside_94 : decode M_Rf_beside.2.1 94 = .ok (.iload_n 1, 1) := by decide +kernel
theorem d_Rf_beside_95 : decode M_Rf_beside.2.1 95 = .ok (.if_icmp .ge 13, 3) := by decide +kernel
theorem d_Rf_beside_98 : decode M_Rf_beside.2.1 98 = .ok (.aload_n 0, 1) := by decide +kernel
theorem d_Rf_beside_99 : decode M_Rf_beside.2.1 99 = .ok (.invokevirtual 260, 3) := by decide +kernel
theorem d_Rf_beside_102 : decode M_Rf_beside.2.1 102 = .ok (.iinc 5 1, 3) := by decide +kernel
theorem d_Rf_beside_105 : decode M_Rf_beside.2.1 105 = .ok (.goto (-13), 3) := by decide +kernel
theorem d_Rf_beside_108 : decode M_Rf_beside.2.1 108 = .ok (.aload_n 0, 1) := by decide +kernel
theorem d_Rf_beside_109 : decode M_Rf_beside.2.1 109 = .ok (.getfield 7, 3) := by decide +kernel
theorem d_Rf_beside_112 : decode M_Rf_beside.2.1 112 = .ok (.iload 4, 2) := by decide +kernel
theorem d_Rf_beside_114 : decode M_Rf_beside.2.1 114 = .ok (.iaload, 1) := by decide +kernel
theorem d_Rf_beside_115 : decode M_Rf_beside.2.1 115 = .ok (.aload_n 0, 1) := by decide +kernel
theorem d_Rf_beside_116 : decode M_Rf_beside.2.1 116 = .ok (.getfield 13, 3) := by decide +kernel
theorem d_Rf_beside_119 : decode M_Rf_beside.2.1 119 = .ok (.iload 4, 2) := by decide +kernel
theorem d_Rf_beside_121 : decode M_Rf_beside.2.1 121 = .ok (.iaload, 1) := by decide +kernel
theorem d_Rf_beside_122 : decode M_Rf_beside.2.1 122 = .ok (.isub, 1) := by decide +kernel
theorem d_Rf_beside_123 : decode M_Rf_beside.2.1 123 = .ok (.i2l, 1) := by decide +kernel
theorem d_Rf_beside_124 : decode M_Rf_beside.2.1 124 = .ok (.lstore 5, 2) := by decide +kernel
theorem d_Rf_beside_126 : decode M_Rf_beside.2.1 126 = .ok (.aload_n 0, 1) := by decide +kernel
theorem d_Rf_beside_127 : decode M_Rf_beside.2.1 127 = .ok (.iconst 1, 1) := by decide +kernel
theorem d_Rf_beside_128 : decode M_Rf_beside.2.1 128 = .ok (.invokevirtual 271, 3) := by decide +kernel
theorem d_Rf_beside_131 : decode M_Rf_beside.2.1 131 = .ok (.lload 5, 2) := by decide +kernel
theorem d_Rf_beside_133 : decode M_Rf_beside.2.1 133 = .ok (.lreturn, 1) := by decide +kernel
set_option maxHeartbeats 4000000 in
set_option maxRecDepth 100000 in
theorem be_Rf_beside {D : xD} {N : Nat} {l : Launch} {d : Nat} {c z : T2} {Q : Nat → Int32} {rest : List va_E} {K : Option Value → List va_E → Prop} {nb : Nat} (hnb : c 32 1 = nI nb) (h12 : nb ≤ 12) {m n : Nat} {R : Nat → Int32} {r w a : Int32} (hWR : WV c R nb m) (hmn : m + n ≤ 14400) (hT : TI c) (hSE : SE c) (hCI : CI c) (hend : Wp D N l (EI M_Rf_beside) M_Rf_beside (Rm (d + 7) 0 0) (Qm D N K 0 0) 0 0 108 [(5, .int (nI n)), (4, .int a), (0, .ref (N + 0)), (1, .int (nI n)), (2, .int r), (3, .int w)] [] (encR D N c z (pN c R nb m n) Q ++ rest)) : ∀ k, k ≤ n → Wp D N l (EI M_Rf_beside) M_Rf_beside (Rm (d + 7) 0 0) (Qm D N K 0 0) 0 0 92 [(5, .int (nI k)), (4, .int a), (0, .ref (N + 0)), (1, .int (nI n)), (2, .int r), (3, .int w)] [] (encR D N c z (pN c R nb m k) Q ++ rest) := by
  refine up_loop ?_ ?_
  · skip
    refine wp_iload (q := 94) d_Rf_beside_92 rfl rfl ?_
    refine wp_iload_n (q := 95) d_Rf_beside_94 rfl rfl ?_
    refine wp_icmp_ge_t (tgt := 108) d_Rf_beside_95 (by decide) (nI_le (Nat.le_refl _) (by omega)) ?_
    exact hend
  · intro k hk ih
    refine wp_iload (q := 94) d_Rf_beside_92 rfl rfl ?_
    refine wp_iload_n (q := 95) d_Rf_beside_94 rfl rfl ?_
    refine wp_icmp_ge_f (q := 98) (tgt := 108) d_Rf_beside_95 (by decide) rfl (nI_ge hk (by omega)) ?_
    have wk := hWR.ps hT hSE h12 k (by omega)
    refine wp_aload_n (q := 99) d_Rf_beside_98 rfl rfl ?_
    refine wp_cv0 (q := 102) lk_Rf_260 (ro _ _ _) d_Rf_beside_99 rfl (Nat.le_of_ble_eq_true rfl) (rfl) rfl (Nat.zero_le _) (Nat.zero_le _) ?_
    refine ok_Rf_goes hnb h12 (by omega) wk.1 hT hCI wk.cr wk.2.2.1 ?_
    refine wp_iinc (q := 105) (L2 := [(5, _), (4, _), (0, _), (1, _), (2, _), (3, _)]) d_Rf_beside_102 rfl rfl (iinc_1) (by decide) rfl ?_
    refine wp_goto (tgt := 92) d_Rf_beside_105 (by decide) ?_
    exact ih
set_option maxHeartbeats 4000000 in
set_option maxRecDepth 100000 in
theorem ok_FG_beside {D : xD} {N : Nat} {l : Launch} {d : Nat} {c x V : T2} {P : Nat → Int32} {ln df : Nat → Option Nat} {rest : List va_E} {K : Option Value → List va_E → Prop} {n r w : Int32} {nb : Nat} (hnb : c 32 1 = nI nb) (h12 : nb ≤ 12) {m : Nat} (hWV : WV c P nb m) (hm : m ≤ 14400) (hT : TI c) (hSE : SE c) (hCI : CI c) (hLOK : LOK D N c ln rest) (hK : ∀ (x2 : T2) (Z : Nat → Int32), K (some (.long (sp_beside c P nb m n r w))) (encC D N c x2 (va_up (va_up V 0 P) 1 (Z)) ln df ++ rest)) : Ok D N l (d + 7) M_FG_beside [.ref (N + 0), .int n, .int r, .int w] (encC D N c x (va_up V 0 P) ln df ++ rest) 0 0 K := by
  refine ok_of (L := [(0, _), (1, _), (2, _), (3, _)]) (by decide) (Nat.le_of_ble_eq_true rfl) rfl ?_
  rcases sw w 2 (by decide) with ⟨k_sw, hk_sw, rfl⟩ | ⟨hn_sw, ho_sw⟩
  · rcases (show k_sw = 0 ∨ k_sw = 1 ∨ k_sw = 2 by omega) with rfl | rfl | rfl
    · skip
      refine wp_iload_n (q := 1) d_FG_beside_0 rfl rfl ?_
      refine wp_iconst (q := 2) d_FG_beside_1 rfl ic_1 ?_
      refine wp_sipush (q := 5) d_FG_beside_2 rfl sp_240 ?_
      refine wp_cs3 (q := 8) lk_FG_61 (ro _ _ _) d_FG_beside_5 rfl (Nat.le_of_ble_eq_true rfl) (Nat.zero_le _) (Nat.zero_le _) ?_
      refine ok_FG_within (fun hna hnb2 => ?_) (fun hn => ?_)
      · obtain ⟨n, hn1, hn2, rfl⟩ := nI_btw1 (by decide) hna hnb2
        refine wp_if_eq_f (q := 11) (tgt := 29) d_FG_beside_8 (by decide) rfl (by decide) ?_
        refine wp_iload_n (q := 12) d_FG_beside_11 rfl rfl ?_
        refine wp_iconst (q := 13) d_FG_beside_12 rfl ic_0 ?_
        refine wp_iconst (q := 14) d_FG_beside_13 rfl ic_1 ?_
        refine wp_cs3 (q := 17) lk_FG_61 (ro _ _ _) d_FG_beside_14 rfl (Nat.le_of_ble_eq_true rfl) (Nat.zero_le _) (Nat.zero_le _) ?_
        refine ok_FG_within0 (b := 1) (by decide) (fun r1 hr1 e => ?_) (fun hr1 => ?_)
        · subst e
          refine wp_if_eq_f (q := 20) (tgt := 29) d_FG_beside_17 (by decide) rfl (by decide) ?_
          refine wp_iload_n (q := 21) d_FG_beside_20 rfl rfl ?_
          refine wp_iconst (q := 22) d_FG_beside_21 rfl ic_0 ?_
          refine wp_iconst (q := 23) d_FG_beside_22 rfl ic_2 ?_
          refine wp_cs3 (q := 26) lk_FG_61 (ro _ _ _) d_FG_beside_23 rfl (Nat.le_of_ble_eq_true rfl) (Nat.zero_le _) (Nat.zero_le _) ?_
          refine ok_FG_within (fun _ _ => ?_) (fun hw1 => absurd (inn_t (show 0 ≤ 2 by decide)) hw1)
          refine wp_if_ne_t (tgt := 33) d_FG_beside_26 (by decide) (by decide) ?_
          refine wp_aload_n (q := 34) d_FG_beside_33 rfl rfl ?_
          refine wp_get (q := 37) fl_FG_19 d_FG_beside_34 rfl rfl rfl ?_
          refine wp_get (q := 40) fl_FG_111 d_FG_beside_37 rfl (rdO (w := 0) (by decide)) rfl ?_
          rw [hWV.1.1]
          refine wp_iload_n (q := 41) d_FG_beside_40 rfl rfl ?_
          first | refine wp_iaddN (q := 42) d_FG_beside_41 rfl ?_ | refine wp_iadd (q := 42) d_FG_beside_41 rfl ?_
          refine wp_sipush (q := 45) d_FG_beside_42 rfl sp_14400 ?_
          refine wp_icmp_le (q := 48) (tgt := 52) d_FG_beside_45 (by decide) rfl (fun hc_45 => ?_) (fun hc_45 => ?_)
          · have hmk : m + n ≤ 14400 := (nI_leI (by omega) (by decide)).mp hc_45
            refine wp_aload_n (q := 53) d_FG_beside_52 rfl rfl ?_
            refine wp_get (q := 56) fl_FG_23 d_FG_beside_53 rfl rfl rfl ?_
            refine wp_aload_n (q := 57) d_FG_beside_56 rfl rfl ?_
            refine wp_get (q := 60) fl_FG_19 d_FG_beside_57 rfl rfl rfl ?_
            refine wp_cv1 (q := 63) lk_FG_250 (ro _ _ _) d_FG_beside_60 rfl (Nat.le_of_ble_eq_true rfl) ((rdV (w := 1) (by decide))) rfl (Nat.zero_le _) (Nat.zero_le _) ?_
            refine ok_become (V := va_up V 0 P) (w := 1) (v := 0) (by decide) (by decide) (by decide) ?_
            rw [show va_up V 0 P 0 = P from va_up_self _ _ _]
            refine wp_aload_n (q := 64) d_FG_beside_63 rfl rfl ?_
            refine wp_get (q := 67) fl_FG_23 d_FG_beside_64 rfl rfl rfl ?_
            refine wp_iload_n (q := 68) d_FG_beside_67 rfl rfl ?_
            refine wp_put (q := 71) fl_FG_74 d_FG_beside_68 rfl (rdO (w := 1) (by decide)) (Nat.le_of_ble_eq_true rfl) rfl rfl (fdw (w := 1) (i := 0) (by decide) (by decide) ws_o1) ?_
            refine wp_iconst (q := 72) d_FG_beside_71 rfl ic_0 ?_
            refine wp_istore (q := 74) (L2 := [(4, _), (0, _), (1, _), (2, _), (3, _)]) d_FG_beside_72 rfl (by decide) rfl ?_
            simp only [sp_beside, inn, btw, inn_t (show 0 ≤ 2 by decide), tnl (show 0 ≤ 2 by decide), (show ¬ nI 0 = nI 1 by decide), (show ¬ nI 0 = nI 2 by decide), hna, hnb2, tnl hn2, inn_t hr1, tnl hr1, hc_45, nI_add, (show bsI 0 = 238 from rfl), not_true_eq_false, not_false_eq_true, or_false, false_or, or_true, true_or, and_true, true_and, and_false, false_and, or_self, and_self, if_true, if_false, ite_true, ite_false, eq_self] at hK
            have hWR : WV c (upd P 235 (nI r1)) nb m := hWV.put (by unfold crit; omega) (by unfold gcr; omega)
            refine be_FG_beside (R := upd P 235 (nI r1)) hnb h12 hWR hmk hT hSE hCI hLOK (fun x2 => ?_) 0 (Nat.zero_le _) x
            · skip
              refine wp_iload_n (q := 98) d_FG_beside_97 rfl rfl ?_
              refine wp_if_ne_f (q := 101) (tgt := 119) d_FG_beside_98 (by decide) rfl (by decide) ?_
              refine wp_aload_n (q := 102) d_FG_beside_101 rfl rfl ?_
              refine wp_get (q := 105) fl_FG_23 d_FG_beside_102 rfl rfl rfl ?_
              refine wp_get (q := 108) fl_FG_233 d_FG_beside_105 rfl (rdO (w := 1) (by decide)) rfl ?_
              refine wp_i2l (q := 109) d_FG_beside_108 rfl ?_
              refine wp_aload_n (q := 110) d_FG_beside_109 rfl rfl ?_
              refine wp_get (q := 113) fl_FG_19 d_FG_beside_110 rfl rfl rfl ?_
              refine wp_get (q := 116) fl_FG_233 d_FG_beside_113 rfl (rdO2 (v := 0) (w := 1) (by decide) (by decide)) rfl ?_
              rw [show va_up V 0 P 0 = P from va_up_self _ _ _]
              refine wp_i2l (q := 117) d_FG_beside_116 rfl ?_
              refine wp_lsub (q := 118) d_FG_beside_117 rfl ?_
              refine wp_lret d_FG_beside_118 rfl (Nat.le_refl _) (Nat.le_refl _) ?_
              exact hK x2 _
          · refine wp_ldc2 (q := 51) d_FG_beside_48 rfl kl_FG_253 ?_
            refine wp_lret d_FG_beside_51 rfl (Nat.le_refl _) (Nat.le_refl _) ?_
            simp only [sp_beside, inn, inb, inm, btw, inn_t (show 0 ≤ 2 by decide), tnl (show 0 ≤ 2 by decide), (show ¬ nI 0 = nI 1 by decide), (show ¬ nI 0 = nI 2 by decide), hna, hnb2, tnl hn2, inn_t hr1, tnl hr1, hc_45, nI_add, not_true_eq_false, not_false_eq_true, or_false, false_or, or_true, true_or, and_true, true_and, and_false, false_and, or_self, and_self, if_true, if_false, ite_true, ite_false, eq_self] at hK
            first | first | exact hK _ _ | exact (va_upid (va_up V 0 P) 1) ▸ hK x _ | (simp (disch := omega) only [tput_eq, tput2, tput_ne, upd_eq, upd_ne, ne_eq, va_upeq, va_upne, va_up2, not_true_eq_false, not_false_eq_true, or_false, false_or, or_true, true_or, and_true, true_and, and_false, false_and, or_self, and_self, if_true, if_false, ite_true, ite_false, eq_self] at hK ⊢; first | exact hK _ _ | exact (va_upid (va_up V 0 P) 1) ▸ hK x _) | (simp (disch := omega) only [tput_eq, tput2, tput_ne, upd_eq, upd_ne, ne_eq, va_upeq, va_upne, va_up2, not_true_eq_false, not_false_eq_true, or_false, false_or, or_true, true_or, and_true, true_and, and_false, false_and, or_self, and_self, if_true, if_false, ite_true, ite_false, eq_self]; first | exact hK _ _ | exact (va_upid (va_up V 0 P) 1) ▸ hK x _) | (simp (disch := omega) only [tput_eq, tput2, tput_ne, upd_eq, upd_ne, ne_eq, va_upeq, va_upne, va_up2, not_true_eq_false, not_false_eq_true, or_false, false_or, or_true, true_or, and_true, true_and, and_false, false_and, or_self, and_self, if_true, if_false, ite_true, ite_false, eq_self] at hK; first | exact hK _ _ | exact (va_upid (va_up V 0 P) 1) ▸ hK x _)
        · refine wp_if_eq_t (tgt := 29) d_FG_beside_17 (by decide) (by decide) ?_
          refine wp_ldc2 (q := 32) d_FG_beside_29 rfl kl_FG_253 ?_
          refine wp_lret d_FG_beside_32 rfl (Nat.le_refl _) (Nat.le_refl _) ?_
          simp only [sp_beside, inn, inb, inm, btw, inn_t (show 0 ≤ 2 by decide), tnl (show 0 ≤ 2 by decide), (show ¬ nI 0 = nI 1 by decide), (show ¬ nI 0 = nI 2 by decide), hna, hnb2, tnl hn2, hr1, not_true_eq_false, not_false_eq_true, or_false, false_or, or_true, true_or, and_true, true_and, and_false, false_and, or_self, and_self, if_true, if_false, ite_true, ite_false, eq_self] at hK
          first | first | exact hK _ _ | exact (va_upid (va_up V 0 P) 1) ▸ hK x _ | (simp (disch := omega) only [tput_eq, tput2, tput_ne, upd_eq, upd_ne, ne_eq, va_upeq, va_upne, va_up2, not_true_eq_false, not_false_eq_true, or_false, false_or, or_true, true_or, and_true, true_and, and_false, false_and, or_self, and_self, if_true, if_false, ite_true, ite_false, eq_self] at hK ⊢; first | exact hK _ _ | exact (va_upid (va_up V 0 P) 1) ▸ hK x _) | (simp (disch := omega) only [tput_eq, tput2, tput_ne, upd_eq, upd_ne, ne_eq, va_upeq, va_upne, va_up2, not_true_eq_false, not_false_eq_true, or_false, false_or, or_true, true_or, and_true, true_and, and_false, false_and, or_self, and_self, if_true, if_false, ite_true, ite_false, eq_self]; first | exact hK _ _ | exact (va_upid (va_up V 0 P) 1) ▸ hK x _) | (simp (disch := omega) only [tput_eq, tput2, tput_ne, upd_eq, upd_ne, ne_eq, va_upeq, va_upne, va_up2, not_true_eq_false, not_false_eq_true, or_false, false_or, or_true, true_or, and_true, true_and, and_false, false_and, or_self, and_self, if_true, if_false, ite_true, ite_false, eq_self] at hK; first | exact hK _ _ | exact (va_upid (va_up V 0 P) 1) ▸ hK x _)
      · refine wp_if_eq_t (tgt := 29) d_FG_beside_8 (by decide) (by decide) ?_
        refine wp_ldc2 (q := 32) d_FG_beside_29 rfl kl_FG_253 ?_
        refine wp_lret d_FG_beside_32 rfl (Nat.le_refl _) (Nat.le_refl _) ?_
        simp only [sp_beside, inn, inb, inm, btw, inn_t (show 0 ≤ 2 by decide), tnl (show 0 ≤ 2 by decide), (show ¬ nI 0 = nI 1 by decide), (show ¬ nI 0 = nI 2 by decide), hn, not_true_eq_false, not_false_eq_true, or_false, false_or, or_true, true_or, and_true, true_and, and_false, false_and, or_self, and_self, if_true, if_false, ite_true, ite_false, eq_self] at hK
        first | first | exact hK _ _ | exact (va_upid (va_up V 0 P) 1) ▸ hK x _ | (simp (disch := omega) only [tput_eq, tput2, tput_ne, upd_eq, upd_ne, ne_eq, va_upeq, va_upne, va_up2, not_true_eq_false, not_false_eq_true, or_false, false_or, or_true, true_or, and_true, true_and, and_false, false_and, or_self, and_self, if_true, if_false, ite_true, ite_false, eq_self] at hK ⊢; first | exact hK _ _ | exact (va_upid (va_up V 0 P) 1) ▸ hK x _) | (simp (disch := omega) only [tput_eq, tput2, tput_ne, upd_eq, upd_ne, ne_eq, va_upeq, va_upne, va_up2, not_true_eq_false, not_false_eq_true, or_false, false_or, or_true, true_or, and_true, true_and, and_false, false_and, or_self, and_self, if_true, if_false, ite_true, ite_false, eq_self]; first | exact hK _ _ | exact (va_upid (va_up V 0 P) 1) ▸ hK x _) | (simp (disch := omega) only [tput_eq, tput2, tput_ne, upd_eq, upd_ne, ne_eq, va_upeq, va_upne, va_up2, not_true_eq_false, not_false_eq_true, or_false, false_or, or_true, true_or, and_true, true_and, and_false, false_and, or_self, and_self, if_true, if_false, ite_true, ite_false, eq_self] at hK; first | exact hK _ _ | exact (va_upid (va_up V 0 P) 1) ▸ hK x _)
    · skip
      refine wp_iload_n (q := 1) d_FG_beside_0 rfl rfl ?_
      refine wp_iconst (q := 2) d_FG_beside_1 rfl ic_1 ?_
      refine wp_sipush (q := 5) d_FG_beside_2 rfl sp_240 ?_
      refine wp_cs3 (q := 8) lk_FG_61 (ro _ _ _) d_FG_beside_5 rfl (Nat.le_of_ble_eq_true rfl) (Nat.zero_le _) (Nat.zero_le _) ?_
      refine ok_FG_within (fun hna hnb2 => ?_) (fun hn => ?_)
      · obtain ⟨n, hn1, hn2, rfl⟩ := nI_btw1 (by decide) hna hnb2
        refine wp_if_eq_f (q := 11) (tgt := 29) d_FG_beside_8 (by decide) rfl (by decide) ?_
        refine wp_iload_n (q := 12) d_FG_beside_11 rfl rfl ?_
        refine wp_iconst (q := 13) d_FG_beside_12 rfl ic_0 ?_
        refine wp_iconst (q := 14) d_FG_beside_13 rfl ic_1 ?_
        refine wp_cs3 (q := 17) lk_FG_61 (ro _ _ _) d_FG_beside_14 rfl (Nat.le_of_ble_eq_true rfl) (Nat.zero_le _) (Nat.zero_le _) ?_
        refine ok_FG_within0 (b := 1) (by decide) (fun r1 hr1 e => ?_) (fun hr1 => ?_)
        · subst e
          refine wp_if_eq_f (q := 20) (tgt := 29) d_FG_beside_17 (by decide) rfl (by decide) ?_
          refine wp_iload_n (q := 21) d_FG_beside_20 rfl rfl ?_
          refine wp_iconst (q := 22) d_FG_beside_21 rfl ic_0 ?_
          refine wp_iconst (q := 23) d_FG_beside_22 rfl ic_2 ?_
          refine wp_cs3 (q := 26) lk_FG_61 (ro _ _ _) d_FG_beside_23 rfl (Nat.le_of_ble_eq_true rfl) (Nat.zero_le _) (Nat.zero_le _) ?_
          refine ok_FG_within (fun _ _ => ?_) (fun hw1 => absurd (inn_t (show 1 ≤ 2 by decide)) hw1)
          refine wp_if_ne_t (tgt := 33) d_FG_beside_26 (by decide) (by decide) ?_
          refine wp_aload_n (q := 34) d_FG_beside_33 rfl rfl ?_
          refine wp_get (q := 37) fl_FG_19 d_FG_beside_34 rfl rfl rfl ?_
          refine wp_get (q := 40) fl_FG_111 d_FG_beside_37 rfl (rdO (w := 0) (by decide)) rfl ?_
          rw [hWV.1.1]
          refine wp_iload_n (q := 41) d_FG_beside_40 rfl rfl ?_
          first | refine wp_iaddN (q := 42) d_FG_beside_41 rfl ?_ | refine wp_iadd (q := 42) d_FG_beside_41 rfl ?_
          refine wp_sipush (q := 45) d_FG_beside_42 rfl sp_14400 ?_
          refine wp_icmp_le (q := 48) (tgt := 52) d_FG_beside_45 (by decide) rfl (fun hc_45 => ?_) (fun hc_45 => ?_)
          · have hmk : m + n ≤ 14400 := (nI_leI (by omega) (by decide)).mp hc_45
            refine wp_aload_n (q := 53) d_FG_beside_52 rfl rfl ?_
            refine wp_get (q := 56) fl_FG_23 d_FG_beside_53 rfl rfl rfl ?_
            refine wp_aload_n (q := 57) d_FG_beside_56 rfl rfl ?_
            refine wp_get (q := 60) fl_FG_19 d_FG_beside_57 rfl rfl rfl ?_
            refine wp_cv1 (q := 63) lk_FG_250 (ro _ _ _) d_FG_beside_60 rfl (Nat.le_of_ble_eq_true rfl) ((rdV (w := 1) (by decide))) rfl (Nat.zero_le _) (Nat.zero_le _) ?_
            refine ok_become (V := va_up V 0 P) (w := 1) (v := 0) (by decide) (by decide) (by decide) ?_
            rw [show va_up V 0 P 0 = P from va_up_self _ _ _]
            refine wp_aload_n (q := 64) d_FG_beside_63 rfl rfl ?_
            refine wp_get (q := 67) fl_FG_23 d_FG_beside_64 rfl rfl rfl ?_
            refine wp_iload_n (q := 68) d_FG_beside_67 rfl rfl ?_
            refine wp_put (q := 71) fl_FG_74 d_FG_beside_68 rfl (rdO (w := 1) (by decide)) (Nat.le_of_ble_eq_true rfl) rfl rfl (fdw (w := 1) (i := 0) (by decide) (by decide) ws_o1) ?_
            refine wp_iconst (q := 72) d_FG_beside_71 rfl ic_0 ?_
            refine wp_istore (q := 74) (L2 := [(4, _), (0, _), (1, _), (2, _), (3, _)]) d_FG_beside_72 rfl (by decide) rfl ?_
            simp only [sp_beside, inn, btw, inn_t (show 1 ≤ 2 by decide), tnl (show 1 ≤ 2 by decide), (show ¬ nI 1 = nI 0 by decide), (show ¬ nI 1 = nI 2 by decide), hna, hnb2, tnl hn2, inn_t hr1, tnl hr1, hc_45, nI_add, (show bsI 1 = 237 from rfl), not_true_eq_false, not_false_eq_true, or_false, false_or, or_true, true_or, and_true, true_and, and_false, false_and, or_self, and_self, if_true, if_false, ite_true, ite_false, eq_self] at hK
            have hWR : WV c (upd P 235 (nI r1)) nb m := hWV.put (by unfold crit; omega) (by unfold gcr; omega)
            refine be_FG_beside (R := upd P 235 (nI r1)) hnb h12 hWR hmk hT hSE hCI hLOK (fun x2 => ?_) 0 (Nat.zero_le _) x
            · skip
              refine wp_iload_n (q := 98) d_FG_beside_97 rfl rfl ?_
              refine wp_if_ne_t (tgt := 119) d_FG_beside_98 (by decide) (by decide) ?_
              refine wp_iload_n (q := 120) d_FG_beside_119 rfl rfl ?_
              refine wp_iconst (q := 121) d_FG_beside_120 rfl ic_1 ?_
              refine wp_icmp_ne_f (q := 124) (tgt := 142) d_FG_beside_121 (by decide) rfl (by decide) ?_
              refine wp_aload_n (q := 125) d_FG_beside_124 rfl rfl ?_
              refine wp_get (q := 128) fl_FG_23 d_FG_beside_125 rfl rfl rfl ?_
              refine wp_get (q := 131) fl_FG_230 d_FG_beside_128 rfl (rdO (w := 1) (by decide)) rfl ?_
              refine wp_i2l (q := 132) d_FG_beside_131 rfl ?_
              refine wp_aload_n (q := 133) d_FG_beside_132 rfl rfl ?_
              refine wp_get (q := 136) fl_FG_19 d_FG_beside_133 rfl rfl rfl ?_
              refine wp_get (q := 139) fl_FG_230 d_FG_beside_136 rfl (rdO2 (v := 0) (w := 1) (by decide) (by decide)) rfl ?_
              rw [show va_up V 0 P 0 = P from va_up_self _ _ _]
              refine wp_i2l (q := 140) d_FG_beside_139 rfl ?_
              refine wp_lsub (q := 141) d_FG_beside_140 rfl ?_
              refine wp_lret d_FG_beside_141 rfl (Nat.le_refl _) (Nat.le_refl _) ?_
              exact hK x2 _
          · refine wp_ldc2 (q := 51) d_FG_beside_48 rfl kl_FG_253 ?_
            refine wp_lret d_FG_beside_51 rfl (Nat.le_refl _) (Nat.le_refl _) ?_
            simp only [sp_beside, inn, inb, inm, btw, inn_t (show 1 ≤ 2 by decide), tnl (show 1 ≤ 2 by decide), (show ¬ nI 1 = nI 0 by decide), (show ¬ nI 1 = nI 2 by decide), hna, hnb2, tnl hn2, inn_t hr1, tnl hr1, hc_45, nI_add, not_true_eq_false, not_false_eq_true, or_false, false_or, or_true, true_or, and_true, true_and, and_false, false_and, or_self, and_self, if_true, if_false, ite_true, ite_false, eq_self] at hK
            first | first | exact hK _ _ | exact (va_upid (va_up V 0 P) 1) ▸ hK x _ | (simp (disch := omega) only [tput_eq, tput2, tput_ne, upd_eq, upd_ne, ne_eq, va_upeq, va_upne, va_up2, not_true_eq_false, not_false_eq_true, or_false, false_or, or_true, true_or, and_true, true_and, and_false, false_and, or_self, and_self, if_true, if_false, ite_true, ite_false, eq_self] at hK ⊢; first | exact hK _ _ | exact (va_upid (va_up V 0 P) 1) ▸ hK x _) | (simp (disch := omega) only [tput_eq, tput2, tput_ne, upd_eq, upd_ne, ne_eq, va_upeq, va_upne, va_up2, not_true_eq_false, not_false_eq_true, or_false, false_or, or_true, true_or, and_true, true_and, and_false, false_and, or_self, and_self, if_true, if_false, ite_true, ite_false, eq_self]; first | exact hK _ _ | exact (va_upid (va_up V 0 P) 1) ▸ hK x _) | (simp (disch := omega) only [tput_eq, tput2, tput_ne, upd_eq, upd_ne, ne_eq, va_upeq, va_upne, va_up2, not_true_eq_false, not_false_eq_true, or_false, false_or, or_true, true_or, and_true, true_and, and_false, false_and, or_self, and_self, if_true, if_false, ite_true, ite_false, eq_self] at hK; first | exact hK _ _ | exact (va_upid (va_up V 0 P) 1) ▸ hK x _)
        · refine wp_if_eq_t (tgt := 29) d_FG_beside_17 (by decide) (by decide) ?_
          refine wp_ldc2 (q := 32) d_FG_beside_29 rfl kl_FG_253 ?_
          refine wp_lret d_FG_beside_32 rfl (Nat.le_refl _) (Nat.le_refl _) ?_
          simp only [sp_beside, inn, inb, inm, btw, inn_t (show 1 ≤ 2 by decide), tnl (show 1 ≤ 2 by decide), (show ¬ nI 1 = nI 0 by decide), (show ¬ nI 1 = nI 2 by decide), hna, hnb2, tnl hn2, hr1, not_true_eq_false, not_false_eq_true, or_false, false_or, or_true, true_or, and_true, true_and, and_false, false_and, or_self, and_self, if_true, if_false, ite_true, ite_false, eq_self] at hK
          first | first | exact hK _ _ | exact (va_upid (va_up V 0 P) 1) ▸ hK x _ | (simp (disch := omega) only [tput_eq, tput2, tput_ne, upd_eq, upd_ne, ne_eq, va_upeq, va_upne, va_up2, not_true_eq_false, not_false_eq_true, or_false, false_or, or_true, true_or, and_true, true_and, and_false, false_and, or_self, and_self, if_true, if_false, ite_true, ite_false, eq_self] at hK ⊢; first | exact hK _ _ | exact (va_upid (va_up V 0 P) 1) ▸ hK x _) | (simp (disch := omega) only [tput_eq, tput2, tput_ne, upd_eq, upd_ne, ne_eq, va_upeq, va_upne, va_up2, not_true_eq_false, not_false_eq_true, or_false, false_or, or_true, true_or, and_true, true_and, and_false, false_and, or_self, and_self, if_true, if_false, ite_true, ite_false, eq_self]; first | exact hK _ _ | exact (va_upid (va_up V 0 P) 1) ▸ hK x _) | (simp (disch := omega) only [tput_eq, tput2, tput_ne, upd_eq, upd_ne, ne_eq, va_upeq, va_upne, va_up2, not_true_eq_false, not_false_eq_true, or_false, false_or, or_true, true_or, and_true, true_and, and_false, false_and, or_self, and_self, if_true, if_false, ite_true, ite_false, eq_self] at hK; first | exact hK _ _ | exact (va_upid (va_up V 0 P) 1) ▸ hK x _)
      · refine wp_if_eq_t (tgt := 29) d_FG_beside_8 (by decide) (by decide) ?_
        refine wp_ldc2 (q := 32) d_FG_beside_29 rfl kl_FG_253 ?_
        refine wp_lret d_FG_beside_32 rfl (Nat.le_refl _) (Nat.le_refl _) ?_
        simp only [sp_beside, inn, inb, inm, btw, inn_t (show 1 ≤ 2 by decide), tnl (show 1 ≤ 2 by decide), (show ¬ nI 1 = nI 0 by decide), (show ¬ nI 1 = nI 2 by decide), hn, not_true_eq_false, not_false_eq_true, or_false, false_or, or_true, true_or, and_true, true_and, and_false, false_and, or_self, and_self, if_true, if_false, ite_true, ite_false, eq_self] at hK
        first | first | exact hK _ _ | exact (va_upid (va_up V 0 P) 1) ▸ hK x _ | (simp (disch := omega) only [tput_eq, tput2, tput_ne, upd_eq, upd_ne, ne_eq, va_upeq, va_upne, va_up2, not_true_eq_false, not_false_eq_true, or_false, false_or, or_true, true_or, and_true, true_and, and_false, false_and, or_self, and_self, if_true, if_false, ite_true, ite_false, eq_self] at hK ⊢; first | exact hK _ _ | exact (va_upid (va_up V 0 P) 1) ▸ hK x _) | (simp (disch := omega) only [tput_eq, tput2, tput_ne, upd_eq, upd_ne, ne_eq, va_upeq, va_upne, va_up2, not_true_eq_false, not_false_eq_true, or_false, false_or, or_true, true_or, and_true, true_and, and_false, false_and, or_self, and_self, if_true, if_false, ite_true, ite_false, eq_self]; first | exact hK _ _ | exact (va_upid (va_up V 0 P) 1) ▸ hK x _) | (simp (disch := omega) only [tput_eq, tput2, tput_ne, upd_eq, upd_ne, ne_eq, va_upeq, va_upne, va_up2, not_true_eq_false, not_false_eq_true, or_false, false_or, or_true, true_or, and_true, true_and, and_false, false_and, or_self, and_self, if_true, if_false, ite_true, ite_false, eq_self] at hK; first | exact hK _ _ | exact (va_upid (va_up V 0 P) 1) ▸ hK x _)
    · skip
      refine wp_iload_n (q := 1) d_FG_beside_0 rfl rfl ?_
      refine wp_iconst (q := 2) d_FG_beside_1 rfl ic_1 ?_
      refine wp_sipush (q := 5) d_FG_beside_2 rfl sp_240 ?_
      refine wp_cs3 (q := 8) lk_FG_61 (ro _ _ _) d_FG_beside_5 rfl (Nat.le_of_ble_eq_true rfl) (Nat.zero_le _) (Nat.zero_le _) ?_
      refine ok_FG_within (fun hna hnb2 => ?_) (fun hn => ?_)
      · obtain ⟨n, hn1, hn2, rfl⟩ := nI_btw1 (by decide) hna hnb2
        refine wp_if_eq_f (q := 11) (tgt := 29) d_FG_beside_8 (by decide) rfl (by decide) ?_
        refine wp_iload_n (q := 12) d_FG_beside_11 rfl rfl ?_
        refine wp_iconst (q := 13) d_FG_beside_12 rfl ic_0 ?_
        refine wp_iconst (q := 14) d_FG_beside_13 rfl ic_1 ?_
        refine wp_cs3 (q := 17) lk_FG_61 (ro _ _ _) d_FG_beside_14 rfl (Nat.le_of_ble_eq_true rfl) (Nat.zero_le _) (Nat.zero_le _) ?_
        refine ok_FG_within0 (b := 1) (by decide) (fun r1 hr1 e => ?_) (fun hr1 => ?_)
        · subst e
          refine wp_if_eq_f (q := 20) (tgt := 29) d_FG_beside_17 (by decide) rfl (by decide) ?_
          refine wp_iload_n (q := 21) d_FG_beside_20 rfl rfl ?_
          refine wp_iconst (q := 22) d_FG_beside_21 rfl ic_0 ?_
          refine wp_iconst (q := 23) d_FG_beside_22 rfl ic_2 ?_
          refine wp_cs3 (q := 26) lk_FG_61 (ro _ _ _) d_FG_beside_23 rfl (Nat.le_of_ble_eq_true rfl) (Nat.zero_le _) (Nat.zero_le _) ?_
          refine ok_FG_within (fun _ _ => ?_) (fun hw1 => absurd (inn_t (show 2 ≤ 2 by decide)) hw1)
          refine wp_if_ne_t (tgt := 33) d_FG_beside_26 (by decide) (by decide) ?_
          refine wp_aload_n (q := 34) d_FG_beside_33 rfl rfl ?_
          refine wp_get (q := 37) fl_FG_19 d_FG_beside_34 rfl rfl rfl ?_
          refine wp_get (q := 40) fl_FG_111 d_FG_beside_37 rfl (rdO (w := 0) (by decide)) rfl ?_
          rw [hWV.1.1]
          refine wp_iload_n (q := 41) d_FG_beside_40 rfl rfl ?_
          first | refine wp_iaddN (q := 42) d_FG_beside_41 rfl ?_ | refine wp_iadd (q := 42) d_FG_beside_41 rfl ?_
          refine wp_sipush (q := 45) d_FG_beside_42 rfl sp_14400 ?_
          refine wp_icmp_le (q := 48) (tgt := 52) d_FG_beside_45 (by decide) rfl (fun hc_45 => ?_) (fun hc_45 => ?_)
          · have hmk : m + n ≤ 14400 := (nI_leI (by omega) (by decide)).mp hc_45
            refine wp_aload_n (q := 53) d_FG_beside_52 rfl rfl ?_
            refine wp_get (q := 56) fl_FG_23 d_FG_beside_53 rfl rfl rfl ?_
            refine wp_aload_n (q := 57) d_FG_beside_56 rfl rfl ?_
            refine wp_get (q := 60) fl_FG_19 d_FG_beside_57 rfl rfl rfl ?_
            refine wp_cv1 (q := 63) lk_FG_250 (ro _ _ _) d_FG_beside_60 rfl (Nat.le_of_ble_eq_true rfl) ((rdV (w := 1) (by decide))) rfl (Nat.zero_le _) (Nat.zero_le _) ?_
            refine ok_become (V := va_up V 0 P) (w := 1) (v := 0) (by decide) (by decide) (by decide) ?_
            rw [show va_up V 0 P 0 = P from va_up_self _ _ _]
            refine wp_aload_n (q := 64) d_FG_beside_63 rfl rfl ?_
            refine wp_get (q := 67) fl_FG_23 d_FG_beside_64 rfl rfl rfl ?_
            refine wp_iload_n (q := 68) d_FG_beside_67 rfl rfl ?_
            refine wp_put (q := 71) fl_FG_74 d_FG_beside_68 rfl (rdO (w := 1) (by decide)) (Nat.le_of_ble_eq_true rfl) rfl rfl (fdw (w := 1) (i := 0) (by decide) (by decide) ws_o1) ?_
            refine wp_iconst (q := 72) d_FG_beside_71 rfl ic_0 ?_
            refine wp_istore (q := 74) (L2 := [(4, _), (0, _), (1, _), (2, _), (3, _)]) d_FG_beside_72 rfl (by decide) rfl ?_
            simp only [sp_beside, inn, btw, inn_t (show 2 ≤ 2 by decide), tnl (show 2 ≤ 2 by decide), (show ¬ nI 2 = nI 0 by decide), (show ¬ nI 2 = nI 1 by decide), hna, hnb2, tnl hn2, inn_t hr1, tnl hr1, hc_45, nI_add, (show bsI 2 = 236 from rfl), not_true_eq_false, not_false_eq_true, or_false, false_or, or_true, true_or, and_true, true_and, and_false, false_and, or_self, and_self, if_true, if_false, ite_true, ite_false, eq_self] at hK
            have hWR : WV c (upd P 235 (nI r1)) nb m := hWV.put (by unfold crit; omega) (by unfold gcr; omega)
            refine be_FG_beside (R := upd P 235 (nI r1)) hnb h12 hWR hmk hT hSE hCI hLOK (fun x2 => ?_) 0 (Nat.zero_le _) x
            · skip
              refine wp_iload_n (q := 98) d_FG_beside_97 rfl rfl ?_
              refine wp_if_ne_t (tgt := 119) d_FG_beside_98 (by decide) (by decide) ?_
              refine wp_iload_n (q := 120) d_FG_beside_119 rfl rfl ?_
              refine wp_iconst (q := 121) d_FG_beside_120 rfl ic_1 ?_
              refine wp_icmp_ne_t (tgt := 142) d_FG_beside_121 (by decide) (by decide) ?_
              refine wp_aload_n (q := 143) d_FG_beside_142 rfl rfl ?_
              refine wp_get (q := 146) fl_FG_23 d_FG_beside_143 rfl rfl rfl ?_
              refine wp_get (q := 149) fl_FG_227 d_FG_beside_146 rfl (rdO (w := 1) (by decide)) rfl ?_
              refine wp_i2l (q := 150) d_FG_beside_149 rfl ?_
              refine wp_aload_n (q := 151) d_FG_beside_150 rfl rfl ?_
              refine wp_get (q := 154) fl_FG_19 d_FG_beside_151 rfl rfl rfl ?_
              refine wp_get (q := 157) fl_FG_227 d_FG_beside_154 rfl (rdO2 (v := 0) (w := 1) (by decide) (by decide)) rfl ?_
              rw [show va_up V 0 P 0 = P from va_up_self _ _ _]
              refine wp_i2l (q := 158) d_FG_beside_157 rfl ?_
              refine wp_lsub (q := 159) d_FG_beside_158 rfl ?_
              refine wp_lret d_FG_beside_159 rfl (Nat.le_refl _) (Nat.le_refl _) ?_
              exact hK x2 _
          · refine wp_ldc2 (q := 51) d_FG_beside_48 rfl kl_FG_253 ?_
            refine wp_lret d_FG_beside_51 rfl (Nat.le_refl _) (Nat.le_refl _) ?_
            simp only [sp_beside, inn, inb, inm, btw, inn_t (show 2 ≤ 2 by decide), tnl (show 2 ≤ 2 by decide), (show ¬ nI 2 = nI 0 by decide), (show ¬ nI 2 = nI 1 by decide), hna, hnb2, tnl hn2, inn_t hr1, tnl hr1, hc_45, nI_add, not_true_eq_false, not_false_eq_true, or_false, false_or, or_true, true_or, and_true, true_and, and_false, false_and, or_self, and_self, if_true, if_false, ite_true, ite_false, eq_self] at hK
            first | first | exact hK _ _ | exact (va_upid (va_up V 0 P) 1) ▸ hK x _ | (simp (disch := omega) only [tput_eq, tput2, tput_ne, upd_eq, upd_ne, ne_eq, va_upeq, va_upne, va_up2, not_true_eq_false, not_false_eq_true, or_false, false_or, or_true, true_or, and_true, true_and, and_false, false_and, or_self, and_self, if_true, if_false, ite_true, ite_false, eq_self] at hK ⊢; first | exact hK _ _ | exact (va_upid (va_up V 0 P) 1) ▸ hK x _) | (simp (disch := omega) only [tput_eq, tput2, tput_ne, upd_eq, upd_ne, ne_eq, va_upeq, va_upne, va_up2, not_true_eq_false, not_false_eq_true, or_false, false_or, or_true, true_or, and_true, true_and, and_false, false_and, or_self, and_self, if_true, if_false, ite_true, ite_false, eq_self]; first | exact hK _ _ | exact (va_upid (va_up V 0 P) 1) ▸ hK x _) | (simp (disch := omega) only [tput_eq, tput2, tput_ne, upd_eq, upd_ne, ne_eq, va_upeq, va_upne, va_up2, not_true_eq_false, not_false_eq_true, or_false, false_or, or_true, true_or, and_true, true_and, and_false, false_and, or_self, and_self, if_true, if_false, ite_true, ite_false, eq_self] at hK; first | exact hK _ _ | exact (va_upid (va_up V 0 P) 1) ▸ hK x _)
        · refine wp_if_eq_t (tgt := 29) d_FG_beside_17 (by decide) (by decide) ?_
          refine wp_ldc2 (q := 32) d_FG_beside_29 rfl kl_FG_253 ?_
          refine wp_lret d_FG_beside_32 rfl (Nat.le_refl _) (Nat.le_refl _) ?_
          simp only [sp_beside, inn, inb, inm, btw, inn_t (show 2 ≤ 2 by decide), tnl (show 2 ≤ 2 by decide), (show ¬ nI 2 = nI 0 by decide), (show ¬ nI 2 = nI 1 by decide), hna, hnb2, tnl hn2, hr1, not_true_eq_false, not_false_eq_true, or_false, false_or, or_true, true_or, and_true, true_and, and_false, false_and, or_self, and_self, if_true, if_false, ite_true, ite_false, eq_self] at hK
          first | first | exact hK _ _ | exact (va_upid (va_up V 0 P) 1) ▸ hK x _ | (simp (disch := omega) only [tput_eq, tput2, tput_ne, upd_eq, upd_ne, ne_eq, va_upeq, va_upne, va_up2, not_true_eq_false, not_false_eq_true, or_false, false_or, or_true, true_or, and_true, true_and, and_false, false_and, or_self, and_self, if_true, if_false, ite_true, ite_false, eq_self] at hK ⊢; first | exact hK _ _ | exact (va_upid (va_up V 0 P) 1) ▸ hK x _) | (simp (disch := omega) only [tput_eq, tput2, tput_ne, upd_eq, upd_ne, ne_eq, va_upeq, va_upne, va_up2, not_true_eq_false, not_false_eq_true, or_false, false_or, or_true, true_or, and_true, true_and, and_false, false_and, or_self, and_self, if_true, if_false, ite_true, ite_false, eq_self]; first | exact hK _ _ | exact (va_upid (va_up V 0 P) 1) ▸ hK x _) | (simp (disch := omega) only [tput_eq, tput2, tput_ne, upd_eq, upd_ne, ne_eq, va_upeq, va_upne, va_up2, not_true_eq_false, not_false_eq_true, or_false, false_or, or_true, true_or, and_true, true_and, and_false, false_and, or_self, and_self, if_true, if_false, ite_true, ite_false, eq_self] at hK; first | exact hK _ _ | exact (va_upid (va_up V 0 P) 1) ▸ hK x _)
      · refine wp_if_eq_t (tgt := 29) d_FG_beside_8 (by decide) (by decide) ?_
        refine wp_ldc2 (q := 32) d_FG_beside_29 rfl kl_FG_253 ?_
        refine wp_lret d_FG_beside_32 rfl (Nat.le_refl _) (Nat.le_refl _) ?_
        simp only [sp_beside, inn, inb, inm, btw, inn_t (show 2 ≤ 2 by decide), tnl (show 2 ≤ 2 by decide), (show ¬ nI 2 = nI 0 by decide), (show ¬ nI 2 = nI 1 by decide), hn, not_true_eq_false, not_false_eq_true, or_false, false_or, or_true, true_or, and_true, true_and, and_false, false_and, or_self, and_self, if_true, if_false, ite_true, ite_false, eq_self] at hK
        first | first | exact hK _ _ | exact (va_upid (va_up V 0 P) 1) ▸ hK x _ | (simp (disch := omega) only [tput_eq, tput2, tput_ne, upd_eq, upd_ne, ne_eq, va_upeq, va_upne, va_up2, not_true_eq_false, not_false_eq_true, or_false, false_or, or_true, true_or, and_true, true_and, and_false, false_and, or_self, and_self, if_true, if_false, ite_true, ite_false, eq_self] at hK ⊢; first | exact hK _ _ | exact (va_upid (va_up V 0 P) 1) ▸ hK x _) | (simp (disch := omega) only [tput_eq, tput2, tput_ne, upd_eq, upd_ne, ne_eq, va_upeq, va_upne, va_up2, not_true_eq_false, not_false_eq_true, or_false, false_or, or_true, true_or, and_true, true_and, and_false, false_and, or_self, and_self, if_true, if_false, ite_true, ite_false, eq_self]; first | exact hK _ _ | exact (va_upid (va_up V 0 P) 1) ▸ hK x _) | (simp (disch := omega) only [tput_eq, tput2, tput_ne, upd_eq, upd_ne, ne_eq, va_upeq, va_upne, va_up2, not_true_eq_false, not_false_eq_true, or_false, false_or, or_true, true_or, and_true, true_and, and_false, false_and, or_self, and_self, if_true, if_false, ite_true, ite_false, eq_self] at hK; first | exact hK _ _ | exact (va_upid (va_up V 0 P) 1) ▸ hK x _)
  · skip
    refine wp_iload_n (q := 1) d_FG_beside_0 rfl rfl ?_
    refine wp_iconst (q := 2) d_FG_beside_1 rfl ic_1 ?_
    refine wp_sipush (q := 5) d_FG_beside_2 rfl sp_240 ?_
    refine wp_cs3 (q := 8) lk_FG_61 (ro _ _ _) d_FG_beside_5 rfl (Nat.le_of_ble_eq_true rfl) (Nat.zero_le _) (Nat.zero_le _) ?_
    refine ok_FG_within (fun hna hnb2 => ?_) (fun hn => ?_)
    · obtain ⟨n, hn1, hn2, rfl⟩ := nI_btw1 (by decide) hna hnb2
      refine wp_if_eq_f (q := 11) (tgt := 29) d_FG_beside_8 (by decide) rfl (by decide) ?_
      refine wp_iload_n (q := 12) d_FG_beside_11 rfl rfl ?_
      refine wp_iconst (q := 13) d_FG_beside_12 rfl ic_0 ?_
      refine wp_iconst (q := 14) d_FG_beside_13 rfl ic_1 ?_
      refine wp_cs3 (q := 17) lk_FG_61 (ro _ _ _) d_FG_beside_14 rfl (Nat.le_of_ble_eq_true rfl) (Nat.zero_le _) (Nat.zero_le _) ?_
      refine ok_FG_within0 (b := 1) (by decide) (fun r1 hr1 e => ?_) (fun hr1 => ?_)
      · subst e
        refine wp_if_eq_f (q := 20) (tgt := 29) d_FG_beside_17 (by decide) rfl (by decide) ?_
        refine wp_iload_n (q := 21) d_FG_beside_20 rfl rfl ?_
        refine wp_iconst (q := 22) d_FG_beside_21 rfl ic_0 ?_
        refine wp_iconst (q := 23) d_FG_beside_22 rfl ic_2 ?_
        refine wp_cs3 (q := 26) lk_FG_61 (ro _ _ _) d_FG_beside_23 rfl (Nat.le_of_ble_eq_true rfl) (Nat.zero_le _) (Nat.zero_le _) ?_
        refine ok_FG_within (fun ha hb => absurd ⟨ha, hb⟩ hn_sw) (fun hw1 => ?_)
        refine wp_if_ne_f (q := 29) (tgt := 33) d_FG_beside_26 (by decide) rfl (by decide) ?_
        refine wp_ldc2 (q := 32) d_FG_beside_29 rfl kl_FG_253 ?_
        refine wp_lret d_FG_beside_32 rfl (Nat.le_refl _) (Nat.le_refl _) ?_
        simp only [sp_beside, inn, inb, inm, btw, hn_sw, hna, hnb2, tnl hn2, inn_t hr1, tnl hr1, not_true_eq_false, not_false_eq_true, or_false, false_or, or_true, true_or, and_true, true_and, and_false, false_and, or_self, and_self, if_true, if_false, ite_true, ite_false, eq_self] at hK
        first | first | exact hK _ _ | exact (va_upid (va_up V 0 P) 1) ▸ hK x _ | (simp (disch := omega) only [tput_eq, tput2, tput_ne, upd_eq, upd_ne, ne_eq, va_upeq, va_upne, va_up2, not_true_eq_false, not_false_eq_true, or_false, false_or, or_true, true_or, and_true, true_and, and_false, false_and, or_self, and_self, if_true, if_false, ite_true, ite_false, eq_self] at hK ⊢; first | exact hK _ _ | exact (va_upid (va_up V 0 P) 1) ▸ hK x _) | (simp (disch := omega) only [tput_eq, tput2, tput_ne, upd_eq, upd_ne, ne_eq, va_upeq, va_upne, va_up2, not_true_eq_false, not_false_eq_true, or_false, false_or, or_true, true_or, and_true, true_and, and_false, false_and, or_self, and_self, if_true, if_false, ite_true, ite_false, eq_self]; first | exact hK _ _ | exact (va_upid (va_up V 0 P) 1) ▸ hK x _) | (simp (disch := omega) only [tput_eq, tput2, tput_ne, upd_eq, upd_ne, ne_eq, va_upeq, va_upne, va_up2, not_true_eq_false, not_false_eq_true, or_false, false_or, or_true, true_or, and_true, true_and, and_false, false_and, or_self, and_self, if_true, if_false, ite_true, ite_false, eq_self] at hK; first | exact hK _ _ | exact (va_upid (va_up V 0 P) 1) ▸ hK x _)
      · refine wp_if_eq_t (tgt := 29) d_FG_beside_17 (by decide) (by decide) ?_
        refine wp_ldc2 (q := 32) d_FG_beside_29 rfl kl_FG_253 ?_
        refine wp_lret d_FG_beside_32 rfl (Nat.le_refl _) (Nat.le_refl _) ?_
        simp only [sp_beside, inn, inb, inm, btw, hn_sw, hna, hnb2, tnl hn2, hr1, not_true_eq_false, not_false_eq_true, or_false, false_or, or_true, true_or, and_true, true_and, and_false, false_and, or_self, and_self, if_true, if_false, ite_true, ite_false, eq_self] at hK
        first | first | exact hK _ _ | exact (va_upid (va_up V 0 P) 1) ▸ hK x _ | (simp (disch := omega) only [tput_eq, tput2, tput_ne, upd_eq, upd_ne, ne_eq, va_upeq, va_upne, va_up2, not_true_eq_false, not_false_eq_true, or_false, false_or, or_true, true_or, and_true, true_and, and_false, false_and, or_self, and_self, if_true, if_false, ite_true, ite_false, eq_self] at hK ⊢; first | exact hK _ _ | exact (va_upid (va_up V 0 P) 1) ▸ hK x _) | (simp (disch := omega) only [tput_eq, tput2, tput_ne, upd_eq, upd_ne, ne_eq, va_upeq, va_upne, va_up2, not_true_eq_false, not_false_eq_true, or_false, false_or, or_true, true_or, and_true, true_and, and_false, false_and, or_self, and_self, if_true, if_false, ite_true, ite_false, eq_self]; first | exact hK _ _ | exact (va_upid (va_up V 0 P) 1) ▸ hK x _) | (simp (disch := omega) only [tput_eq, tput2, tput_ne, upd_eq, upd_ne, ne_eq, va_upeq, va_upne, va_up2, not_true_eq_false, not_false_eq_true, or_false, false_or, or_true, true_or, and_true, true_and, and_false, false_and, or_self, and_self, if_true, if_false, ite_true, ite_false, eq_self] at hK; first | exact hK _ _ | exact (va_upid (va_up V 0 P) 1) ▸ hK x _)
    · refine wp_if_eq_t (tgt := 29) d_FG_beside_8 (by decide) (by decide) ?_
      refine wp_ldc2 (q := 32) d_FG_beside_29 rfl kl_FG_253 ?_
      refine wp_lret d_FG_beside_32 rfl (Nat.le_refl _) (Nat.le_refl _) ?_
      simp only [sp_beside, inn, inb, inm, btw, hn_sw, hn, not_true_eq_false, not_false_eq_true, or_false, false_or, or_true, true_or, and_true, true_and, and_false, false_and, or_self, and_self, if_true, if_false, ite_true, ite_false, eq_self] at hK
      first | first | exact hK _ _ | exact (va_upid (va_up V 0 P) 1) ▸ hK x _ | (simp (disch := omega) only [tput_eq, tput2, tput_ne, upd_eq, upd_ne, ne_eq, va_upeq, va_upne, va_up2, not_true_eq_false, not_false_eq_true, or_false, false_or, or_true, true_or, and_true, true_and, and_false, false_and, or_self, and_self, if_true, if_false, ite_true, ite_false, eq_self] at hK ⊢; first | exact hK _ _ | exact (va_upid (va_up V 0 P) 1) ▸ hK x _) | (simp (disch := omega) only [tput_eq, tput2, tput_ne, upd_eq, upd_ne, ne_eq, va_upeq, va_upne, va_up2, not_true_eq_false, not_false_eq_true, or_false, false_or, or_true, true_or, and_true, true_and, and_false, false_and, or_self, and_self, if_true, if_false, ite_true, ite_false, eq_self]; first | exact hK _ _ | exact (va_upid (va_up V 0 P) 1) ▸ hK x _) | (simp (disch := omega) only [tput_eq, tput2, tput_ne, upd_eq, upd_ne, ne_eq, va_upeq, va_upne, va_up2, not_true_eq_false, not_false_eq_true, or_false, false_or, or_true, true_or, and_true, true_and, and_false, false_and, or_self, and_self, if_true, if_false, ite_true, ite_false, eq_self] at hK; first | exact hK _ _ | exact (va_upid (va_up V 0 P) 1) ▸ hK x _)
set_option maxHeartbeats 4000000 in
set_option maxRecDepth 100000 in
theorem ok_Rf_beside {D : xD} {N : Nat} {l : Launch} {d : Nat} {c z : T2} {P Q : Nat → Int32} {rest : List va_E} {K : Option Value → List va_E → Prop} {n r w : Int32} {nb : Nat} (hnb : c 32 1 = nI nb) (h12 : nb ≤ 12) {m : Nat} (hWV : WV c P nb m) (hm : m ≤ 14400) (hT : TI c) (hSE : SE c) (hCI : CI c)  (hK : ∀ z2 : T2, K (some (.long (sp_beside c P nb m n r w))) (encR D N c z2 P Q ++ rest)) : Ok D N l (d + 7) M_Rf_beside [.ref (N + 0), .int n, .int r, .int w] (encR D N c z P Q ++ rest) 0 0 K := by
  refine ok_of (L := [(0, _), (1, _), (2, _), (3, _)]) (by decide) (Nat.le_of_ble_eq_true rfl) rfl ?_
  rcases sw w 2 (by decide) with ⟨k_sw, hk_sw, rfl⟩ | ⟨hn_sw, ho_sw⟩
  · rcases (show k_sw = 0 ∨ k_sw = 1 ∨ k_sw = 2 by omega) with rfl | rfl | rfl
    · skip
      refine wp_iload_n (q := 1) d_Rf_beside_0 rfl rfl ?_
      refine wp_iconst (q := 2) d_Rf_beside_1 rfl ic_1 ?_
      refine wp_sipush (q := 5) d_Rf_beside_2 rfl sp_240 ?_
      refine wp_cs3 (q := 8) lk_Rf_151 (ro _ _ _) d_Rf_beside_5 rfl (Nat.le_of_ble_eq_true rfl) (Nat.zero_le _) (Nat.zero_le _) ?_
      refine ok_Rf_in (fun hna hnb2 => ?_) (fun hn => ?_)
      · obtain ⟨n, hn1, hn2, rfl⟩ := nI_btw1 (by decide) hna hnb2
        refine wp_if_eq_f (q := 11) (tgt := 45) d_Rf_beside_8 (by decide) rfl (by decide) ?_
        refine wp_iload_n (q := 12) d_Rf_beside_11 rfl rfl ?_
        refine wp_iconst (q := 13) d_Rf_beside_12 rfl ic_0 ?_
        refine wp_iconst (q := 14) d_Rf_beside_13 rfl ic_1 ?_
        refine wp_cs3 (q := 17) lk_Rf_151 (ro _ _ _) d_Rf_beside_14 rfl (Nat.le_of_ble_eq_true rfl) (Nat.zero_le _) (Nat.zero_le _) ?_
        refine ok_Rf_in0 (b := 1) (by decide) (fun r1 hr1 e => ?_) (fun hr1 => ?_)
        · subst e
          refine wp_if_eq_f (q := 20) (tgt := 45) d_Rf_beside_17 (by decide) rfl (by decide) ?_
          refine wp_iload_n (q := 21) d_Rf_beside_20 rfl rfl ?_
          refine wp_iconst (q := 22) d_Rf_beside_21 rfl ic_0 ?_
          refine wp_iconst (q := 23) d_Rf_beside_22 rfl ic_2 ?_
          refine wp_cs3 (q := 26) lk_Rf_151 (ro _ _ _) d_Rf_beside_23 rfl (Nat.le_of_ble_eq_true rfl) (Nat.zero_le _) (Nat.zero_le _) ?_
          refine ok_Rf_in (fun _ _ => ?_) (fun hw1 => absurd (inn_t (show 0 ≤ 2 by decide)) hw1)
          refine wp_if_eq_f (q := 29) (tgt := 45) d_Rf_beside_26 (by decide) rfl (by decide) ?_
          refine wp_aload_n (q := 30) d_Rf_beside_29 rfl rfl ?_
          refine wp_get (q := 33) fl_Rf_7 d_Rf_beside_30 rfl rfl rfl ?_
          refine wp_sipush (q := 36) d_Rf_beside_33 rfl sp_234 ?_
          refine wp_iald (q := 37) d_Rf_beside_36 rfl (rfl) (by omega) (by decide) ?_
          rw [hWV.1.1]
          refine wp_iload_n (q := 38) d_Rf_beside_37 rfl rfl ?_
          first | refine wp_iaddN (q := 39) d_Rf_beside_38 rfl ?_ | refine wp_iadd (q := 39) d_Rf_beside_38 rfl ?_
          refine wp_sipush (q := 42) d_Rf_beside_39 rfl sp_14400 ?_
          refine wp_icmp_le (q := 45) (tgt := 49) d_Rf_beside_42 (by decide) rfl (fun hc_42 => ?_) (fun hc_42 => ?_)
          · have hmk : m + n ≤ 14400 := (nI_leI (by omega) (by decide)).mp hc_42
            refine wp_aload_n (q := 50) d_Rf_beside_49 rfl rfl ?_
            refine wp_iconst (q := 51) d_Rf_beside_50 rfl ic_0 ?_
            refine wp_cv1 (q := 54) lk_Rf_271 (ro _ _ _) d_Rf_beside_51 rfl (Nat.le_of_ble_eq_true rfl) (rfl) rfl (Nat.zero_le _) (Nat.zero_le _) ?_
            refine ok_Rf_lays0 ?_
            refine wp_aload_n (q := 55) d_Rf_beside_54 rfl rfl ?_
            refine wp_get (q := 58) fl_Rf_7 d_Rf_beside_55 rfl rfl rfl ?_
            refine wp_sipush (q := 61) d_Rf_beside_58 rfl sp_235 ?_
            refine wp_iload_n (q := 62) d_Rf_beside_61 rfl rfl ?_
            refine wp_iast (q := 63) d_Rf_beside_62 rfl (rfl) (by omega) (by decide) (fr_P) ?_
            refine wp_iload_n (q := 64) d_Rf_beside_63 rfl rfl ?_
            refine wp_if_ne_f (q := 67) (tgt := 73) d_Rf_beside_64 (by decide) rfl (by decide) ?_
            refine wp_sipush (q := 70) d_Rf_beside_67 rfl sp_238 ?_
            refine wp_goto (tgt := 87) d_Rf_beside_70 (by decide) ?_
            refine wp_istore (q := 89) (L2 := [(4, _), (0, _), (1, _), (2, _), (3, _)]) d_Rf_beside_87 rfl (by decide) rfl ?_
            refine wp_iconst (q := 90) d_Rf_beside_89 rfl ic_0 ?_
            refine wp_istore (q := 92) (L2 := [(5, _), (4, _), (0, _), (1, _), (2, _), (3, _)]) d_Rf_beside_90 rfl (by decide) rfl ?_
            simp only [sp_beside, inn, btw, inn_t (show 0 ≤ 2 by decide), tnl (show 0 ≤ 2 by decide), (show ¬ nI 0 = nI 1 by decide), (show ¬ nI 0 = nI 2 by decide), hna, hnb2, tnl hn2, inn_t hr1, tnl hr1, hc_42, nI_add, (show bsI 0 = 238 from rfl), not_true_eq_false, not_false_eq_true, or_false, false_or, or_true, true_or, and_true, true_and, and_false, false_and, or_self, and_self, if_true, if_false, ite_true, ite_false, eq_self] at hK
            have hWR : WV c (upd P 235 (nI r1)) nb m := hWV.put (by unfold crit; omega) (by unfold gcr; omega)
            refine be_Rf_beside (R := upd P 235 (nI r1)) hnb h12 hWR hmk hT hSE hCI ?_ 0 (Nat.zero_le _)
            refine wp_aload_n (q := 109) d_Rf_beside_108 rfl rfl ?_
            refine wp_get (q := 112) fl_Rf_7 d_Rf_beside_109 rfl rfl rfl ?_
            refine wp_iload (q := 114) d_Rf_beside_112 rfl rfl ?_
            refine wp_iald (q := 115) d_Rf_beside_114 rfl (rfl) (by omega) (by decide) ?_
            refine wp_aload_n (q := 116) d_Rf_beside_115 rfl rfl ?_
            refine wp_get (q := 119) fl_Rf_13 d_Rf_beside_116 rfl rfl rfl ?_
            refine wp_iload (q := 121) d_Rf_beside_119 rfl rfl ?_
            refine wp_iald (q := 122) d_Rf_beside_121 rfl (rfl) (by omega) (by decide) ?_
            refine wp_isub (q := 123) d_Rf_beside_122 rfl ?_
            rw [tput_eq]
            rw [show P 238 = P (bsI 0) from rfl, show pN c (upd P 235 (nI r1)) nb m n 238 = pN c (upd P 235 (nI r1)) nb m n (bsI 0) from rfl]
            refine wp_i2l (q := 124) d_Rf_beside_123 rfl ?_
            rw [hWV.diff (w := 0) (hWR.ps hT hSE h12 n (by omega)) (by omega) (by omega)]
            refine wp_lstore (q := 126) (L2 := [(5, _), (4, _), (0, _), (1, _), (2, _), (3, _)]) d_Rf_beside_124 rfl (by decide) rfl ?_
            refine wp_aload_n (q := 127) d_Rf_beside_126 rfl rfl ?_
            refine wp_iconst (q := 128) d_Rf_beside_127 rfl ic_1 ?_
            refine wp_cv1 (q := 131) lk_Rf_271 (ro _ _ _) d_Rf_beside_128 rfl (Nat.le_of_ble_eq_true rfl) (rfl) rfl (Nat.zero_le _) (Nat.zero_le _) ?_
            refine ok_Rf_lays1 ?_
            rw [tput_eq]
            refine wp_lload (q := 133) d_Rf_beside_131 rfl rfl ?_
            refine wp_lret d_Rf_beside_133 rfl (Nat.le_refl _) (Nat.le_refl _) ?_
            exact hK _
          · refine wp_ldc2 (q := 48) d_Rf_beside_45 rfl kl_Rf_275 ?_
            refine wp_lret d_Rf_beside_48 rfl (Nat.le_refl _) (Nat.le_refl _) ?_
            simp only [sp_beside, inn, inb, inm, btw, inn_t (show 0 ≤ 2 by decide), tnl (show 0 ≤ 2 by decide), (show ¬ nI 0 = nI 1 by decide), (show ¬ nI 0 = nI 2 by decide), hna, hnb2, tnl hn2, inn_t hr1, tnl hr1, hc_42, nI_add, not_true_eq_false, not_false_eq_true, or_false, false_or, or_true, true_or, and_true, true_and, and_false, false_and, or_self, and_self, if_true, if_false, ite_true, ite_false, eq_self] at hK
            first | exact hK _ | (simp (disch := omega) only [tput_eq, tput2, tput_ne, upd_eq, upd_ne, ne_eq, va_upeq, va_upne, va_up2, not_true_eq_false, not_false_eq_true, or_false, false_or, or_true, true_or, and_true, true_and, and_false, false_and, or_self, and_self, if_true, if_false, ite_true, ite_false, eq_self] at hK ⊢; exact hK _) | (simp (disch := omega) only [tput_eq, tput2, tput_ne, upd_eq, upd_ne, ne_eq, va_upeq, va_upne, va_up2, not_true_eq_false, not_false_eq_true, or_false, false_or, or_true, true_or, and_true, true_and, and_false, false_and, or_self, and_self, if_true, if_false, ite_true, ite_false, eq_self]; exact hK _) | (simp (disch := omega) only [tput_eq, tput2, tput_ne, upd_eq, upd_ne, ne_eq, va_upeq, va_upne, va_up2, not_true_eq_false, not_false_eq_true, or_false, false_or, or_true, true_or, and_true, true_and, and_false, false_and, or_self, and_self, if_true, if_false, ite_true, ite_false, eq_self] at hK; exact hK _)
        · refine wp_if_eq_t (tgt := 45) d_Rf_beside_17 (by decide) (by decide) ?_
          refine wp_ldc2 (q := 48) d_Rf_beside_45 rfl kl_Rf_275 ?_
          refine wp_lret d_Rf_beside_48 rfl (Nat.le_refl _) (Nat.le_refl _) ?_
          simp only [sp_beside, inn, inb, inm, btw, inn_t (show 0 ≤ 2 by decide), tnl (show 0 ≤ 2 by decide), (show ¬ nI 0 = nI 1 by decide), (show ¬ nI 0 = nI 2 by decide), hna, hnb2, tnl hn2, hr1, not_true_eq_false, not_false_eq_true, or_false, false_or, or_true, true_or, and_true, true_and, and_false, false_and, or_self, and_self, if_true, if_false, ite_true, ite_false, eq_self] at hK
          first | exact hK _ | (simp (disch := omega) only [tput_eq, tput2, tput_ne, upd_eq, upd_ne, ne_eq, va_upeq, va_upne, va_up2, not_true_eq_false, not_false_eq_true, or_false, false_or, or_true, true_or, and_true, true_and, and_false, false_and, or_self, and_self, if_true, if_false, ite_true, ite_false, eq_self] at hK ⊢; exact hK _) | (simp (disch := omega) only [tput_eq, tput2, tput_ne, upd_eq, upd_ne, ne_eq, va_upeq, va_upne, va_up2, not_true_eq_false, not_false_eq_true, or_false, false_or, or_true, true_or, and_true, true_and, and_false, false_and, or_self, and_self, if_true, if_false, ite_true, ite_false, eq_self]; exact hK _) | (simp (disch := omega) only [tput_eq, tput2, tput_ne, upd_eq, upd_ne, ne_eq, va_upeq, va_upne, va_up2, not_true_eq_false, not_false_eq_true, or_false, false_or, or_true, true_or, and_true, true_and, and_false, false_and, or_self, and_self, if_true, if_false, ite_true, ite_false, eq_self] at hK; exact hK _)
      · refine wp_if_eq_t (tgt := 45) d_Rf_beside_8 (by decide) (by decide) ?_
        refine wp_ldc2 (q := 48) d_Rf_beside_45 rfl kl_Rf_275 ?_
        refine wp_lret d_Rf_beside_48 rfl (Nat.le_refl _) (Nat.le_refl _) ?_
        simp only [sp_beside, inn, inb, inm, btw, inn_t (show 0 ≤ 2 by decide), tnl (show 0 ≤ 2 by decide), (show ¬ nI 0 = nI 1 by decide), (show ¬ nI 0 = nI 2 by decide), hn, not_true_eq_false, not_false_eq_true, or_false, false_or, or_true, true_or, and_true, true_and, and_false, false_and, or_self, and_self, if_true, if_false, ite_true, ite_false, eq_self] at hK
        first | exact hK _ | (simp (disch := omega) only [tput_eq, tput2, tput_ne, upd_eq, upd_ne, ne_eq, va_upeq, va_upne, va_up2, not_true_eq_false, not_false_eq_true, or_false, false_or, or_true, true_or, and_true, true_and, and_false, false_and, or_self, and_self, if_true, if_false, ite_true, ite_false, eq_self] at hK ⊢; exact hK _) | (simp (disch := omega) only [tput_eq, tput2, tput_ne, upd_eq, upd_ne, ne_eq, va_upeq, va_upne, va_up2, not_true_eq_false, not_false_eq_true, or_false, false_or, or_true, true_or, and_true, true_and, and_false, false_and, or_self, and_self, if_true, if_false, ite_true, ite_false, eq_self]; exact hK _) | (simp (disch := omega) only [tput_eq, tput2, tput_ne, upd_eq, upd_ne, ne_eq, va_upeq, va_upne, va_up2, not_true_eq_false, not_false_eq_true, or_false, false_or, or_true, true_or, and_true, true_and, and_false, false_and, or_self, and_self, if_true, if_false, ite_true, ite_false, eq_self] at hK; exact hK _)
    · skip
      refine wp_iload_n (q := 1) d_Rf_beside_0 rfl rfl ?_
      refine wp_iconst (q := 2) d_Rf_beside_1 rfl ic_1 ?_
      refine wp_sipush (q := 5) d_Rf_beside_2 rfl sp_240 ?_
      refine wp_cs3 (q := 8) lk_Rf_151 (ro _ _ _) d_Rf_beside_5 rfl (Nat.le_of_ble_eq_true rfl) (Nat.zero_le _) (Nat.zero_le _) ?_
      refine ok_Rf_in (fun hna hnb2 => ?_) (fun hn => ?_)
      · obtain ⟨n, hn1, hn2, rfl⟩ := nI_btw1 (by decide) hna hnb2
        refine wp_if_eq_f (q := 11) (tgt := 45) d_Rf_beside_8 (by decide) rfl (by decide) ?_
        refine wp_iload_n (q := 12) d_Rf_beside_11 rfl rfl ?_
        refine wp_iconst (q := 13) d_Rf_beside_12 rfl ic_0 ?_
        refine wp_iconst (q := 14) d_Rf_beside_13 rfl ic_1 ?_
        refine wp_cs3 (q := 17) lk_Rf_151 (ro _ _ _) d_Rf_beside_14 rfl (Nat.le_of_ble_eq_true rfl) (Nat.zero_le _) (Nat.zero_le _) ?_
        refine ok_Rf_in0 (b := 1) (by decide) (fun r1 hr1 e => ?_) (fun hr1 => ?_)
        · subst e
          refine wp_if_eq_f (q := 20) (tgt := 45) d_Rf_beside_17 (by decide) rfl (by decide) ?_
          refine wp_iload_n (q := 21) d_Rf_beside_20 rfl rfl ?_
          refine wp_iconst (q := 22) d_Rf_beside_21 rfl ic_0 ?_
          refine wp_iconst (q := 23) d_Rf_beside_22 rfl ic_2 ?_
          refine wp_cs3 (q := 26) lk_Rf_151 (ro _ _ _) d_Rf_beside_23 rfl (Nat.le_of_ble_eq_true rfl) (Nat.zero_le _) (Nat.zero_le _) ?_
          refine ok_Rf_in (fun _ _ => ?_) (fun hw1 => absurd (inn_t (show 1 ≤ 2 by decide)) hw1)
          refine wp_if_eq_f (q := 29) (tgt := 45) d_Rf_beside_26 (by decide) rfl (by decide) ?_
          refine wp_aload_n (q := 30) d_Rf_beside_29 rfl rfl ?_
          refine wp_get (q := 33) fl_Rf_7 d_Rf_beside_30 rfl rfl rfl ?_
          refine wp_sipush (q := 36) d_Rf_beside_33 rfl sp_234 ?_
          refine wp_iald (q := 37) d_Rf_beside_36 rfl (rfl) (by omega) (by decide) ?_
          rw [hWV.1.1]
          refine wp_iload_n (q := 38) d_Rf_beside_37 rfl rfl ?_
          first | refine wp_iaddN (q := 39) d_Rf_beside_38 rfl ?_ | refine wp_iadd (q := 39) d_Rf_beside_38 rfl ?_
          refine wp_sipush (q := 42) d_Rf_beside_39 rfl sp_14400 ?_
          refine wp_icmp_le (q := 45) (tgt := 49) d_Rf_beside_42 (by decide) rfl (fun hc_42 => ?_) (fun hc_42 => ?_)
          · have hmk : m + n ≤ 14400 := (nI_leI (by omega) (by decide)).mp hc_42
            refine wp_aload_n (q := 50) d_Rf_beside_49 rfl rfl ?_
            refine wp_iconst (q := 51) d_Rf_beside_50 rfl ic_0 ?_
            refine wp_cv1 (q := 54) lk_Rf_271 (ro _ _ _) d_Rf_beside_51 rfl (Nat.le_of_ble_eq_true rfl) (rfl) rfl (Nat.zero_le _) (Nat.zero_le _) ?_
            refine ok_Rf_lays0 ?_
            refine wp_aload_n (q := 55) d_Rf_beside_54 rfl rfl ?_
            refine wp_get (q := 58) fl_Rf_7 d_Rf_beside_55 rfl rfl rfl ?_
            refine wp_sipush (q := 61) d_Rf_beside_58 rfl sp_235 ?_
            refine wp_iload_n (q := 62) d_Rf_beside_61 rfl rfl ?_
            refine wp_iast (q := 63) d_Rf_beside_62 rfl (rfl) (by omega) (by decide) (fr_P) ?_
            refine wp_iload_n (q := 64) d_Rf_beside_63 rfl rfl ?_
            refine wp_if_ne_t (tgt := 73) d_Rf_beside_64 (by decide) (by decide) ?_
            refine wp_iload_n (q := 74) d_Rf_beside_73 rfl rfl ?_
            refine wp_iconst (q := 75) d_Rf_beside_74 rfl ic_1 ?_
            refine wp_icmp_ne_f (q := 78) (tgt := 84) d_Rf_beside_75 (by decide) rfl (by decide) ?_
            refine wp_sipush (q := 81) d_Rf_beside_78 rfl sp_237 ?_
            refine wp_goto (tgt := 87) d_Rf_beside_81 (by decide) ?_
            refine wp_istore (q := 89) (L2 := [(4, _), (0, _), (1, _), (2, _), (3, _)]) d_Rf_beside_87 rfl (by decide) rfl ?_
            refine wp_iconst (q := 90) d_Rf_beside_89 rfl ic_0 ?_
            refine wp_istore (q := 92) (L2 := [(5, _), (4, _), (0, _), (1, _), (2, _), (3, _)]) d_Rf_beside_90 rfl (by decide) rfl ?_
            simp only [sp_beside, inn, btw, inn_t (show 1 ≤ 2 by decide), tnl (show 1 ≤ 2 by decide), (show ¬ nI 1 = nI 0 by decide), (show ¬ nI 1 = nI 2 by decide), hna, hnb2, tnl hn2, inn_t hr1, tnl hr1, hc_42, nI_add, (show bsI 1 = 237 from rfl), not_true_eq_false, not_false_eq_true, or_false, false_or, or_true, true_or, and_true, true_and, and_false, false_and, or_self, and_self, if_true, if_false, ite_true, ite_false, eq_self] at hK
            have hWR : WV c (upd P 235 (nI r1)) nb m := hWV.put (by unfold crit; omega) (by unfold gcr; omega)
            refine be_Rf_beside (R := upd P 235 (nI r1)) hnb h12 hWR hmk hT hSE hCI ?_ 0 (Nat.zero_le _)
            refine wp_aload_n (q := 109) d_Rf_beside_108 rfl rfl ?_
            refine wp_get (q := 112) fl_Rf_7 d_Rf_beside_109 rfl rfl rfl ?_
            refine wp_iload (q := 114) d_Rf_beside_112 rfl rfl ?_
            refine wp_iald (q := 115) d_Rf_beside_114 rfl (rfl) (by omega) (by decide) ?_
            refine wp_aload_n (q := 116) d_Rf_beside_115 rfl rfl ?_
            refine wp_get (q := 119) fl_Rf_13 d_Rf_beside_116 rfl rfl rfl ?_
            refine wp_iload (q := 121) d_Rf_beside_119 rfl rfl ?_
            refine wp_iald (q := 122) d_Rf_beside_121 rfl (rfl) (by omega) (by decide) ?_
            refine wp_isub (q := 123) d_Rf_beside_122 rfl ?_
            rw [tput_eq]
            rw [show P 237 = P (bsI 1) from rfl, show pN c (upd P 235 (nI r1)) nb m n 237 = pN c (upd P 235 (nI r1)) nb m n (bsI 1) from rfl]
            refine wp_i2l (q := 124) d_Rf_beside_123 rfl ?_
            rw [hWV.diff (w := 1) (hWR.ps hT hSE h12 n (by omega)) (by omega) (by omega)]
            refine wp_lstore (q := 126) (L2 := [(5, _), (4, _), (0, _), (1, _), (2, _), (3, _)]) d_Rf_beside_124 rfl (by decide) rfl ?_
            refine wp_aload_n (q := 127) d_Rf_beside_126 rfl rfl ?_
            refine wp_iconst (q := 128) d_Rf_beside_127 rfl ic_1 ?_
            refine wp_cv1 (q := 131) lk_Rf_271 (ro _ _ _) d_Rf_beside_128 rfl (Nat.le_of_ble_eq_true rfl) (rfl) rfl (Nat.zero_le _) (Nat.zero_le _) ?_
            refine ok_Rf_lays1 ?_
            rw [tput_eq]
            refine wp_lload (q := 133) d_Rf_beside_131 rfl rfl ?_
            refine wp_lret d_Rf_beside_133 rfl (Nat.le_refl _) (Nat.le_refl _) ?_
            exact hK _
          · refine wp_ldc2 (q := 48) d_Rf_beside_45 rfl kl_Rf_275 ?_
            refine wp_lret d_Rf_beside_48 rfl (Nat.le_refl _) (Nat.le_refl _) ?_
            simp only [sp_beside, inn, inb, inm, btw, inn_t (show 1 ≤ 2 by decide), tnl (show 1 ≤ 2 by decide), (show ¬ nI 1 = nI 0 by decide), (show ¬ nI 1 = nI 2 by decide), hna, hnb2, tnl hn2, inn_t hr1, tnl hr1, hc_42, nI_add, not_true_eq_false, not_false_eq_true, or_false, false_or, or_true, true_or, and_true, true_and, and_false, false_and, or_self, and_self, if_true, if_false, ite_true, ite_false, eq_self] at hK
            first | exact hK _ | (simp (disch := omega) only [tput_eq, tput2, tput_ne, upd_eq, upd_ne, ne_eq, va_upeq, va_upne, va_up2, not_true_eq_false, not_false_eq_true, or_false, false_or, or_true, true_or, and_true, true_and, and_false, false_and, or_self, and_self, if_true, if_false, ite_true, ite_false, eq_self] at hK ⊢; exact hK _) | (simp (disch := omega) only [tput_eq, tput2, tput_ne, upd_eq, upd_ne, ne_eq, va_upeq, va_upne, va_up2, not_true_eq_false, not_false_eq_true, or_false, false_or, or_true, true_or, and_true, true_and, and_false, false_and, or_self, and_self, if_true, if_false, ite_true, ite_false, eq_self]; exact hK _) | (simp (disch := omega) only [tput_eq, tput2, tput_ne, upd_eq, upd_ne, ne_eq, va_upeq, va_upne, va_up2, not_true_eq_false, not_false_eq_true, or_false, false_or, or_true, true_or, and_true, true_and, and_false, false_and, or_self, and_self, if_true, if_false, ite_true, ite_false, eq_self] at hK; exact hK _)
        · refine wp_if_eq_t (tgt := 45) d_Rf_beside_17 (by decide) (by decide) ?_
          refine wp_ldc2 (q := 48) d_Rf_beside_45 rfl kl_Rf_275 ?_
          refine wp_lret d_Rf_beside_48 rfl (Nat.le_refl _) (Nat.le_refl _) ?_
          simp only [sp_beside, inn, inb, inm, btw, inn_t (show 1 ≤ 2 by decide), tnl (show 1 ≤ 2 by decide), (show ¬ nI 1 = nI 0 by decide), (show ¬ nI 1 = nI 2 by decide), hna, hnb2, tnl hn2, hr1, not_true_eq_false, not_false_eq_true, or_false, false_or, or_true, true_or, and_true, true_and, and_false, false_and, or_self, and_self, if_true, if_false, ite_true, ite_false, eq_self] at hK
          first | exact hK _ | (simp (disch := omega) only [tput_eq, tput2, tput_ne, upd_eq, upd_ne, ne_eq, va_upeq, va_upne, va_up2, not_true_eq_false, not_false_eq_true, or_false, false_or, or_true, true_or, and_true, true_and, and_false, false_and, or_self, and_self, if_true, if_false, ite_true, ite_false, eq_self] at hK ⊢; exact hK _) | (simp (disch := omega) only [tput_eq, tput2, tput_ne, upd_eq, upd_ne, ne_eq, va_upeq, va_upne, va_up2, not_true_eq_false, not_false_eq_true, or_false, false_or, or_true, true_or, and_true, true_and, and_false, false_and, or_self, and_self, if_true, if_false, ite_true, ite_false, eq_self]; exact hK _) | (simp (disch := omega) only [tput_eq, tput2, tput_ne, upd_eq, upd_ne, ne_eq, va_upeq, va_upne, va_up2, not_true_eq_false, not_false_eq_true, or_false, false_or, or_true, true_or, and_true, true_and, and_false, false_and, or_self, and_self, if_true, if_false, ite_true, ite_false, eq_self] at hK; exact hK _)
      · refine wp_if_eq_t (tgt := 45) d_Rf_beside_8 (by decide) (by decide) ?_
        refine wp_ldc2 (q := 48) d_Rf_beside_45 rfl kl_Rf_275 ?_
        refine wp_lret d_Rf_beside_48 rfl (Nat.le_refl _) (Nat.le_refl _) ?_
        simp only [sp_beside, inn, inb, inm, btw, inn_t (show 1 ≤ 2 by decide), tnl (show 1 ≤ 2 by decide), (show ¬ nI 1 = nI 0 by decide), (show ¬ nI 1 = nI 2 by decide), hn, not_true_eq_false, not_false_eq_true, or_false, false_or, or_true, true_or, and_true, true_and, and_false, false_and, or_self, and_self, if_true, if_false, ite_true, ite_false, eq_self] at hK
        first | exact hK _ | (simp (disch := omega) only [tput_eq, tput2, tput_ne, upd_eq, upd_ne, ne_eq, va_upeq, va_upne, va_up2, not_true_eq_false, not_false_eq_true, or_false, false_or, or_true, true_or, and_true, true_and, and_false, false_and, or_self, and_self, if_true, if_false, ite_true, ite_false, eq_self] at hK ⊢; exact hK _) | (simp (disch := omega) only [tput_eq, tput2, tput_ne, upd_eq, upd_ne, ne_eq, va_upeq, va_upne, va_up2, not_true_eq_false, not_false_eq_true, or_false, false_or, or_true, true_or, and_true, true_and, and_false, false_and, or_self, and_self, if_true, if_false, ite_true, ite_false, eq_self]; exact hK _) | (simp (disch := omega) only [tput_eq, tput2, tput_ne, upd_eq, upd_ne, ne_eq, va_upeq, va_upne, va_up2, not_true_eq_false, not_false_eq_true, or_false, false_or, or_true, true_or, and_true, true_and, and_false, false_and, or_self, and_self, if_true, if_false, ite_true, ite_false, eq_self] at hK; exact hK _)
    · skip
      refine wp_iload_n (q := 1) d_Rf_beside_0 rfl rfl ?_
      refine wp_iconst (q := 2) d_Rf_beside_1 rfl ic_1 ?_
      refine wp_sipush (q := 5) d_Rf_beside_2 rfl sp_240 ?_
      refine wp_cs3 (q := 8) lk_Rf_151 (ro _ _ _) d_Rf_beside_5 rfl (Nat.le_of_ble_eq_true rfl) (Nat.zero_le _) (Nat.zero_le _) ?_
      refine ok_Rf_in (fun hna hnb2 => ?_) (fun hn => ?_)
      · obtain ⟨n, hn1, hn2, rfl⟩ := nI_btw1 (by decide) hna hnb2
        refine wp_if_eq_f (q := 11) (tgt := 45) d_Rf_beside_8 (by decide) rfl (by decide) ?_
        refine wp_iload_n (q := 12) d_Rf_beside_11 rfl rfl ?_
        refine wp_iconst (q := 13) d_Rf_beside_12 rfl ic_0 ?_
        refine wp_iconst (q := 14) d_Rf_beside_13 rfl ic_1 ?_
        refine wp_cs3 (q := 17) lk_Rf_151 (ro _ _ _) d_Rf_beside_14 rfl (Nat.le_of_ble_eq_true rfl) (Nat.zero_le _) (Nat.zero_le _) ?_
        refine ok_Rf_in0 (b := 1) (by decide) (fun r1 hr1 e => ?_) (fun hr1 => ?_)
        · subst e
          refine wp_if_eq_f (q := 20) (tgt := 45) d_Rf_beside_17 (by decide) rfl (by decide) ?_
          refine wp_iload_n (q := 21) d_Rf_beside_20 rfl rfl ?_
          refine wp_iconst (q := 22) d_Rf_beside_21 rfl ic_0 ?_
          refine wp_iconst (q := 23) d_Rf_beside_22 rfl ic_2 ?_
          refine wp_cs3 (q := 26) lk_Rf_151 (ro _ _ _) d_Rf_beside_23 rfl (Nat.le_of_ble_eq_true rfl) (Nat.zero_le _) (Nat.zero_le _) ?_
          refine ok_Rf_in (fun _ _ => ?_) (fun hw1 => absurd (inn_t (show 2 ≤ 2 by decide)) hw1)
          refine wp_if_eq_f (q := 29) (tgt := 45) d_Rf_beside_26 (by decide) rfl (by decide) ?_
          refine wp_aload_n (q := 30) d_Rf_beside_29 rfl rfl ?_
          refine wp_get (q := 33) fl_Rf_7 d_Rf_beside_30 rfl rfl rfl ?_
          refine wp_sipush (q := 36) d_Rf_beside_33 rfl sp_234 ?_
          refine wp_iald (q := 37) d_Rf_beside_36 rfl (rfl) (by omega) (by decide) ?_
          rw [hWV.1.1]
          refine wp_iload_n (q := 38) d_Rf_beside_37 rfl rfl ?_
          first | refine wp_iaddN (q := 39) d_Rf_beside_38 rfl ?_ | refine wp_iadd (q := 39) d_Rf_beside_38 rfl ?_
          refine wp_sipush (q := 42) d_Rf_beside_39 rfl sp_14400 ?_
          refine wp_icmp_le (q := 45) (tgt := 49) d_Rf_beside_42 (by decide) rfl (fun hc_42 => ?_) (fun hc_42 => ?_)
          · have hmk : m + n ≤ 14400 := (nI_leI (by omega) (by decide)).mp hc_42
            refine wp_aload_n (q := 50) d_Rf_beside_49 rfl rfl ?_
            refine wp_iconst (q := 51) d_Rf_beside_50 rfl ic_0 ?_
            refine wp_cv1 (q := 54) lk_Rf_271 (ro _ _ _) d_Rf_beside_51 rfl (Nat.le_of_ble_eq_true rfl) (rfl) rfl (Nat.zero_le _) (Nat.zero_le _) ?_
            refine ok_Rf_lays0 ?_
            refine wp_aload_n (q := 55) d_Rf_beside_54 rfl rfl ?_
            refine wp_get (q := 58) fl_Rf_7 d_Rf_beside_55 rfl rfl rfl ?_
            refine wp_sipush (q := 61) d_Rf_beside_58 rfl sp_235 ?_
            refine wp_iload_n (q := 62) d_Rf_beside_61 rfl rfl ?_
            refine wp_iast (q := 63) d_Rf_beside_62 rfl (rfl) (by omega) (by decide) (fr_P) ?_
            refine wp_iload_n (q := 64) d_Rf_beside_63 rfl rfl ?_
            refine wp_if_ne_t (tgt := 73) d_Rf_beside_64 (by decide) (by decide) ?_
            refine wp_iload_n (q := 74) d_Rf_beside_73 rfl rfl ?_
            refine wp_iconst (q := 75) d_Rf_beside_74 rfl ic_1 ?_
            refine wp_icmp_ne_t (tgt := 84) d_Rf_beside_75 (by decide) (by decide) ?_
            refine wp_sipush (q := 87) d_Rf_beside_84 rfl sp_236 ?_
            refine wp_istore (q := 89) (L2 := [(4, _), (0, _), (1, _), (2, _), (3, _)]) d_Rf_beside_87 rfl (by decide) rfl ?_
            refine wp_iconst (q := 90) d_Rf_beside_89 rfl ic_0 ?_
            refine wp_istore (q := 92) (L2 := [(5, _), (4, _), (0, _), (1, _), (2, _), (3, _)]) d_Rf_beside_90 rfl (by decide) rfl ?_
            simp only [sp_beside, inn, btw, inn_t (show 2 ≤ 2 by decide), tnl (show 2 ≤ 2 by decide), (show ¬ nI 2 = nI 0 by decide), (show ¬ nI 2 = nI 1 by decide), hna, hnb2, tnl hn2, inn_t hr1, tnl hr1, hc_42, nI_add, (show bsI 2 = 236 from rfl), not_true_eq_false, not_false_eq_true, or_false, false_or, or_true, true_or, and_true, true_and, and_false, false_and, or_self, and_self, if_true, if_false, ite_true, ite_false, eq_self] at hK
            have hWR : WV c (upd P 235 (nI r1)) nb m := hWV.put (by unfold crit; omega) (by unfold gcr; omega)
            refine be_Rf_beside (R := upd P 235 (nI r1)) hnb h12 hWR hmk hT hSE hCI ?_ 0 (Nat.zero_le _)
            refine wp_aload_n (q := 109) d_Rf_beside_108 rfl rfl ?_
            refine wp_get (q := 112) fl_Rf_7 d_Rf_beside_109 rfl rfl rfl ?_
            refine wp_iload (q := 114) d_Rf_beside_112 rfl rfl ?_
            refine wp_iald (q := 115) d_Rf_beside_114 rfl (rfl) (by omega) (by decide) ?_
            refine wp_aload_n (q := 116) d_Rf_beside_115 rfl rfl ?_
            refine wp_get (q := 119) fl_Rf_13 d_Rf_beside_116 rfl rfl rfl ?_
            refine wp_iload (q := 121) d_Rf_beside_119 rfl rfl ?_
            refine wp_iald (q := 122) d_Rf_beside_121 rfl (rfl) (by omega) (by decide) ?_
            refine wp_isub (q := 123) d_Rf_beside_122 rfl ?_
            rw [tput_eq]
            rw [show P 236 = P (bsI 2) from rfl, show pN c (upd P 235 (nI r1)) nb m n 236 = pN c (upd P 235 (nI r1)) nb m n (bsI 2) from rfl]
            refine wp_i2l (q := 124) d_Rf_beside_123 rfl ?_
            rw [hWV.diff (w := 2) (hWR.ps hT hSE h12 n (by omega)) (by omega) (by omega)]
            refine wp_lstore (q := 126) (L2 := [(5, _), (4, _), (0, _), (1, _), (2, _), (3, _)]) d_Rf_beside_124 rfl (by decide) rfl ?_
            refine wp_aload_n (q := 127) d_Rf_beside_126 rfl rfl ?_
            refine wp_iconst (q := 128) d_Rf_beside_127 rfl ic_1 ?_
            refine wp_cv1 (q := 131) lk_Rf_271 (ro _ _ _) d_Rf_beside_128 rfl (Nat.le_of_ble_eq_true rfl) (rfl) rfl (Nat.zero_le _) (Nat.zero_le _) ?_
            refine ok_Rf_lays1 ?_
            rw [tput_eq]
            refine wp_lload (q := 133) d_Rf_beside_131 rfl rfl ?_
            refine wp_lret d_Rf_beside_133 rfl (Nat.le_refl _) (Nat.le_refl _) ?_
            exact hK _
          · refine wp_ldc2 (q := 48) d_Rf_beside_45 rfl kl_Rf_275 ?_
            refine wp_lret d_Rf_beside_48 rfl (Nat.le_refl _) (Nat.le_refl _) ?_
            simp only [sp_beside, inn, inb, inm, btw, inn_t (show 2 ≤ 2 by decide), tnl (show 2 ≤ 2 by decide), (show ¬ nI 2 = nI 0 by decide), (show ¬ nI 2 = nI 1 by decide), hna, hnb2, tnl hn2, inn_t hr1, tnl hr1, hc_42, nI_add, not_true_eq_false, not_false_eq_true, or_false, false_or, or_true, true_or, and_true, true_and, and_false, false_and, or_self, and_self, if_true, if_false, ite_true, ite_false, eq_self] at hK
            first | exact hK _ | (simp (disch := omega) only [tput_eq, tput2, tput_ne, upd_eq, upd_ne, ne_eq, va_upeq, va_upne, va_up2, not_true_eq_false, not_false_eq_true, or_false, false_or, or_true, true_or, and_true, true_and, and_false, false_and, or_self, and_self, if_true, if_false, ite_true, ite_false, eq_self] at hK ⊢; exact hK _) | (simp (disch := omega) only [tput_eq, tput2, tput_ne, upd_eq, upd_ne, ne_eq, va_upeq, va_upne, va_up2, not_true_eq_false, not_false_eq_true, or_false, false_or, or_true, true_or, and_true, true_and, and_false, false_and, or_self, and_self, if_true, if_false, ite_true, ite_false, eq_self]; exact hK _) | (simp (disch := omega) only [tput_eq, tput2, tput_ne, upd_eq, upd_ne, ne_eq, va_upeq, va_upne, va_up2, not_true_eq_false, not_false_eq_true, or_false, false_or, or_true, true_or, and_true, true_and, and_false, false_and, or_self, and_self, if_true, if_false, ite_true, ite_false, eq_self] at hK; exact hK _)
        · refine wp_if_eq_t (tgt := 45) d_Rf_beside_17 (by decide) (by decide) ?_
          refine wp_ldc2 (q := 48) d_Rf_beside_45 rfl kl_Rf_275 ?_
          refine wp_lret d_Rf_beside_48 rfl (Nat.le_refl _) (Nat.le_refl _) ?_
          simp only [sp_beside, inn, inb, inm, btw, inn_t (show 2 ≤ 2 by decide), tnl (show 2 ≤ 2 by decide), (show ¬ nI 2 = nI 0 by decide), (show ¬ nI 2 = nI 1 by decide), hna, hnb2, tnl hn2, hr1, not_true_eq_false, not_false_eq_true, or_false, false_or, or_true, true_or, and_true, true_and, and_false, false_and, or_self, and_self, if_true, if_false, ite_true, ite_false, eq_self] at hK
          first | exact hK _ | (simp (disch := omega) only [tput_eq, tput2, tput_ne, upd_eq, upd_ne, ne_eq, va_upeq, va_upne, va_up2, not_true_eq_false, not_false_eq_true, or_false, false_or, or_true, true_or, and_true, true_and, and_false, false_and, or_self, and_self, if_true, if_false, ite_true, ite_false, eq_self] at hK ⊢; exact hK _) | (simp (disch := omega) only [tput_eq, tput2, tput_ne, upd_eq, upd_ne, ne_eq, va_upeq, va_upne, va_up2, not_true_eq_false, not_false_eq_true, or_false, false_or, or_true, true_or, and_true, true_and, and_false, false_and, or_self, and_self, if_true, if_false, ite_true, ite_false, eq_self]; exact hK _) | (simp (disch := omega) only [tput_eq, tput2, tput_ne, upd_eq, upd_ne, ne_eq, va_upeq, va_upne, va_up2, not_true_eq_false, not_false_eq_true, or_false, false_or, or_true, true_or, and_true, true_and, and_false, false_and, or_self, and_self, if_true, if_false, ite_true, ite_false, eq_self] at hK; exact hK _)
      · refine wp_if_eq_t (tgt := 45) d_Rf_beside_8 (by decide) (by decide) ?_
        refine wp_ldc2 (q := 48) d_Rf_beside_45 rfl kl_Rf_275 ?_
        refine wp_lret d_Rf_beside_48 rfl (Nat.le_refl _) (Nat.le_refl _) ?_
        simp only [sp_beside, inn, inb, inm, btw, inn_t (show 2 ≤ 2 by decide), tnl (show 2 ≤ 2 by decide), (show ¬ nI 2 = nI 0 by decide), (show ¬ nI 2 = nI 1 by decide), hn, not_true_eq_false, not_false_eq_true, or_false, false_or, or_true, true_or, and_true, true_and, and_false, false_and, or_self, and_self, if_true, if_false, ite_true, ite_false, eq_self] at hK
        first | exact hK _ | (simp (disch := omega) only [tput_eq, tput2, tput_ne, upd_eq, upd_ne, ne_eq, va_upeq, va_upne, va_up2, not_true_eq_false, not_false_eq_true, or_false, false_or, or_true, true_or, and_true, true_and, and_false, false_and, or_self, and_self, if_true, if_false, ite_true, ite_false, eq_self] at hK ⊢; exact hK _) | (simp (disch := omega) only [tput_eq, tput2, tput_ne, upd_eq, upd_ne, ne_eq, va_upeq, va_upne, va_up2, not_true_eq_false, not_false_eq_true, or_false, false_or, or_true, true_or, and_true, true_and, and_false, false_and, or_self, and_self, if_true, if_false, ite_true, ite_false, eq_self]; exact hK _) | (simp (disch := omega) only [tput_eq, tput2, tput_ne, upd_eq, upd_ne, ne_eq, va_upeq, va_upne, va_up2, not_true_eq_false, not_false_eq_true, or_false, false_or, or_true, true_or, and_true, true_and, and_false, false_and, or_self, and_self, if_true, if_false, ite_true, ite_false, eq_self] at hK; exact hK _)
  · skip
    refine wp_iload_n (q := 1) d_Rf_beside_0 rfl rfl ?_
    refine wp_iconst (q := 2) d_Rf_beside_1 rfl ic_1 ?_
    refine wp_sipush (q := 5) d_Rf_beside_2 rfl sp_240 ?_
    refine wp_cs3 (q := 8) lk_Rf_151 (ro _ _ _) d_Rf_beside_5 rfl (Nat.le_of_ble_eq_true rfl) (Nat.zero_le _) (Nat.zero_le _) ?_
    refine ok_Rf_in (fun hna hnb2 => ?_) (fun hn => ?_)
    · obtain ⟨n, hn1, hn2, rfl⟩ := nI_btw1 (by decide) hna hnb2
      refine wp_if_eq_f (q := 11) (tgt := 45) d_Rf_beside_8 (by decide) rfl (by decide) ?_
      refine wp_iload_n (q := 12) d_Rf_beside_11 rfl rfl ?_
      refine wp_iconst (q := 13) d_Rf_beside_12 rfl ic_0 ?_
      refine wp_iconst (q := 14) d_Rf_beside_13 rfl ic_1 ?_
      refine wp_cs3 (q := 17) lk_Rf_151 (ro _ _ _) d_Rf_beside_14 rfl (Nat.le_of_ble_eq_true rfl) (Nat.zero_le _) (Nat.zero_le _) ?_
      refine ok_Rf_in0 (b := 1) (by decide) (fun r1 hr1 e => ?_) (fun hr1 => ?_)
      · subst e
        refine wp_if_eq_f (q := 20) (tgt := 45) d_Rf_beside_17 (by decide) rfl (by decide) ?_
        refine wp_iload_n (q := 21) d_Rf_beside_20 rfl rfl ?_
        refine wp_iconst (q := 22) d_Rf_beside_21 rfl ic_0 ?_
        refine wp_iconst (q := 23) d_Rf_beside_22 rfl ic_2 ?_
        refine wp_cs3 (q := 26) lk_Rf_151 (ro _ _ _) d_Rf_beside_23 rfl (Nat.le_of_ble_eq_true rfl) (Nat.zero_le _) (Nat.zero_le _) ?_
        refine ok_Rf_in (fun ha hb => absurd ⟨ha, hb⟩ hn_sw) (fun hw1 => ?_)
        refine wp_if_eq_t (tgt := 45) d_Rf_beside_26 (by decide) (by decide) ?_
        refine wp_ldc2 (q := 48) d_Rf_beside_45 rfl kl_Rf_275 ?_
        refine wp_lret d_Rf_beside_48 rfl (Nat.le_refl _) (Nat.le_refl _) ?_
        simp only [sp_beside, inn, inb, inm, btw, hn_sw, hna, hnb2, tnl hn2, inn_t hr1, tnl hr1, not_true_eq_false, not_false_eq_true, or_false, false_or, or_true, true_or, and_true, true_and, and_false, false_and, or_self, and_self, if_true, if_false, ite_true, ite_false, eq_self] at hK
        first | exact hK _ | (simp (disch := omega) only [tput_eq, tput2, tput_ne, upd_eq, upd_ne, ne_eq, va_upeq, va_upne, va_up2, not_true_eq_false, not_false_eq_true, or_false, false_or, or_true, true_or, and_true, true_and, and_false, false_and, or_self, and_self, if_true, if_false, ite_true, ite_false, eq_self] at hK ⊢; exact hK _) | (simp (disch := omega) only [tput_eq, tput2, tput_ne, upd_eq, upd_ne, ne_eq, va_upeq, va_upne, va_up2, not_true_eq_false, not_false_eq_true, or_false, false_or, or_true, true_or, and_true, true_and, and_false, false_and, or_self, and_self, if_true, if_false, ite_true, ite_false, eq_self]; exact hK _) | (simp (disch := omega) only [tput_eq, tput2, tput_ne, upd_eq, upd_ne, ne_eq, va_upeq, va_upne, va_up2, not_true_eq_false, not_false_eq_true, or_false, false_or, or_true, true_or, and_true, true_and, and_false, false_and, or_self, and_self, if_true, if_false, ite_true, ite_false, eq_self] at hK; exact hK _)
      · refine wp_if_eq_t (tgt := 45) d_Rf_beside_17 (by decide) (by decide) ?_
        refine wp_ldc2 (q := 48) d_Rf_beside_45 rfl kl_Rf_275 ?_
        refine wp_lret d_Rf_beside_48 rfl (Nat.le_refl _) (Nat.le_refl _) ?_
        simp only [sp_beside, inn, inb, inm, btw, hn_sw, hna, hnb2, tnl hn2, hr1, not_true_eq_false, not_false_eq_true, or_false, false_or, or_true, true_or, and_true, true_and, and_false, false_and, or_self, and_self, if_true, if_false, ite_true, ite_false, eq_self] at hK
        first | exact hK _ | (simp (disch := omega) only [tput_eq, tput2, tput_ne, upd_eq, upd_ne, ne_eq, va_upeq, va_upne, va_up2, not_true_eq_false, not_false_eq_true, or_false, false_or, or_true, true_or, and_true, true_and, and_false, false_and, or_self, and_self, if_true, if_false, ite_true, ite_false, eq_self] at hK ⊢; exact hK _) | (simp (disch := omega) only [tput_eq, tput2, tput_ne, upd_eq, upd_ne, ne_eq, va_upeq, va_upne, va_up2, not_true_eq_false, not_false_eq_true, or_false, false_or, or_true, true_or, and_true, true_and, and_false, false_and, or_self, and_self, if_true, if_false, ite_true, ite_false, eq_self]; exact hK _) | (simp (disch := omega) only [tput_eq, tput2, tput_ne, upd_eq, upd_ne, ne_eq, va_upeq, va_upne, va_up2, not_true_eq_false, not_false_eq_true, or_false, false_or, or_true, true_or, and_true, true_and, and_false, false_and, or_self, and_self, if_true, if_false, ite_true, ite_false, eq_self] at hK; exact hK _)
    · refine wp_if_eq_t (tgt := 45) d_Rf_beside_8 (by decide) (by decide) ?_
      refine wp_ldc2 (q := 48) d_Rf_beside_45 rfl kl_Rf_275 ?_
      refine wp_lret d_Rf_beside_48 rfl (Nat.le_refl _) (Nat.le_refl _) ?_
      simp only [sp_beside, inn, inb, inm, btw, hn_sw, hn, not_true_eq_false, not_false_eq_true, or_false, false_or, or_true, true_or, and_true, true_and, and_false, false_and, or_self, and_self, if_true, if_false, ite_true, ite_false, eq_self] at hK
      first | exact hK _ | (simp (disch := omega) only [tput_eq, tput2, tput_ne, upd_eq, upd_ne, ne_eq, va_upeq, va_upne, va_up2, not_true_eq_false, not_false_eq_true, or_false, false_or, or_true, true_or, and_true, true_and, and_false, false_and, or_self, and_self, if_true, if_false, ite_true, ite_false, eq_self] at hK ⊢; exact hK _) | (simp (disch := omega) only [tput_eq, tput2, tput_ne, upd_eq, upd_ne, ne_eq, va_upeq, va_upne, va_up2, not_true_eq_false, not_false_eq_true, or_false, false_or, or_true, true_or, and_true, true_and, and_false, false_and, or_self, and_self, if_true, if_false, ite_true, ite_false, eq_self]; exact hK _) | (simp (disch := omega) only [tput_eq, tput2, tput_ne, upd_eq, upd_ne, ne_eq, va_upeq, va_upne, va_up2, not_true_eq_false, not_false_eq_true, or_false, false_or, or_true, true_or, and_true, true_and, and_false, false_and, or_self, and_self, if_true, if_false, ite_true, ite_false, eq_self] at hK; exact hK _)
