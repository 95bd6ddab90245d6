def LX (c c2 : T2) (li : Nat) : Prop := (∀ k, ¬ (23 ≤ k ∧ k ≤ 28) → c2 k = c k) ∧ (∀ k, 23 ≤ k → k ≤ 25 → ∀ i, i ≠ li → c2 k i = c k i) ∧ ∀ k, 26 ≤ k → k ≤ 28 → ∀ i, (i < 3 * li ∨ 3 * li + 3 ≤ i) → c2 k i = c k i
theorem LX.rf (c : T2) (li : Nat) : LX c c li := ⟨fun _ _ => rfl, fun _ _ _ _ _ => rfl, fun _ _ _ _ _ => rfl⟩
theorem LX.tr {a b c : T2} {li : Nat} (h : LX a b li) (g : LX b c li) : LX a c li := ⟨fun k hk => (g.1 k hk).trans (h.1 k hk), fun k h1 h2 i hi => (g.2.1 k h1 h2 i hi).trans (h.2.1 k h1 h2 i hi), fun k h1 h2 i hi => (g.2.2 k h1 h2 i hi).trans (h.2.2 k h1 h2 i hi)⟩
theorem LX.p1 {c c2 : T2} {li : Nat} (h : LX c c2 li) {k : Nat} (h1 : 23 ≤ k) (h2 : k ≤ 25) (v : Int32) : LX c (tput c2 k (upd (c2 k) li v)) li := by
  refine ⟨fun j hj => ?_, fun j g1 g2 i hi => ?_, fun j g1 g2 i hi => ?_⟩
  · rw [tput_ne _ _ (by omega)]; exact h.1 j hj
  · by_cases e : j = k
    · subst e; rw [tput_eq, upd_ne _ _ hi]; exact h.2.1 j g1 g2 i hi
    · rw [tput_ne _ _ e]; exact h.2.1 j g1 g2 i hi
  · rw [tput_ne _ _ (by omega)]; exact h.2.2 j g1 g2 i hi
theorem LX.p2 {c c2 : T2} {li : Nat} (h : LX c c2 li) {k : Nat} (h1 : 26 ≤ k) (h2 : k ≤ 28) {q : Nat} (q1 : 3 * li ≤ q) (q2 : q < 3 * li + 3) (v : Int32) : LX c (tput c2 k (upd (c2 k) q v)) li := by
  refine ⟨fun j hj => ?_, fun j g1 g2 i hi => ?_, fun j g1 g2 i hi => ?_⟩
  · rw [tput_ne _ _ (by omega)]; exact h.1 j hj
  · rw [tput_ne _ _ (by omega)]; exact h.2.1 j g1 g2 i hi
  · by_cases e : j = k
    · subst e; rw [tput_eq, upd_ne _ _ (by omega)]; exact h.2.2 j g1 g2 i hi
    · rw [tput_ne _ _ e]; exact h.2.2 j g1 g2 i hi
theorem byB_eq {c c2 : T2} {tp : Nat} (h : c2 21 = c 21) : byB c2 tp = byB c tp := by funext i; unfold byB; rw [h]
theorem byB_put {c : T2} {k tp : Nat} {f : FN} (h : 21 ≠ k) : byB (tput c k f) tp = byB c tp := byB_eq (tput_ne _ _ h)
def LT (c : T2) (li : Nat) (v : LR) : Prop := c 23 li = v.1 ∧ c 24 li = v.2.1 ∧ c 25 li = nI v.2.2.1 ∧ v.2.2.1 ≤ 3 ∧ ∀ t, t < v.2.2.1 → c 26 (3 * li + t) = v.2.2.2.1 t ∧ c 27 (3 * li + t) = v.2.2.2.2.1 t ∧ c 28 (3 * li + t) = v.2.2.2.2.2 t ∧ isN (v.2.2.2.1 t) 8
theorem LT.keep {c c2 : T2} {li lj : Nat} {v : LR} (h : LT c lj v) (hx : LX c c2 li) (hne : lj ≠ li) : LT c2 lj v := by
  refine ⟨(hx.2.1 23 (by decide) (by decide) lj hne).trans h.1, (hx.2.1 24 (by decide) (by decide) lj hne).trans h.2.1, (hx.2.1 25 (by decide) (by decide) lj hne).trans h.2.2.1, h.2.2.2.1, fun t ht => ?_⟩
  have h3 := h.2.2.2.1
  obtain ⟨a, b, d, e⟩ := h.2.2.2.2 t ht
  have ho : 3 * lj + t < 3 * li ∨ 3 * li + 3 ≤ 3 * lj + t := by omega
  exact ⟨(hx.2.2 26 (by decide) (by decide) _ ho).trans a, (hx.2.2 27 (by decide) (by decide) _ ho).trans b, (hx.2.2 28 (by decide) (by decide) _ ho).trans d, e⟩
theorem isN_m1 {x : Int32} {b : Nat} (h : isN x b) (hb : b ≤ 1000000) : ¬ x = -1 := by
  intro e
  obtain ⟨a, ha, ea⟩ := h.ex
  have := congrArg Int32.toInt (ea.symm.trans e)
  rw [nI_toInt (by omega)] at this
  have e1 : (-1 : Int32).toInt = -1 := by decide
  omega
theorem d_Rf_test_0 : decode M_Rf_test.2.1 0 = .ok (.iconst 3, 1) := by decide +kernel
theorem d_Rf_test_1 : decode M_Rf_test.2.1 1 = .ok (.iload_n 1, 1) := by decide +kernel
theorem d_Rf_test_2 : decode M_Rf_test.2.1 2 = .ok (.imul, 1) := by decide +kernel
theorem d_Rf_test_3 : decode M_Rf_test.2.1 3 = .ok (.aload_n 0, 1) := by decide +kernel
theorem d_Rf_test_4 : decode M_Rf_test.2.1 4 = .ok (.getfield 89, 3) := by decide +kernel
theorem d_Rf_test_7 : decode M_Rf_test.2.1 7 = .ok (.iload_n 1, 1) := by decide +kernel
theorem d_Rf_test_8 : decode M_Rf_test.2.1 8 = .ok (.iaload, 1) := by decide +kernel
theorem d_Rf_test_9 : decode M_Rf_test.2.1 9 = .ok (.iadd, 1) := by decide +kernel
theorem d_Rf_test_10 : decode M_Rf_test.2.1 10 = .ok (.istore_n 2, 1) := by decide +kernel
theorem d_Rf_test_11 : decode M_Rf_test.2.1 11 = .ok (.aload_n 0, 1) := by decide +kernel
theorem d_Rf_test_12 : decode M_Rf_test.2.1 12 = .ok (.getfield 92, 3) := by decide +kernel
theorem d_Rf_test_15 : decode M_Rf_test.2.1 15 = .ok (.iload_n 2, 1) := by decide +kernel
theorem d_Rf_test_16 : decode M_Rf_test.2.1 16 = .ok (.aload_n 0, 1) := by decide +kernel
theorem d_Rf_test_17 : decode M_Rf_test.2.1 17 = .ok (.iconst 3, 1) := by decide +kernel
theorem d_Rf_test_18 : decode M_Rf_test.2.1 18 = .ok (.bipush 11, 2) := by decide +kernel
theorem d_Rf_test_20 : decode M_Rf_test.2.1 20 = .ok (.invokevirtual 202, 3) := by decide +kernel
theorem d_Rf_test_23 : decode M_Rf_test.2.1 23 = .ok (.iastore, 1) := by decide +kernel
theorem d_Rf_test_24 : decode M_Rf_test.2.1 24 = .ok (.aload_n 0, 1) := by decide +kernel
theorem d_Rf_test_25 : decode M_Rf_test.2.1 25 = .ok (.getfield 92, 3) := by decide +kernel
theorem d_Rf_test_28 : decode M_Rf_test.2.1 28 = .ok (.iload_n 2, 1) := by decide +kernel
theorem d_Rf_test_29 : decode M_Rf_test.2.1 29 = .ok (.iaload, 1) := by decide +kernel
theorem d_Rf_test_30 : decode M_Rf_test.2.1 30 = .ok (.iconst (-1), 1) := by decide +kernel
theorem d_Rf_test_31 : decode M_Rf_test.2.1 31 = .ok (.if_icmp .ne 5, 3) := by decide +kernel
theorem d_Rf_test_34 : decode M_Rf_test.2.1 34 = .ok (.iconst 0, 1) := by decide +kernel
theorem d_Rf_test_35 : decode M_Rf_test.2.1 35 = .ok (.ireturn, 1) := by decide +kernel
theorem d_Rf_test_36 : decode M_Rf_test.2.1 36 = .ok (.aload_n 0, 1) := by decide +kernel
theorem d_Rf_test_37 : decode M_Rf_test.2.1 37 = .ok (.getfield 95, 3) := by decide +kernel
theorem d_Rf_test_40 : decode M_Rf_test.2.1 40 = .ok (.iload_n 2, 1) := by decide +kernel
theorem d_Rf_test_41 : decode M_Rf_test.2.1 41 = .ok (.aload_n 0, 1) := by decide +kernel
theorem d_Rf_test_42 : decode M_Rf_test.2.1 42 = .ok (.invokevirtual 199, 3) := by decide +kernel
theorem d_Rf_test_45 : decode M_Rf_test.2.1 45 = .ok (.iastore, 1) := by decide +kernel
theorem d_Rf_test_46 : decode M_Rf_test.2.1 46 = .ok (.aload_n 0, 1) := by decide +kernel
theorem d_Rf_test_47 : decode M_Rf_test.2.1 47 = .ok (.getfield 95, 3) := by decide +kernel
theorem d_Rf_test_50 : decode M_Rf_test.2.1 50 = .ok (.iload_n 2, 1) := by decide +kernel
theorem d_Rf_test_51 : decode M_Rf_test.2.1 51 = .ok (.iaload, 1) := by decide +kernel
theorem d_Rf_test_52 : decode M_Rf_test.2.1 52 = .ok (.bipush 60, 2) := by decide +kernel
theorem d_Rf_test_54 : decode M_Rf_test.2.1 54 = .ok (.if_icmp .eq 27, 3) := by decide +kernel
theorem d_Rf_test_57 : decode M_Rf_test.2.1 57 = .ok (.aload_n 0, 1) := by decide +kernel
theorem d_Rf_test_58 : decode M_Rf_test.2.1 58 = .ok (.getfield 95, 3) := by decide +kernel
theorem d_Rf_test_61 : decode M_Rf_test.2.1 61 = .ok (.iload_n 2, 1) := by decide +kernel
theorem d_Rf_test_62 : decode M_Rf_test.2.1 62 = .ok (.iaload, 1) := by decide +kernel
theorem d_Rf_test_63 : decode M_Rf_test.2.1 63 = .ok (.bipush 62, 2) := by decide +kernel
theorem d_Rf_test_65 : decode M_Rf_test.2.1 65 = .ok (.if_icmp .eq 16, 3) := by decide +kernel
theorem d_Rf_test_68 : decode M_Rf_test.2.1 68 = .ok (.aload_n 0, 1) := by decide +kernel
theorem d_Rf_test_69 : decode M_Rf_test.2.1 69 = .ok (.getfield 95, 3) := by decide +kernel
theorem d_Rf_test_72 : decode M_Rf_test.2.1 72 = .ok (.iload_n 2, 1) := by decide +kernel
theorem d_Rf_test_73 : decode M_Rf_test.2.1 73 = .ok (.iaload, 1) := by decide +kernel
theorem d_Rf_test_74 : decode M_Rf_test.2.1 74 = .ok (.bipush 61, 2) := by decide +kernel
theorem d_Rf_test_76 : decode M_Rf_test.2.1 76 = .ok (.if_icmp .eq 5, 3) := by decide +kernel
theorem d_Rf_test_79 : decode M_Rf_test.2.1 79 = .ok (.iconst 0, 1) := by decide +kernel
theorem d_Rf_test_80 : decode M_Rf_test.2.1 80 = .ok (.ireturn, 1) := by decide +kernel
theorem d_Rf_test_81 : decode M_Rf_test.2.1 81 = .ok (.aload_n 0, 1) := by decide +kernel
theorem d_Rf_test_82 : decode M_Rf_test.2.1 82 = .ok (.dup, 1) := by decide +kernel
theorem d_Rf_test_83 : decode M_Rf_test.2.1 83 = .ok (.getfield 196, 3) := by decide +kernel
theorem d_Rf_test_86 : decode M_Rf_test.2.1 86 = .ok (.iconst 1, 1) := by decide +kernel
theorem d_Rf_test_87 : decode M_Rf_test.2.1 87 = .ok (.iadd, 1) := by decide +kernel
theorem d_Rf_test_88 : decode M_Rf_test.2.1 88 = .ok (.putfield 196, 3) := by decide +kernel
theorem d_Rf_test_91 : decode M_Rf_test.2.1 91 = .ok (.aload_n 0, 1) := by decide +kernel
theorem d_Rf_test_92 : decode M_Rf_test.2.1 92 = .ok (.getfield 98, 3) := by decide +kernel
theorem d_Rf_test_95 : decode M_Rf_test.2.1 95 = .ok (.iload_n 2, 1) := by decide +kernel
theorem d_Rf_test_96 : decode M_Rf_test.2.1 96 = .ok (.aload_n 0, 1) := by decide +kernel
theorem d_Rf_test_97 : decode M_Rf_test.2.1 97 = .ok (.invokevirtual 205, 3) := by decide +kernel
theorem d_Rf_test_100 : decode M_Rf_test.2.1 100 = .ok (.iastore, 1) := by decide +kernel
theorem d_Rf_test_101 : decode M_Rf_test.2.1 101 = .ok (.aload_n 0, 1) := by decide +kernel
theorem d_Rf_test_102 : decode M_Rf_test.2.1 102 = .ok (.getfield 89, 3) := by decide +kernel
theorem d_Rf_test_105 : decode M_Rf_test.2.1 105 = .ok (.iload_n 1, 1) := by decide +kernel
theorem d_Rf_test_106 : decode M_Rf_test.2.1 106 = .ok (.dup2, 1) := by decide +kernel
theorem d_Rf_test_107 : decode M_Rf_test.2.1 107 = .ok (.iaload, 1) := by decide +kernel
theorem d_Rf_test_108 : decode M_Rf_test.2.1 108 = .ok (.iconst 1, 1) := by decide +kernel
theorem d_Rf_test_109 : decode M_Rf_test.2.1 109 = .ok (.iadd, 1) := by decide +kernel
theorem d_Rf_test_110 : decode M_Rf_test.2.1 110 = .ok (.iastore, 1) := by decide +kernel
theorem d_Rf_test_111 : decode M_Rf_test.2.1 111 = .ok (.aload_n 0, 1) := by decide +kernel
theorem d_Rf_test_112 : decode M_Rf_test.2.1 112 = .ok (.getfield 98, 3) := by decide +kernel
theorem d_Rf_test_115 : decode M_Rf_test.2.1 115 = .ok (.iload_n 2, 1) := by decide +kernel
theorem d_Rf_test_116 : decode M_Rf_test.2.1 116 = .ok (.iaload, 1) := by decide +kernel
theorem d_Rf_test_117 : decode M_Rf_test.2.1 117 = .ok (.iconst (-1), 1) := by decide +kernel
theorem d_Rf_test_118 : decode M_Rf_test.2.1 118 = .ok (.if_icmp .eq 7, 3) := by decide +kernel
theorem d_Rf_test_121 : decode M_Rf_test.2.1 121 = .ok (.iconst 1, 1) := by decide +kernel
theorem d_Rf_test_122 : decode M_Rf_test.2.1 122 = .ok (.goto 4, 3) := by decide +kernel
theorem d_Rf_test_125 : decode M_Rf_test.2.1 125 = .ok (.iconst 0, 1) := by decide +kernel
theorem d_Rf_test_126 : decode M_Rf_test.2.1 126 = .ok (.ireturn, 1) := by decide +kernel
set_option maxHeartbeats 4000000 in
set_option maxRecDepth 100000 in
theorem ok_Rf_test {D : xD} {N : Nat} {l : Launch} {d : Nat} {c z : T2} {P Q : Nat → Int32} {rest : List va_E} {K : Option Value → List va_E → Prop} {tp : Nat} (htp : c 32 8 = nI tp) (h160 : tp ≤ 160) {li t p : Nat} (hli : li < 48) (ht : t < 3) (h25 : c 25 li = nI t) (hz : z 5 0 = nI p) (hp : p ≤ tp) (h1 : ∀ v q, tst (byB c tp) p = (some v, q) → ∀ c2, LX c c2 li → c2 25 li = nI (t + 1) → c2 23 li = c 23 li → c2 24 li = c 24 li → (∀ j, j < t → c2 26 (3 * li + j) = c 26 (3 * li + j) ∧ c2 27 (3 * li + j) = c 27 (3 * li + j) ∧ c2 28 (3 * li + j) = c 28 (3 * li + j)) → c2 26 (3 * li + t) = v.1 → c2 27 (3 * li + t) = v.2.1 → c2 28 (3 * li + t) = v.2.2 → K (some (.int (nI 1))) (encR D N c2 (zp z q) P Q ++ rest)) (h0 : ∀ q, tst (byB c tp) p = (none, q) → ∀ c2, LX c c2 li → K (some (.int (nI 0))) (encR D N c2 (zp z q) P Q ++ rest)) : Ok D N l (d + 2) M_Rf_test [.ref (N + 0), .int (nI li)] (encR D N c z P Q ++ rest) 0 0 K := by
  have hw2 : (wdF (byB c tp) p).2 ≤ tp := pwW_tp byB_out factL 0 0 nom1F hp hp
  have tail : ¬ (wdF (byB c tp) p).1 = -1 → ((byB c tp) (wdF (byB c tp) p).2 = nI 60 ∨ (byB c tp) (wdF (byB c tp) p).2 = nI 62 ∨ (byB c tp) (wdF (byB c tp) p).2 = nI 61) → Wp D N l (EI M_Rf_test) M_Rf_test (Rm (d + 2) 0 0) (Qm D N K 0 0) 0 0 81 [(2, .int (nI (3 * li + t))), (0, .ref (N + 0)), (1, .int (nI li))] [] (encR D N (tput (tput c 26 (upd (c 26) (3 * li + t) (wdF (byB c tp) p).1)) 27 (upd ((tput c 26 (upd (c 26) (3 * li + t) (wdF (byB c tp) p).1)) 27) (3 * li + t) ((byB c tp) (wdF (byB c tp) p).2))) (zp z (wdF (byB c tp) p).2) P Q ++ rest) := by
    intro hne hs
    have hw1 : (wdF (byB c tp) p).2 + 1 ≤ tp := by
      have : ¬ tp ≤ (wdF (byB c tp) p).2 := fun q => by rw [byB_out _ q] at hs; exact absurd hs (by decide)
      omega
    have ets_n : (spN (byB c tp) ((wdF (byB c tp) p).2 + 1)).1 = -1 → tst (byB c tp) p = (none, (spN (byB c tp) ((wdF (byB c tp) p).2 + 1)).2) := fun e => by
      unfold tst
      rw [if_neg hne, if_neg (fun g => g hs), if_pos e]
    have ets_y : ¬ (spN (byB c tp) ((wdF (byB c tp) p).2 + 1)).1 = -1 → tst (byB c tp) p = (some ((wdF (byB c tp) p).1, (byB c tp) (wdF (byB c tp) p).2, (spN (byB c tp) ((wdF (byB c tp) p).2 + 1)).1), (spN (byB c tp) ((wdF (byB c tp) p).2 + 1)).2) := fun e => by
      unfold tst
      rw [if_neg hne, if_neg (fun g => g hs), if_neg e]
    refine wp_aload_n (q := 82) d_Rf_test_81 rfl rfl ?_
    refine wp_dup (q := 83) d_Rf_test_82 rfl rfl ?_
    refine wp_get (q := 86) fl_Rf_196 d_Rf_test_83 rfl rfl rfl ?_
    rw [zp_at]
    refine wp_iconst (q := 87) d_Rf_test_86 rfl ic_1 ?_
    first | refine wp_iaddN (q := 88) d_Rf_test_87 rfl ?_ | refine wp_iadd (q := 88) d_Rf_test_87 rfl ?_
    refine wp_put (q := 91) fl_Rf_196 d_Rf_test_88 rfl rfl (Nat.le_of_ble_eq_true rfl) rfl rfl (fr_at) ?_
    rw [show ∀ (z2 : T2) (q : Nat), tput z2 5 (upd (z2 5) 0 (nI q)) = zp z2 q from fun _ _ => rfl, zp_zp]
    refine wp_aload_n (q := 92) d_Rf_test_91 rfl rfl ?_
    refine wp_get (q := 95) fl_Rf_98 d_Rf_test_92 rfl rfl rfl ?_
    refine wp_iload_n (q := 96) d_Rf_test_95 rfl rfl ?_
    refine wp_aload_n (q := 97) d_Rf_test_96 rfl rfl ?_
    refine wp_cv0 (q := 100) lk_Rf_205 (ro _ _ _) d_Rf_test_97 rfl (Nat.le_of_ble_eq_true rfl) (rfl) rfl (Nat.zero_le _) (Nat.zero_le _) ?_
    refine ok_Rf_number htp h160 (zp_at _ _) hw1 ?_
    rw [zp_zp, byB_put (by decide), byB_put (by decide)]
    refine wp_iast (q := 101) d_Rf_test_100 rfl (rfl) (by omega) (by decide) (fr_30) ?_
    refine wp_aload_n (q := 102) d_Rf_test_101 rfl rfl ?_
    refine wp_get (q := 105) fl_Rf_89 d_Rf_test_102 rfl rfl rfl ?_
    refine wp_iload_n (q := 106) d_Rf_test_105 rfl rfl ?_
    refine wp_dup2 (q := 107) d_Rf_test_106 rfl rfl rfl ?_
    refine wp_iald (q := 108) d_Rf_test_107 rfl (rfl) (by omega) (by decide) ?_
    rw [tput_ne _ _ (show 25 ≠ 28 by decide), tput_ne _ _ (show 25 ≠ 27 by decide), tput_ne _ _ (show 25 ≠ 26 by decide), h25]
    refine wp_iconst (q := 109) d_Rf_test_108 rfl ic_1 ?_
    first | refine wp_iaddN (q := 110) d_Rf_test_109 rfl ?_ | refine wp_iadd (q := 110) d_Rf_test_109 rfl ?_
    refine wp_iast (q := 111) d_Rf_test_110 rfl (rfl) (by omega) (by decide) (fr_27) ?_
    refine wp_aload_n (q := 112) d_Rf_test_111 rfl rfl ?_
    refine wp_get (q := 115) fl_Rf_98 d_Rf_test_112 rfl rfl rfl ?_
    refine wp_iload_n (q := 116) d_Rf_test_115 rfl rfl ?_
    refine wp_iald (q := 117) d_Rf_test_116 rfl (rfl) (by omega) (by decide) ?_
    rw [tput_ne _ _ (show 28 ≠ 25 by decide), tput_eq, upd_eq]
    refine wp_iconst (q := 118) d_Rf_test_117 rfl ic_m1 ?_
    refine wp_icmp_eq (q := 121) (tgt := 125) d_Rf_test_118 (by decide) rfl (fun hc_118 => ?_) (fun hc_118 => ?_)
    · refine wp_iconst (q := 126) d_Rf_test_125 rfl ic_0 ?_
      refine wp_zret d_Rf_test_126 rfl (rfl) (Nat.le_refl _) (Nat.le_refl _) ?_
      refine h0 _ (ets_n hc_118) _ (((((LX.rf c li).p2 (by decide) (by decide) (by omega) (by omega) _).p2 (by decide) (by decide) (by omega) (by omega) _).p2 (by decide) (by decide) (by omega) (by omega) _).p1 (by decide) (by decide) _)
    · refine wp_iconst (q := 122) d_Rf_test_121 rfl ic_1 ?_
      refine wp_goto (tgt := 126) d_Rf_test_122 (by decide) ?_
      refine wp_zret d_Rf_test_126 rfl (rfl) (Nat.le_refl _) (Nat.le_refl _) ?_
      refine h1 _ _ (ets_y hc_118) _ (((((LX.rf c li).p2 (by decide) (by decide) (by omega) (by omega) _).p2 (by decide) (by decide) (by omega) (by omega) _).p2 (by decide) (by decide) (by omega) (by omega) _).p1 (by decide) (by decide) _) ?_ ?_ ?_ (fun j hj => ?_) ?_ ?_ ?_
      · rw [tput_eq, upd_eq]
      · simp (disch := decide) only [tput_ne, ne_eq]
      · simp (disch := decide) only [tput_ne, ne_eq]
      · refine ⟨?_, ?_, ?_⟩ <;> simp (disch := omega) only [tput_ne, tput_eq, upd_ne, ne_eq]
      · simp (disch := decide) only [tput_ne, tput_eq, upd_eq, ne_eq]
      · simp (disch := decide) only [tput_ne, tput_eq, upd_eq, ne_eq]
      · simp (disch := decide) only [tput_ne, tput_eq, upd_eq, ne_eq]
  refine ok_of (L := [(0, _), (1, _)]) (by decide) (Nat.le_of_ble_eq_true rfl) rfl ?_
  refine wp_iconst (q := 1) d_Rf_test_0 rfl ic_3 ?_
  refine wp_iload_n (q := 2) d_Rf_test_1 rfl rfl ?_
  first | refine wp_imulN (q := 3) d_Rf_test_2 rfl ?_ | refine wp_imul (q := 3) d_Rf_test_2 rfl ?_
  refine wp_aload_n (q := 4) d_Rf_test_3 rfl rfl ?_
  refine wp_get (q := 7) fl_Rf_89 d_Rf_test_4 rfl rfl rfl ?_
  refine wp_iload_n (q := 8) d_Rf_test_7 rfl rfl ?_
  refine wp_iald (q := 9) d_Rf_test_8 rfl (rfl) (by omega) (by decide) ?_
  rw [h25]
  first | refine wp_iaddN (q := 10) d_Rf_test_9 rfl ?_ | refine wp_iadd (q := 10) d_Rf_test_9 rfl ?_
  refine wp_istore_n (q := 11) (L2 := [(2, _), (0, _), (1, _)]) d_Rf_test_10 rfl (by decide) rfl ?_
  refine wp_aload_n (q := 12) d_Rf_test_11 rfl rfl ?_
  refine wp_get (q := 15) fl_Rf_92 d_Rf_test_12 rfl rfl rfl ?_
  refine wp_iload_n (q := 16) d_Rf_test_15 rfl rfl ?_
  refine wp_aload_n (q := 17) d_Rf_test_16 rfl rfl ?_
  refine wp_iconst (q := 18) d_Rf_test_17 rfl ic_3 ?_
  refine wp_bipush (q := 20) d_Rf_test_18 rfl bp_11 ?_
  refine wp_cv2 (q := 23) lk_Rf_202 (ro _ _ _) d_Rf_test_20 rfl (Nat.le_of_ble_eq_true rfl) (rfl) rfl (Nat.zero_le _) (Nat.zero_le _) ?_
  refine ok_Rf_wordOf_F htp h160 hp hz ?_
  refine wp_iast (q := 24) d_Rf_test_23 rfl (rfl) (by omega) (by decide) (fr_28) ?_
  refine wp_aload_n (q := 25) d_Rf_test_24 rfl rfl ?_
  refine wp_get (q := 28) fl_Rf_92 d_Rf_test_25 rfl rfl rfl ?_
  refine wp_iload_n (q := 29) d_Rf_test_28 rfl rfl ?_
  refine wp_iald (q := 30) d_Rf_test_29 rfl (rfl) (by omega) (by decide) ?_
  rw [tput_eq, upd_eq]
  refine wp_iconst (q := 31) d_Rf_test_30 rfl ic_m1 ?_
  refine wp_icmp_ne (q := 34) (tgt := 36) d_Rf_test_31 (by decide) rfl (fun hc_31 => ?_) (fun hc_31 => ?_)
  · refine wp_aload_n (q := 37) d_Rf_test_36 rfl rfl ?_
    refine wp_get (q := 40) fl_Rf_95 d_Rf_test_37 rfl rfl rfl ?_
    refine wp_iload_n (q := 41) d_Rf_test_40 rfl rfl ?_
    refine wp_aload_n (q := 42) d_Rf_test_41 rfl rfl ?_
    refine wp_cv0 (q := 45) lk_Rf_199 (ro _ _ _) d_Rf_test_42 rfl (Nat.le_of_ble_eq_true rfl) (rfl) rfl (Nat.zero_le _) (Nat.zero_le _) ?_
    refine ok_Rf_byteHere htp h160 (zp_at _ _) (by omega) ?_
    rw [byB_put (by decide)]
    refine wp_iast (q := 46) d_Rf_test_45 rfl (rfl) (by omega) (by decide) (fr_29) ?_
    refine wp_aload_n (q := 47) d_Rf_test_46 rfl rfl ?_
    refine wp_get (q := 50) fl_Rf_95 d_Rf_test_47 rfl rfl rfl ?_
    refine wp_iload_n (q := 51) d_Rf_test_50 rfl rfl ?_
    refine wp_iald (q := 52) d_Rf_test_51 rfl (rfl) (by omega) (by decide) ?_
    rw [tput_eq, upd_eq]
    refine wp_bipush (q := 54) d_Rf_test_52 rfl bp_60 ?_
    refine wp_icmp_eq (q := 57) (tgt := 81) d_Rf_test_54 (by decide) rfl (fun hc_54 => ?_) (fun hc_54 => ?_)
    · exact tail hc_31 (Or.inl hc_54)
    · refine wp_aload_n (q := 58) d_Rf_test_57 rfl rfl ?_
      refine wp_get (q := 61) fl_Rf_95 d_Rf_test_58 rfl rfl rfl ?_
      refine wp_iload_n (q := 62) d_Rf_test_61 rfl rfl ?_
      refine wp_iald (q := 63) d_Rf_test_62 rfl (rfl) (by omega) (by decide) ?_
      rw [tput_eq, upd_eq]
      refine wp_bipush (q := 65) d_Rf_test_63 rfl bp_62 ?_
      refine wp_icmp_eq (q := 68) (tgt := 81) d_Rf_test_65 (by decide) rfl (fun hc_65 => ?_) (fun hc_65 => ?_)
      · exact tail hc_31 (Or.inr (Or.inl hc_65))
      · refine wp_aload_n (q := 69) d_Rf_test_68 rfl rfl ?_
        refine wp_get (q := 72) fl_Rf_95 d_Rf_test_69 rfl rfl rfl ?_
        refine wp_iload_n (q := 73) d_Rf_test_72 rfl rfl ?_
        refine wp_iald (q := 74) d_Rf_test_73 rfl (rfl) (by omega) (by decide) ?_
        rw [tput_eq, upd_eq]
        refine wp_bipush (q := 76) d_Rf_test_74 rfl bp_61 ?_
        refine wp_icmp_eq (q := 79) (tgt := 81) d_Rf_test_76 (by decide) rfl (fun hc_76 => ?_) (fun hc_76 => ?_)
        · exact tail hc_31 (Or.inr (Or.inr hc_76))
        · refine wp_iconst (q := 80) d_Rf_test_79 rfl ic_0 ?_
          refine wp_zret d_Rf_test_80 rfl (rfl) (Nat.le_refl _) (Nat.le_refl _) ?_
          refine h0 _ ?_ _ (((LX.rf c li).p2 (by decide) (by decide) (by omega) (by omega) _).p2 (by decide) (by decide) (by omega) (by omega) _)
          unfold tst
          rw [if_neg hc_31, if_pos (fun g => g.elim hc_54 (fun g => g.elim hc_65 hc_76))]
  · refine wp_iconst (q := 35) d_Rf_test_34 rfl ic_0 ?_
    refine wp_zret d_Rf_test_35 rfl (rfl) (Nat.le_refl _) (Nat.le_refl _) ?_
    refine h0 _ ?_ _ ((LX.rf c li).p2 (by decide) (by decide) (by omega) (by omega) _)
    unfold tst
    rw [if_pos hc_31]
theorem d_Rf_line_0 : decode M_Rf_line.2.1 0 = .ok (.aload_n 0, 1) := by decide +kernel
theorem d_Rf_line_1 : decode M_Rf_line.2.1 1 = .ok (.getfield 89, 3) := by decide +kernel
theorem d_Rf_line_4 : decode M_Rf_line.2.1 4 = .ok (.iload_n 1, 1) := by decide +kernel
theorem d_Rf_line_5 : decode M_Rf_line.2.1 5 = .ok (.iconst 0, 1) := by decide +kernel
theorem d_Rf_line_6 : decode M_Rf_line.2.1 6 = .ok (.iastore, 1) := by decide +kernel
theorem d_Rf_line_7 : decode M_Rf_line.2.1 7 = .ok (.aload_n 0, 1) := by decide +kernel
theorem d_Rf_line_8 : decode M_Rf_line.2.1 8 = .ok (.getfield 83, 3) := by decide +kernel
theorem d_Rf_line_11 : decode M_Rf_line.2.1 11 = .ok (.iload_n 1, 1) := by decide +kernel
theorem d_Rf_line_12 : decode M_Rf_line.2.1 12 = .ok (.aload_n 0, 1) := by decide +kernel
theorem d_Rf_line_13 : decode M_Rf_line.2.1 13 = .ok (.iconst 0, 1) := by decide +kernel
theorem d_Rf_line_14 : decode M_Rf_line.2.1 14 = .ok (.iconst 3, 1) := by decide +kernel
theorem d_Rf_line_15 : decode M_Rf_line.2.1 15 = .ok (.invokevirtual 202, 3) := by decide +kernel
theorem d_Rf_line_18 : decode M_Rf_line.2.1 18 = .ok (.iastore, 1) := by decide +kernel
theorem d_Rf_line_19 : decode M_Rf_line.2.1 19 = .ok (.aload_n 0, 1) := by decide +kernel
theorem d_Rf_line_20 : decode M_Rf_line.2.1 20 = .ok (.getfield 83, 3) := by decide +kernel
theorem d_Rf_line_23 : decode M_Rf_line.2.1 23 = .ok (.iload_n 1, 1) := by decide +kernel
theorem d_Rf_line_24 : decode M_Rf_line.2.1 24 = .ok (.iaload, 1) := by decide +kernel
theorem d_Rf_line_25 : decode M_Rf_line.2.1 25 = .ok (.iconst (-1), 1) := by decide +kernel
theorem d_Rf_line_26 : decode M_Rf_line.2.1 26 = .ok (.if_icmp .eq 12, 3) := by decide +kernel
theorem d_Rf_line_29 : decode M_Rf_line.2.1 29 = .ok (.aload_n 0, 1) := by decide +kernel
theorem d_Rf_line_30 : decode M_Rf_line.2.1 30 = .ok (.invokevirtual 199, 3) := by decide +kernel
theorem d_Rf_line_33 : decode M_Rf_line.2.1 33 = .ok (.bipush 61, 2) := by decide +kernel
theorem d_Rf_line_35 : decode M_Rf_line.2.1 35 = .ok (.if_icmp .eq 5, 3) := by decide +kernel
theorem d_Rf_line_38 : decode M_Rf_line.2.1 38 = .ok (.iconst 0, 1) := by decide +kernel
theorem d_Rf_line_39 : decode M_Rf_line.2.1 39 = .ok (.ireturn, 1) := by decide +kernel
theorem d_Rf_line_40 : decode M_Rf_line.2.1 40 = .ok (.aload_n 0, 1) := by decide +kernel
theorem d_Rf_line_41 : decode M_Rf_line.2.1 41 = .ok (.dup, 1) := by decide +kernel
theorem d_Rf_line_42 : decode M_Rf_line.2.1 42 = .ok (.getfield 196, 3) := by decide +kernel
theorem d_Rf_line_45 : decode M_Rf_line.2.1 45 = .ok (.iconst 1, 1) := by decide +kernel
theorem d_Rf_line_46 : decode M_Rf_line.2.1 46 = .ok (.iadd, 1) := by decide +kernel
theorem d_Rf_line_47 : decode M_Rf_line.2.1 47 = .ok (.putfield 196, 3) := by decide +kernel
theorem d_Rf_line_50 : decode M_Rf_line.2.1 50 = .ok (.aload_n 0, 1) := by decide +kernel
theorem d_Rf_line_51 : decode M_Rf_line.2.1 51 = .ok (.getfield 86, 3) := by decide +kernel
theorem d_Rf_line_54 : decode M_Rf_line.2.1 54 = .ok (.iload_n 1, 1) := by decide +kernel
theorem d_Rf_line_55 : decode M_Rf_line.2.1 55 = .ok (.aload_n 0, 1) := by decide +kernel
theorem d_Rf_line_56 : decode M_Rf_line.2.1 56 = .ok (.invokevirtual 205, 3) := by decide +kernel
theorem d_Rf_line_59 : decode M_Rf_line.2.1 59 = .ok (.iastore, 1) := by decide +kernel
theorem d_Rf_line_60 : decode M_Rf_line.2.1 60 = .ok (.aload_n 0, 1) := by decide +kernel
theorem d_Rf_line_61 : decode M_Rf_line.2.1 61 = .ok (.getfield 86, 3) := by decide +kernel
theorem d_Rf_line_64 : decode M_Rf_line.2.1 64 = .ok (.iload_n 1, 1) := by decide +kernel
theorem d_Rf_line_65 : decode M_Rf_line.2.1 65 = .ok (.iaload, 1) := by decide +kernel
theorem d_Rf_line_66 : decode M_Rf_line.2.1 66 = .ok (.iconst (-1), 1) := by decide +kernel
theorem d_Rf_line_67 : decode M_Rf_line.2.1 67 = .ok (.if_icmp .ne 5, 3) := by decide +kernel
theorem d_Rf_line_70 : decode M_Rf_line.2.1 70 = .ok (.iconst 0, 1) := by decide +kernel
theorem d_Rf_line_71 : decode M_Rf_line.2.1 71 = .ok (.ireturn, 1) := by decide +kernel
theorem d_Rf_line_72 : decode M_Rf_line.2.1 72 = .ok (.aload_n 0, 1) := by decide +kernel
theorem d_Rf_line_73 : decode M_Rf_line.2.1 73 = .ok (.invokevirtual 199, 3) := by decide +kernel
theorem d_Rf_line_76 : decode M_Rf_line.2.1 76 = .ok (.bipush 63, 2) := by decide +kernel
theorem d_Rf_line_78 : decode M_Rf_line.2.1 78 = .ok (.if_icmp .ne 33, 3) := by decide +kernel
theorem d_Rf_line_81 : decode M_Rf_line.2.1 81 = .ok (.aload_n 0, 1) := by decide +kernel
theorem d_Rf_line_82 : decode M_Rf_line.2.1 82 = .ok (.getfield 89, 3) := by decide +kernel
theorem d_Rf_line_85 : decode M_Rf_line.2.1 85 = .ok (.iload_n 1, 1) := by decide +kernel
theorem d_Rf_line_86 : decode M_Rf_line.2.1 86 = .ok (.iaload, 1) := by decide +kernel
theorem d_Rf_line_87 : decode M_Rf_line.2.1 87 = .ok (.iconst 3, 1) := by decide +kernel
theorem d_Rf_line_88 : decode M_Rf_line.2.1 88 = .ok (.if_icmp .ge 23, 3) := by decide +kernel
theorem d_Rf_line_91 : decode M_Rf_line.2.1 91 = .ok (.aload_n 0, 1) := by decide +kernel
theorem d_Rf_line_92 : decode M_Rf_line.2.1 92 = .ok (.dup, 1) := by decide +kernel
theorem d_Rf_line_93 : decode M_Rf_line.2.1 93 = .ok (.getfield 196, 3) := by decide +kernel
theorem d_Rf_line_96 : decode M_Rf_line.2.1 96 = .ok (.iconst 1, 1) := by decide +kernel
theorem d_Rf_line_97 : decode M_Rf_line.2.1 97 = .ok (.iadd, 1) := by decide +kernel
theorem d_Rf_line_98 : decode M_Rf_line.2.1 98 = .ok (.putfield 196, 3) := by decide +kernel
theorem d_Rf_line_101 : decode M_Rf_line.2.1 101 = .ok (.aload_n 0, 1) := by decide +kernel
theorem d_Rf_line_102 : decode M_Rf_line.2.1 102 = .ok (.iload_n 1, 1) := by decide +kernel
theorem d_Rf_line_103 : decode M_Rf_line.2.1 103 = .ok (.invokevirtual 208, 3) := by decide +kernel
theorem d_Rf_line_106 : decode M_Rf_line.2.1 106 = .ok (.ifCond .ne (-34), 3) := by decide +kernel
theorem d_Rf_line_109 : decode M_Rf_line.2.1 109 = .ok (.iconst 0, 1) := by decide +kernel
theorem d_Rf_line_110 : decode M_Rf_line.2.1 110 = .ok (.ireturn, 1) := by decide +kernel
theorem d_Rf_line_111 : decode M_Rf_line.2.1 111 = .ok (.iconst 1, 1) := by decide +kernel
theorem d_Rf_line_112 : decode M_Rf_line.2.1 112 = .ok (.ireturn, 1) := by decide +kernel
set_option maxHeartbeats 4000000 in
set_option maxRecDepth 100000 in
theorem rl_tests {D : xD} {N : Nat} {l : Launch} {d : Nat} {c : T2} {P Q : Nat → Int32} {rest : List va_E} {K : Option Value → List va_E → Prop} {tp : Nat} (htp : c 32 8 = nI tp) (h160 : tp ≤ 160) {li : Nat} {key num : Int32} (hli : li < 48) : ∀ (f t p : Nat) (F S G : FN) (c2 z : T2), t + f = 3 → LX c c2 li → c2 23 li = key → c2 24 li = num → c2 25 li = nI t → (∀ j, j < t → c2 26 (3 * li + j) = F j ∧ c2 27 (3 * li + j) = S j ∧ c2 28 (3 * li + j) = G j ∧ isN (F j) 8) → z 5 0 = nI p → p ≤ tp → (∀ v q, (tsF (byB c tp) f t p F S G) = (some v, q) → ∀ c2, LX c c2 li → LT c2 li (key, num, v) → K (some (.int (nI 1))) (encR D N c2 (zp z q) P Q ++ rest)) → (∀ q, (tsF (byB c tp) f t p F S G) = (none, q) → ∀ c2, LX c c2 li → K (some (.int (nI 0))) (encR D N c2 (zp z q) P Q ++ rest)) → Wp D N l (EI M_Rf_line) M_Rf_line (Rm (d + 3) 0 0) (Qm D N K 0 0) 0 0 72 [(0, .ref (N + 0)), (1, .int (nI li))] [] (encR D N c2 z P Q ++ rest) := by
  intro f
  induction f with
  | zero =>
    intro t p F S G c2 z htf hX h23 h24 h25 hq hz hp h1 h0
    have hby : byB c2 tp = byB c tp := byB_eq (hX.1 21 (by decide))
    have htp2 : c2 32 8 = nI tp := by rw [hX.1 32 (by decide)]; exact htp
    refine wp_aload_n (q := 73) d_Rf_line_72 rfl rfl ?_
    refine wp_cv0 (q := 76) lk_Rf_199 (ro _ _ _) d_Rf_line_73 rfl (Nat.le_of_ble_eq_true rfl) (rfl) rfl (Nat.zero_le _) (Nat.zero_le _) ?_
    refine ok_Rf_byteHere htp2 h160 hz (by omega) ?_
    rw [hby]
    refine wp_bipush (q := 78) d_Rf_line_76 rfl bp_63 ?_
    refine wp_icmp_ne (q := 81) (tgt := 111) d_Rf_line_78 (by decide) rfl (fun hc_78 => ?_) (fun hc_78 => ?_)
    · refine wp_iconst (q := 112) d_Rf_line_111 rfl ic_1 ?_
      refine wp_zret d_Rf_line_112 rfl (rfl) (Nat.le_refl _) (Nat.le_refl _) ?_
      have h := h1 (t, F, S, G) p (by rw [tsF]) c2 hX ⟨h23, h24, h25, show t ≤ 3 by omega, hq⟩
      rw [zp_self hz] at h
      exact h
    · refine wp_aload_n (q := 82) d_Rf_line_81 rfl rfl ?_
      refine wp_get (q := 85) fl_Rf_89 d_Rf_line_82 rfl rfl rfl ?_
      refine wp_iload_n (q := 86) d_Rf_line_85 rfl rfl ?_
      refine wp_iald (q := 87) d_Rf_line_86 rfl (rfl) (by omega) (by decide) ?_
      rw [h25]
      refine wp_iconst (q := 88) d_Rf_line_87 rfl ic_3 ?_
      refine wp_icmp_ge_t (tgt := 111) d_Rf_line_88 (by decide) (nI_le (by omega) (by omega)) ?_
      refine wp_iconst (q := 112) d_Rf_line_111 rfl ic_1 ?_
      refine wp_zret d_Rf_line_112 rfl (rfl) (Nat.le_refl _) (Nat.le_refl _) ?_
      have h := h1 (t, F, S, G) p (by rw [tsF]) c2 hX ⟨h23, h24, h25, show t ≤ 3 by omega, hq⟩
      rw [zp_self hz] at h
      exact h
  | succ f ih =>
    intro t p F S G c2 z htf hX h23 h24 h25 hq hz hp h1 h0
    have hby : byB c2 tp = byB c tp := byB_eq (hX.1 21 (by decide))
    have htp2 : c2 32 8 = nI tp := by rw [hX.1 32 (by decide)]; exact htp
    by_cases hp1 : p + 1 ≤ tp
    · skip
      refine wp_aload_n (q := 73) d_Rf_line_72 rfl rfl ?_
      refine wp_cv0 (q := 76) lk_Rf_199 (ro _ _ _) d_Rf_line_73 rfl (Nat.le_of_ble_eq_true rfl) (rfl) rfl (Nat.zero_le _) (Nat.zero_le _) ?_
      refine ok_Rf_byteHere htp2 h160 hz (by omega) ?_
      rw [hby]
      refine wp_bipush (q := 78) d_Rf_line_76 rfl bp_63 ?_
      refine wp_icmp_ne (q := 81) (tgt := 111) d_Rf_line_78 (by decide) rfl (fun hc_78 => ?_) (fun hc_78 => ?_)
      · refine wp_iconst (q := 112) d_Rf_line_111 rfl ic_1 ?_
        refine wp_zret d_Rf_line_112 rfl (rfl) (Nat.le_refl _) (Nat.le_refl _) ?_
        have h := h1 (t, F, S, G) p (by rw [tsF, if_neg hc_78]) c2 hX ⟨h23, h24, h25, show t ≤ 3 by omega, hq⟩
        rw [zp_self hz] at h
        exact h
      · refine wp_aload_n (q := 82) d_Rf_line_81 rfl rfl ?_
        refine wp_get (q := 85) fl_Rf_89 d_Rf_line_82 rfl rfl rfl ?_
        refine wp_iload_n (q := 86) d_Rf_line_85 rfl rfl ?_
        refine wp_iald (q := 87) d_Rf_line_86 rfl (rfl) (by omega) (by decide) ?_
        rw [h25]
        refine wp_iconst (q := 88) d_Rf_line_87 rfl ic_3 ?_
        refine wp_icmp_ge_f (q := 91) (tgt := 111) d_Rf_line_88 (by decide) rfl (nI_ge (by omega) (by decide)) ?_
        refine wp_aload_n (q := 92) d_Rf_line_91 rfl rfl ?_
        refine wp_dup (q := 93) d_Rf_line_92 rfl rfl ?_
        refine wp_get (q := 96) fl_Rf_196 d_Rf_line_93 rfl rfl rfl ?_
        rw [hz]
        refine wp_iconst (q := 97) d_Rf_line_96 rfl ic_1 ?_
        first | refine wp_iaddN (q := 98) d_Rf_line_97 rfl ?_ | refine wp_iadd (q := 98) d_Rf_line_97 rfl ?_
        refine wp_put (q := 101) fl_Rf_196 d_Rf_line_98 rfl rfl (Nat.le_of_ble_eq_true rfl) rfl rfl (fr_at) ?_
        rw [show ∀ (z2 : T2) (q : Nat), tput z2 5 (upd (z2 5) 0 (nI q)) = zp z2 q from fun _ _ => rfl]
        refine wp_aload_n (q := 102) d_Rf_line_101 rfl rfl ?_
        refine wp_iload_n (q := 103) d_Rf_line_102 rfl rfl ?_
        refine wp_cv1 (q := 106) lk_Rf_208 (ro _ _ _) d_Rf_line_103 rfl (Nat.le_of_ble_eq_true rfl) (rfl) rfl (Nat.zero_le _) (Nat.zero_le _) ?_
        refine ok_Rf_test htp2 h160 hli (by omega) h25 (zp_at _ _) hp1 (fun v q ev c3 x3 g25 g23 g24 gj g6 g7 g8 => ?_) (fun q ev c3 x3 => ?_)
        · rw [hby] at ev
          refine wp_if_ne_t (tgt := 72) d_Rf_line_106 (by decide) (by decide) ?_
          rw [zp_zp]
          have hqt : q ≤ tp := by have := tst_tp (B := byB c tp) (byB_out) hp1; rw [ev] at this; exact this
          have hv8 : isN v.1 8 := by
            unfold tst at ev
            rcases wdF_v (B := byB c tp) (p := p + 1) with e | e
            · rw [if_pos e] at ev; cases ev
            · rw [if_neg (isN_m1 e (by decide))] at ev
              split at ev
              · cases ev
              · split at ev
                · cases ev
                · have := Option.some.inj (congrArg Prod.fst ev)
                  rw [← this]; exact e
          refine ih (t + 1) q (upd F t v.1) (upd S t v.2.1) (upd G t v.2.2) c3 (zp z q) (by omega) (hX.tr x3) (g23.trans h23) (g24.trans h24) g25 (fun j hj => ?_) (zp_at _ _) hqt (fun v2 q2 e2 c4 x4 l4 => ?_) (fun q2 e2 c4 x4 => ?_)
          · by_cases e : j = t
            · rw [e, upd_eq, upd_eq, upd_eq]; exact ⟨g6, g7, g8, hv8⟩
            · obtain ⟨a1, a2, a3, a4⟩ := hq j (by omega)
              obtain ⟨b1, b2, b3⟩ := gj j (by omega)
              rw [upd_ne _ _ e, upd_ne _ _ e, upd_ne _ _ e]
              exact ⟨b1.trans a1, b2.trans a2, b3.trans a3, a4⟩
          · rw [zp_zp]; exact h1 v2 q2 (by rw [tsF, if_pos hc_78, ev]; exact e2) c4 x4 l4
          · rw [zp_zp]; exact h0 q2 (by rw [tsF, if_pos hc_78, ev]; exact e2) c4 x4
        · rw [hby] at ev
          refine wp_if_ne_f (q := 109) (tgt := 72) d_Rf_line_106 (by decide) rfl (by decide) ?_
          refine wp_iconst (q := 110) d_Rf_line_109 rfl ic_0 ?_
          refine wp_zret d_Rf_line_110 rfl (rfl) (Nat.le_refl _) (Nat.le_refl _) ?_
          rw [zp_zp]
          exact h0 q (by rw [tsF, if_pos hc_78, ev]) c3 (hX.tr x3)
    · skip
      refine wp_aload_n (q := 73) d_Rf_line_72 rfl rfl ?_
      refine wp_cv0 (q := 76) lk_Rf_199 (ro _ _ _) d_Rf_line_73 rfl (Nat.le_of_ble_eq_true rfl) (rfl) rfl (Nat.zero_le _) (Nat.zero_le _) ?_
      refine ok_Rf_byteHere htp2 h160 hz (by omega) ?_
      rw [hby]
      refine wp_bipush (q := 78) d_Rf_line_76 rfl bp_63 ?_
      refine wp_icmp_ne_t (tgt := 111) d_Rf_line_78 (by decide) (fun e => by rw [byB_out p (by omega)] at e; exact absurd e (by decide)) ?_
      refine wp_iconst (q := 112) d_Rf_line_111 rfl ic_1 ?_
      refine wp_zret d_Rf_line_112 rfl (rfl) (Nat.le_refl _) (Nat.le_refl _) ?_
      have h := h1 (t, F, S, G) p (by rw [tsF, if_neg (fun e => by rw [byB_out p (by omega)] at e; exact absurd e (by decide))]) c2 hX ⟨h23, h24, h25, show t ≤ 3 by omega, hq⟩
      rw [zp_self hz] at h
      exact h
set_option maxHeartbeats 4000000 in
set_option maxRecDepth 100000 in
theorem ok_Rf_line {D : xD} {N : Nat} {l : Launch} {d : Nat} {c z : T2} {P Q : Nat → Int32} {rest : List va_E} {K : Option Value → List va_E → Prop} {tp : Nat} (htp : c 32 8 = nI tp) (h160 : tp ≤ 160) {li p : Nat} (hli : li < 48) (hz : z 5 0 = nI p) (hp : p ≤ tp) (h1 : ∀ v q, pln (byB c tp) p = (some v, q) → ∀ c2, LX c c2 li → LT c2 li v → K (some (.int (nI 1))) (encR D N c2 (zp z q) P Q ++ rest)) (h0 : ∀ q, pln (byB c tp) p = (none, q) → ∀ c2, LX c c2 li → K (some (.int (nI 0))) (encR D N c2 (zp z q) P Q ++ rest)) : Ok D N l (d + 3) M_Rf_line [.ref (N + 0), .int (nI li)] (encR D N c z P Q ++ rest) 0 0 K := by
  have hw2 : (wdK (byB c tp) p).2 ≤ tp := pwW_tp byB_out keysL 0 0 nom1K hp hp
  refine ok_of (L := [(0, _), (1, _)]) (by decide) (Nat.le_of_ble_eq_true rfl) rfl ?_
  refine wp_aload_n (q := 1) d_Rf_line_0 rfl rfl ?_
  refine wp_get (q := 4) fl_Rf_89 d_Rf_line_1 rfl rfl rfl ?_
  refine wp_iload_n (q := 5) d_Rf_line_4 rfl rfl ?_
  refine wp_iconst (q := 6) d_Rf_line_5 rfl ic_0 ?_
  refine wp_iast (q := 7) d_Rf_line_6 rfl (rfl) (by omega) (by decide) (fr_27) ?_
  refine wp_aload_n (q := 8) d_Rf_line_7 rfl rfl ?_
  refine wp_get (q := 11) fl_Rf_83 d_Rf_line_8 rfl rfl rfl ?_
  refine wp_iload_n (q := 12) d_Rf_line_11 rfl rfl ?_
  refine wp_aload_n (q := 13) d_Rf_line_12 rfl rfl ?_
  refine wp_iconst (q := 14) d_Rf_line_13 rfl ic_0 ?_
  refine wp_iconst (q := 15) d_Rf_line_14 rfl ic_3 ?_
  refine wp_cv2 (q := 18) lk_Rf_202 (ro _ _ _) d_Rf_line_15 rfl (Nat.le_of_ble_eq_true rfl) (rfl) rfl (Nat.zero_le _) (Nat.zero_le _) ?_
  refine ok_Rf_wordOf_K htp h160 hp hz ?_
  rw [byB_put (by decide)]
  refine wp_iast (q := 19) d_Rf_line_18 rfl (rfl) (by omega) (by decide) (fr_25) ?_
  refine wp_aload_n (q := 20) d_Rf_line_19 rfl rfl ?_
  refine wp_get (q := 23) fl_Rf_83 d_Rf_line_20 rfl rfl rfl ?_
  refine wp_iload_n (q := 24) d_Rf_line_23 rfl rfl ?_
  refine wp_iald (q := 25) d_Rf_line_24 rfl (rfl) (by omega) (by decide) ?_
  rw [tput_eq, upd_eq]
  refine wp_iconst (q := 26) d_Rf_line_25 rfl ic_m1 ?_
  refine wp_icmp_eq (q := 29) (tgt := 38) d_Rf_line_26 (by decide) rfl (fun hc_26 => ?_) (fun hc_26 => ?_)
  · refine wp_iconst (q := 39) d_Rf_line_38 rfl ic_0 ?_
    refine wp_zret d_Rf_line_39 rfl (rfl) (Nat.le_refl _) (Nat.le_refl _) ?_
    refine h0 _ ?_ _ (((LX.rf c li).p1 (by decide) (by decide) _).p1 (by decide) (by decide) _)
    unfold pln
    rw [if_pos (Or.inl hc_26)]
  · refine wp_aload_n (q := 30) d_Rf_line_29 rfl rfl ?_
    refine wp_cv0 (q := 33) lk_Rf_199 (ro _ _ _) d_Rf_line_30 rfl (Nat.le_of_ble_eq_true rfl) (rfl) rfl (Nat.zero_le _) (Nat.zero_le _) ?_
    refine ok_Rf_byteHere htp h160 (zp_at _ _) (by omega) ?_
    rw [byB_put (by decide), byB_put (by decide)]
    refine wp_bipush (q := 35) d_Rf_line_33 rfl bp_61 ?_
    refine wp_icmp_eq (q := 38) (tgt := 40) d_Rf_line_35 (by decide) rfl (fun hc_35 => ?_) (fun hc_35 => ?_)
    · refine wp_aload_n (q := 41) d_Rf_line_40 rfl rfl ?_
      refine wp_dup (q := 42) d_Rf_line_41 rfl rfl ?_
      refine wp_get (q := 45) fl_Rf_196 d_Rf_line_42 rfl rfl rfl ?_
      rw [zp_at]
      refine wp_iconst (q := 46) d_Rf_line_45 rfl ic_1 ?_
      first | refine wp_iaddN (q := 47) d_Rf_line_46 rfl ?_ | refine wp_iadd (q := 47) d_Rf_line_46 rfl ?_
      refine wp_put (q := 50) fl_Rf_196 d_Rf_line_47 rfl rfl (Nat.le_of_ble_eq_true rfl) rfl rfl (fr_at) ?_
      rw [show ∀ (z2 : T2) (q : Nat), tput z2 5 (upd (z2 5) 0 (nI q)) = zp z2 q from fun _ _ => rfl, zp_zp]
      have hw1 : (wdK (byB c tp) p).2 + 1 ≤ tp := by
        have : ¬ tp ≤ (wdK (byB c tp) p).2 := fun q => by rw [byB_out _ q] at hc_35; exact absurd hc_35 (by decide)
        omega
      refine wp_aload_n (q := 51) d_Rf_line_50 rfl rfl ?_
      refine wp_get (q := 54) fl_Rf_86 d_Rf_line_51 rfl rfl rfl ?_
      refine wp_iload_n (q := 55) d_Rf_line_54 rfl rfl ?_
      refine wp_aload_n (q := 56) d_Rf_line_55 rfl rfl ?_
      refine wp_cv0 (q := 59) lk_Rf_205 (ro _ _ _) d_Rf_line_56 rfl (Nat.le_of_ble_eq_true rfl) (rfl) rfl (Nat.zero_le _) (Nat.zero_le _) ?_
      refine ok_Rf_number htp h160 (zp_at _ _) hw1 ?_
      rw [zp_zp, byB_put (by decide), byB_put (by decide)]
      refine wp_iast (q := 60) d_Rf_line_59 rfl (rfl) (by omega) (by decide) (fr_26) ?_
      refine wp_aload_n (q := 61) d_Rf_line_60 rfl rfl ?_
      refine wp_get (q := 64) fl_Rf_86 d_Rf_line_61 rfl rfl rfl ?_
      refine wp_iload_n (q := 65) d_Rf_line_64 rfl rfl ?_
      refine wp_iald (q := 66) d_Rf_line_65 rfl (rfl) (by omega) (by decide) ?_
      rw [tput_eq, upd_eq]
      refine wp_iconst (q := 67) d_Rf_line_66 rfl ic_m1 ?_
      refine wp_icmp_ne (q := 70) (tgt := 72) d_Rf_line_67 (by decide) rfl (fun hc_67 => ?_) (fun hc_67 => ?_)
      · refine rl_tests (key := (wdK (byB c tp) p).1) (num := (spN (byB c tp) ((wdK (byB c tp) p).2 + 1)).1) htp h160 hli 3 0 (spN (byB c tp) ((wdK (byB c tp) p).2 + 1)).2 (fun _ => 0) (fun _ => 0) (fun _ => 0) _ _ (by decide) ((((LX.rf c li).p1 (by decide) (by decide) _).p1 (by decide) (by decide) _).p1 (by decide) (by decide) _) ?_ ?_ ?_ (fun j hj => absurd hj (Nat.not_lt_zero _)) (zp_at _ _) (spN_tp byB_out hw1) (fun v q ev c3 x3 l3 => ?_) (fun q ev c3 x3 => ?_)
        · simp (disch := decide) only [tput_ne, tput_eq, upd_eq, ne_eq]
        · simp (disch := decide) only [tput_ne, tput_eq, upd_eq, ne_eq]
        · simp (disch := decide) only [tput_ne, tput_eq, upd_eq, ne_eq]
        · rw [zp_zp]
          refine h1 _ q ?_ c3 x3 l3
          unfold pln
          rw [if_neg (fun g => g.elim hc_26 (fun g => g hc_35)), if_neg hc_67, ev]
        · rw [zp_zp]
          refine h0 q ?_ c3 x3
          unfold pln
          rw [if_neg (fun g => g.elim hc_26 (fun g => g hc_35)), if_neg hc_67, ev]
      · refine wp_iconst (q := 71) d_Rf_line_70 rfl ic_0 ?_
        refine wp_zret d_Rf_line_71 rfl (rfl) (Nat.le_refl _) (Nat.le_refl _) ?_
        refine h0 _ ?_ _ ((((LX.rf c li).p1 (by decide) (by decide) _).p1 (by decide) (by decide) _).p1 (by decide) (by decide) _)
        unfold pln
        rw [if_neg (fun g => g.elim hc_26 (fun g => g hc_35)), if_pos hc_67]
    · refine wp_iconst (q := 39) d_Rf_line_38 rfl ic_0 ?_
      refine wp_zret d_Rf_line_39 rfl (rfl) (Nat.le_refl _) (Nat.le_refl _) ?_
      refine h0 _ ?_ _ (((LX.rf c li).p1 (by decide) (by decide) _).p1 (by decide) (by decide) _)
      unfold pln
      rw [if_pos (Or.inr hc_35)]
