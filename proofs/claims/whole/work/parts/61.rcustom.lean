def CX (c c2 : T2) (cu : Nat) : Prop := (∀ k, ¬ (23 ≤ k ∧ k ≤ 28) → c2 k = c k) ∧ (∀ k, 23 ≤ k → k ≤ 25 → ∀ i, i < 8 * cu → c2 k i = c k i) ∧ ∀ k, 26 ≤ k → k ≤ 28 → ∀ i, i < 24 * cu → c2 k i = c k i
theorem CX.rf (c : T2) (cu : Nat) : CX c c cu := ⟨fun _ _ => rfl, fun _ _ _ _ _ => rfl, fun _ _ _ _ _ => rfl⟩
theorem CX.tr {c c2 c3 : T2} {cu j : Nat} (h : CX c c2 cu) (g : LX c2 c3 (8 * cu + j)) : CX c c3 cu := ⟨fun k hk => (g.1 k hk).trans (h.1 k hk), fun k h1 h2 i hi => (g.2.1 k h1 h2 i (by omega)).trans (h.2.1 k h1 h2 i hi), fun k h1 h2 i hi => (g.2.2 k h1 h2 i (by omega)).trans (h.2.2 k h1 h2 i hi)⟩
/-- behind a custom that is one, and behind one that isn't -/
def cuY (c : T2) (cu n : Nat) : T2 := tput (tput c 22 (upd (c 22) cu (nI n))) 32 (upd (upd (c 32) 8 (nI 0)) 9 (nI (cu + 1)))
def cuZ (c : T2) : T2 := tput c 32 (upd (c 32) 8 (nI 0))
theorem cuY_eq (c : T2) (cu n : Nat) (e : Int32) (he : e = nI (cu + 1)) : tput (tput (cuZ c) 22 (upd (cuZ c 22) cu (nI n))) 32 (upd (tput (cuZ c) 22 (upd (cuZ c 22) cu (nI n)) 32) 9 e) = cuY c cu n := by
  subst he
  unfold cuZ cuY
  funext k
  simp only [tput]
  repeat' split
  all_goals first | rfl | (exfalso; omega) | simp_all
theorem d_Rf_custom_0 : decode M_Rf_custom.2.1 0 = .ok (.aload_n 0, 1) := by decide +kernel
theorem d_Rf_custom_1 : decode M_Rf_custom.2.1 1 = .ok (.getfield 211, 3) := by decide +kernel
theorem d_Rf_custom_4 : decode M_Rf_custom.2.1 4 = .ok (.bipush 6, 2) := by decide +kernel
theorem d_Rf_custom_6 : decode M_Rf_custom.2.1 6 = .ok (.if_icmp .ne 6, 3) := by decide +kernel
theorem d_Rf_custom_9 : decode M_Rf_custom.2.1 9 = .ok (.bipush (-4), 2) := by decide +kernel
theorem d_Rf_custom_11 : decode M_Rf_custom.2.1 11 = .ok (.ireturn, 1) := by decide +kernel
theorem d_Rf_custom_12 : decode M_Rf_custom.2.1 12 = .ok (.aload_n 0, 1) := by decide +kernel
theorem d_Rf_custom_13 : decode M_Rf_custom.2.1 13 = .ok (.iconst 0, 1) := by decide +kernel
theorem d_Rf_custom_14 : decode M_Rf_custom.2.1 14 = .ok (.putfield 196, 3) := by decide +kernel
theorem d_Rf_custom_17 : decode M_Rf_custom.2.1 17 = .ok (.iconst 1, 1) := by decide +kernel
theorem d_Rf_custom_18 : decode M_Rf_custom.2.1 18 = .ok (.istore_n 1, 1) := by decide +kernel
theorem d_Rf_custom_19 : decode M_Rf_custom.2.1 19 = .ok (.aload_n 0, 1) := by decide +kernel
theorem d_Rf_custom_20 : decode M_Rf_custom.2.1 20 = .ok (.bipush 8, 2) := by decide +kernel
theorem d_Rf_custom_22 : decode M_Rf_custom.2.1 22 = .ok (.aload_n 0, 1) := by decide +kernel
theorem d_Rf_custom_23 : decode M_Rf_custom.2.1 23 = .ok (.getfield 211, 3) := by decide +kernel
theorem d_Rf_custom_26 : decode M_Rf_custom.2.1 26 = .ok (.imul, 1) := by decide +kernel
theorem d_Rf_custom_27 : decode M_Rf_custom.2.1 27 = .ok (.invokevirtual 214, 3) := by decide +kernel
theorem d_Rf_custom_30 : decode M_Rf_custom.2.1 30 = .ok (.istore_n 2, 1) := by decide +kernel
theorem d_Rf_custom_31 : decode M_Rf_custom.2.1 31 = .ok (.iload_n 2, 1) := by decide +kernel
theorem d_Rf_custom_32 : decode M_Rf_custom.2.1 32 = .ok (.ifCond .eq 48, 3) := by decide +kernel
theorem d_Rf_custom_35 : decode M_Rf_custom.2.1 35 = .ok (.aload_n 0, 1) := by decide +kernel
theorem d_Rf_custom_36 : decode M_Rf_custom.2.1 36 = .ok (.invokevirtual 199, 3) := by decide +kernel
theorem d_Rf_custom_39 : decode M_Rf_custom.2.1 39 = .ok (.bipush 47, 2) := by decide +kernel
theorem d_Rf_custom_41 : decode M_Rf_custom.2.1 41 = .ok (.if_icmp .ne 39, 3) := by decide +kernel
theorem d_Rf_custom_44 : decode M_Rf_custom.2.1 44 = .ok (.iload_n 1, 1) := by decide +kernel
theorem d_Rf_custom_45 : decode M_Rf_custom.2.1 45 = .ok (.bipush 8, 2) := by decide +kernel
theorem d_Rf_custom_47 : decode M_Rf_custom.2.1 47 = .ok (.if_icmp .ge 33, 3) := by decide +kernel
theorem d_Rf_custom_50 : decode M_Rf_custom.2.1 50 = .ok (.aload_n 0, 1) := by decide +kernel
theorem d_Rf_custom_51 : decode M_Rf_custom.2.1 51 = .ok (.dup, 1) := by decide +kernel
theorem d_Rf_custom_52 : decode M_Rf_custom.2.1 52 = .ok (.getfield 196, 3) := by decide +kernel
theorem d_Rf_custom_55 : decode M_Rf_custom.2.1 55 = .ok (.iconst 1, 1) := by decide +kernel
theorem d_Rf_custom_56 : decode M_Rf_custom.2.1 56 = .ok (.iadd, 1) := by decide +kernel
theorem d_Rf_custom_57 : decode M_Rf_custom.2.1 57 = .ok (.putfield 196, 3) := by decide +kernel
theorem d_Rf_custom_60 : decode M_Rf_custom.2.1 60 = .ok (.aload_n 0, 1) := by decide +kernel
theorem d_Rf_custom_61 : decode M_Rf_custom.2.1 61 = .ok (.bipush 8, 2) := by decide +kernel
theorem d_Rf_custom_63 : decode M_Rf_custom.2.1 63 = .ok (.aload_n 0, 1) := by decide +kernel
theorem d_Rf_custom_64 : decode M_Rf_custom.2.1 64 = .ok (.getfield 211, 3) := by decide +kernel
theorem d_Rf_custom_67 : decode M_Rf_custom.2.1 67 = .ok (.imul, 1) := by decide +kernel
theorem d_Rf_custom_68 : decode M_Rf_custom.2.1 68 = .ok (.iload_n 1, 1) := by decide +kernel
theorem d_Rf_custom_69 : decode M_Rf_custom.2.1 69 = .ok (.iadd, 1) := by decide +kernel
theorem d_Rf_custom_70 : decode M_Rf_custom.2.1 70 = .ok (.invokevirtual 214, 3) := by decide +kernel
theorem d_Rf_custom_73 : decode M_Rf_custom.2.1 73 = .ok (.istore_n 2, 1) := by decide +kernel
theorem d_Rf_custom_74 : decode M_Rf_custom.2.1 74 = .ok (.iinc 1 1, 3) := by decide +kernel
theorem d_Rf_custom_77 : decode M_Rf_custom.2.1 77 = .ok (.goto (-46), 3) := by decide +kernel
theorem d_Rf_custom_80 : decode M_Rf_custom.2.1 80 = .ok (.iload_n 2, 1) := by decide +kernel
theorem d_Rf_custom_81 : decode M_Rf_custom.2.1 81 = .ok (.ifCond .eq 18, 3) := by decide +kernel
theorem d_Rf_custom_84 : decode M_Rf_custom.2.1 84 = .ok (.aload_n 0, 1) := by decide +kernel
theorem d_Rf_custom_85 : decode M_Rf_custom.2.1 85 = .ok (.getfield 196, 3) := by decide +kernel
theorem d_Rf_custom_88 : decode M_Rf_custom.2.1 88 = .ok (.aload_n 0, 1) := by decide +kernel
theorem d_Rf_custom_89 : decode M_Rf_custom.2.1 89 = .ok (.getfield 191, 3) := by decide +kernel
theorem d_Rf_custom_92 : decode M_Rf_custom.2.1 92 = .ok (.if_icmp .ne 7, 3) := by decide +kernel
theorem d_Rf_custom_95 : decode M_Rf_custom.2.1 95 = .ok (.iconst 1, 1) := by decide +kernel
theorem d_Rf_custom_96 : decode M_Rf_custom.2.1 96 = .ok (.goto 4, 3) := by decide +kernel
theorem d_Rf_custom_99 : decode M_Rf_custom.2.1 99 = .ok (.iconst 0, 1) := by decide +kernel
theorem d_Rf_custom_100 : decode M_Rf_custom.2.1 100 = .ok (.istore_n 2, 1) := by decide +kernel
theorem d_Rf_custom_101 : decode M_Rf_custom.2.1 101 = .ok (.aload_n 0, 1) := by decide +kernel
theorem d_Rf_custom_102 : decode M_Rf_custom.2.1 102 = .ok (.iconst 0, 1) := by decide +kernel
theorem d_Rf_custom_103 : decode M_Rf_custom.2.1 103 = .ok (.putfield 191, 3) := by decide +kernel
theorem d_Rf_custom_106 : decode M_Rf_custom.2.1 106 = .ok (.iload_n 2, 1) := by decide +kernel
theorem d_Rf_custom_107 : decode M_Rf_custom.2.1 107 = .ok (.ifCond .ne 11, 3) := by decide +kernel
theorem d_Rf_custom_110 : decode M_Rf_custom.2.1 110 = .ok (.bipush (-100), 2) := by decide +kernel
theorem d_Rf_custom_112 : decode M_Rf_custom.2.1 112 = .ok (.aload_n 0, 1) := by decide +kernel
theorem d_Rf_custom_113 : decode M_Rf_custom.2.1 113 = .ok (.getfield 196, 3) := by decide +kernel
theorem d_Rf_custom_116 : decode M_Rf_custom.2.1 116 = .ok (.isub, 1) := by decide +kernel
theorem d_Rf_custom_117 : decode M_Rf_custom.2.1 117 = .ok (.ireturn, 1) := by decide +kernel
theorem d_Rf_custom_118 : decode M_Rf_custom.2.1 118 = .ok (.aload_n 0, 1) := by decide +kernel
theorem d_Rf_custom_119 : decode M_Rf_custom.2.1 119 = .ok (.getfield 80, 3) := by decide +kernel
theorem d_Rf_custom_122 : decode M_Rf_custom.2.1 122 = .ok (.aload_n 0, 1) := by decide +kernel
theorem d_Rf_custom_123 : decode M_Rf_custom.2.1 123 = .ok (.getfield 211, 3) := by decide +kernel
theorem d_Rf_custom_126 : decode M_Rf_custom.2.1 126 = .ok (.iload_n 1, 1) := by decide +kernel
theorem d_Rf_custom_127 : decode M_Rf_custom.2.1 127 = .ok (.iastore, 1) := by decide +kernel
theorem d_Rf_custom_128 : decode M_Rf_custom.2.1 128 = .ok (.aload_n 0, 1) := by decide +kernel
theorem d_Rf_custom_129 : decode M_Rf_custom.2.1 129 = .ok (.dup, 1) := by decide +kernel
theorem d_Rf_custom_130 : decode M_Rf_custom.2.1 130 = .ok (.getfield 211, 3) := by decide +kernel
theorem d_Rf_custom_133 : decode M_Rf_custom.2.1 133 = .ok (.iconst 1, 1) := by decide +kernel
theorem d_Rf_custom_134 : decode M_Rf_custom.2.1 134 = .ok (.iadd, 1) := by decide +kernel
theorem d_Rf_custom_135 : decode M_Rf_custom.2.1 135 = .ok (.putfield 211, 3) := by decide +kernel
theorem d_Rf_custom_138 : decode M_Rf_custom.2.1 138 = .ok (.aload_n 0, 1) := by decide +kernel
theorem d_Rf_custom_139 : decode M_Rf_custom.2.1 139 = .ok (.getfield 211, 3) := by decide +kernel
theorem d_Rf_custom_142 : decode M_Rf_custom.2.1 142 = .ok (.iconst 1, 1) := by decide +kernel
theorem d_Rf_custom_143 : decode M_Rf_custom.2.1 143 = .ok (.isub, 1) := by decide +kernel
theorem d_Rf_custom_144 : decode M_Rf_custom.2.1 144 = .ok (.ireturn, 1) := by decide +kernel
set_option maxHeartbeats 4000000 in
set_option maxRecDepth 100000 in
theorem cr_bad {D : xD} {N : Nat} {l : Launch} {d : Nat} {P Q : Nat → Int32} {rest : List va_E} {K : Option Value → List va_E → Prop} {c2 z : T2} {n q : Nat} (hz : z 5 0 = nI q) (hE : K (some (.int (-100 - nI q))) (encR D N (cuZ c2) z P Q ++ rest)) : Wp D N l (EI M_Rf_custom) M_Rf_custom (Rm (d + 4) 0 0) (Qm D N K 0 0) 0 0 80 [(2, .int (nI 0)), (1, .int (nI n)), (0, .ref (N + 0))] [] (encR D N c2 z P Q ++ rest) := by
  refine wp_iload_n (q := 81) d_Rf_custom_80 rfl rfl ?_
  refine wp_if_eq_t (tgt := 99) d_Rf_custom_81 (by decide) (by decide) ?_
  refine wp_iconst (q := 100) d_Rf_custom_99 rfl ic_0 ?_
  refine wp_istore_n (q := 101) (L2 := [(2, _), (1, _), (0, _)]) d_Rf_custom_100 rfl (by decide) rfl ?_
  refine wp_aload_n (q := 102) d_Rf_custom_101 rfl rfl ?_
  refine wp_iconst (q := 103) d_Rf_custom_102 rfl ic_0 ?_
  refine wp_put (q := 106) fl_Rf_191 d_Rf_custom_103 rfl rfl (Nat.le_of_ble_eq_true rfl) rfl rfl (fr_s8) ?_
  refine wp_iload_n (q := 107) d_Rf_custom_106 rfl rfl ?_
  refine wp_if_ne_f (q := 110) (tgt := 118) d_Rf_custom_107 (by decide) rfl (by decide) ?_
  refine wp_bipush (q := 112) d_Rf_custom_110 rfl bp_m100 ?_
  refine wp_aload_n (q := 113) d_Rf_custom_112 rfl rfl ?_
  refine wp_get (q := 116) fl_Rf_196 d_Rf_custom_113 rfl rfl rfl ?_
  rw [hz]
  refine wp_isub (q := 117) d_Rf_custom_116 rfl ?_
  refine wp_iret d_Rf_custom_117 rfl (Nat.le_refl _) (Nat.le_refl _) ?_
  exact hE
set_option maxHeartbeats 4000000 in
set_option maxRecDepth 100000 in
theorem cr_good {D : xD} {N : Nat} {l : Launch} {d : Nat} {P Q : Nat → Int32} {rest : List va_E} {K : Option Value → List va_E → Prop} {c2 z : T2} {n q tp cu : Nat} (hz : z 5 0 = nI q) (htp2 : c2 32 8 = nI tp) (h160 : tp ≤ 160) (hq : q ≤ tp) (hcu2 : c2 32 9 = nI cu) (hcu : cu < 6) (hye : q = tp → K (some (.int (nI cu))) (encR D N (cuY c2 cu n) z P Q ++ rest)) (hno : ¬ q = tp → K (some (.int (-100 - nI q))) (encR D N (cuZ c2) z P Q ++ rest)) : Wp D N l (EI M_Rf_custom) M_Rf_custom (Rm (d + 4) 0 0) (Qm D N K 0 0) 0 0 80 [(2, .int (nI 1)), (1, .int (nI n)), (0, .ref (N + 0))] [] (encR D N c2 z P Q ++ rest) := by
  by_cases hqt : q = tp
  · skip
    refine wp_iload_n (q := 81) d_Rf_custom_80 rfl rfl ?_
    refine wp_if_eq_f (q := 84) (tgt := 99) d_Rf_custom_81 (by decide) rfl (by decide) ?_
    refine wp_aload_n (q := 85) d_Rf_custom_84 rfl rfl ?_
    refine wp_get (q := 88) fl_Rf_196 d_Rf_custom_85 rfl rfl rfl ?_
    rw [hz]
    refine wp_aload_n (q := 89) d_Rf_custom_88 rfl rfl ?_
    refine wp_get (q := 92) fl_Rf_191 d_Rf_custom_89 rfl rfl rfl ?_
    rw [htp2]
    refine wp_icmp_ne_f (q := 95) (tgt := 99) d_Rf_custom_92 (by decide) rfl (by rw [hqt]) ?_
    refine wp_iconst (q := 96) d_Rf_custom_95 rfl ic_1 ?_
    refine wp_goto (tgt := 100) d_Rf_custom_96 (by decide) ?_
    refine wp_istore_n (q := 101) (L2 := [(2, _), (1, _), (0, _)]) d_Rf_custom_100 rfl (by decide) rfl ?_
    refine wp_aload_n (q := 102) d_Rf_custom_101 rfl rfl ?_
    refine wp_iconst (q := 103) d_Rf_custom_102 rfl ic_0 ?_
    refine wp_put (q := 106) fl_Rf_191 d_Rf_custom_103 rfl rfl (Nat.le_of_ble_eq_true rfl) rfl rfl (fr_s8) ?_
    refine wp_iload_n (q := 107) d_Rf_custom_106 rfl rfl ?_
    refine wp_if_ne_t (tgt := 118) d_Rf_custom_107 (by decide) (by decide) ?_
    refine wp_aload_n (q := 119) d_Rf_custom_118 rfl rfl ?_
    refine wp_get (q := 122) fl_Rf_80 d_Rf_custom_119 rfl rfl rfl ?_
    refine wp_aload_n (q := 123) d_Rf_custom_122 rfl rfl ?_
    refine wp_get (q := 126) fl_Rf_211 d_Rf_custom_123 rfl rfl rfl ?_
    rw [show tput c2 32 (upd (c2 32) 8 (nI 0)) = cuZ c2 from rfl, show cuZ c2 32 9 = c2 32 9 from rfl, hcu2]
    refine wp_iload_n (q := 127) d_Rf_custom_126 rfl rfl ?_
    refine wp_iast (q := 128) d_Rf_custom_127 rfl (rfl) (by omega) (by decide) (fr_24) ?_
    refine wp_aload_n (q := 129) d_Rf_custom_128 rfl rfl ?_
    refine wp_dup (q := 130) d_Rf_custom_129 rfl rfl ?_
    refine wp_get (q := 133) fl_Rf_211 d_Rf_custom_130 rfl rfl rfl ?_
    rw [show tput (cuZ c2) 22 (upd (cuZ c2 22) cu (nI n)) 32 9 = c2 32 9 from rfl, hcu2]
    refine wp_iconst (q := 134) d_Rf_custom_133 rfl ic_1 ?_
    first | refine wp_iaddN (q := 135) d_Rf_custom_134 rfl ?_ | refine wp_iadd (q := 135) d_Rf_custom_134 rfl ?_
    refine wp_put (q := 138) fl_Rf_211 d_Rf_custom_135 rfl rfl (Nat.le_of_ble_eq_true rfl) rfl rfl (fr_s9) ?_
    rw [cuY_eq c2 cu n _ rfl]
    refine wp_aload_n (q := 139) d_Rf_custom_138 rfl rfl ?_
    refine wp_get (q := 142) fl_Rf_211 d_Rf_custom_139 rfl rfl rfl ?_
    rw [show cuY c2 cu n 32 9 = nI (cu + 1) from rfl]
    refine wp_iconst (q := 143) d_Rf_custom_142 rfl ic_1 ?_
    refine wp_isubN (q := 144) d_Rf_custom_143 rfl (by omega) ?_
    refine wp_iret d_Rf_custom_144 rfl (Nat.le_refl _) (Nat.le_refl _) ?_
    rw [Nat.add_sub_cancel]
    exact hye hqt
  · skip
    refine wp_iload_n (q := 81) d_Rf_custom_80 rfl rfl ?_
    refine wp_if_eq_f (q := 84) (tgt := 99) d_Rf_custom_81 (by decide) rfl (by decide) ?_
    refine wp_aload_n (q := 85) d_Rf_custom_84 rfl rfl ?_
    refine wp_get (q := 88) fl_Rf_196 d_Rf_custom_85 rfl rfl rfl ?_
    rw [hz]
    refine wp_aload_n (q := 89) d_Rf_custom_88 rfl rfl ?_
    refine wp_get (q := 92) fl_Rf_191 d_Rf_custom_89 rfl rfl rfl ?_
    rw [htp2]
    refine wp_icmp_ne_t (tgt := 99) d_Rf_custom_92 (by decide) (fun e => hqt ((nI_eq (by omega) (by omega)).mp e)) ?_
    refine wp_iconst (q := 100) d_Rf_custom_99 rfl ic_0 ?_
    refine wp_istore_n (q := 101) (L2 := [(2, _), (1, _), (0, _)]) d_Rf_custom_100 rfl (by decide) rfl ?_
    refine wp_aload_n (q := 102) d_Rf_custom_101 rfl rfl ?_
    refine wp_iconst (q := 103) d_Rf_custom_102 rfl ic_0 ?_
    refine wp_put (q := 106) fl_Rf_191 d_Rf_custom_103 rfl rfl (Nat.le_of_ble_eq_true rfl) rfl rfl (fr_s8) ?_
    refine wp_iload_n (q := 107) d_Rf_custom_106 rfl rfl ?_
    refine wp_if_ne_f (q := 110) (tgt := 118) d_Rf_custom_107 (by decide) rfl (by decide) ?_
    refine wp_bipush (q := 112) d_Rf_custom_110 rfl bp_m100 ?_
    refine wp_aload_n (q := 113) d_Rf_custom_112 rfl rfl ?_
    refine wp_get (q := 116) fl_Rf_196 d_Rf_custom_113 rfl rfl rfl ?_
    rw [hz]
    refine wp_isub (q := 117) d_Rf_custom_116 rfl ?_
    refine wp_iret d_Rf_custom_117 rfl (Nat.le_refl _) (Nat.le_refl _) ?_
    exact hno hqt
set_option maxHeartbeats 4000000 in
set_option maxRecDepth 100000 in
theorem cr_loop {D : xD} {N : Nat} {l : Launch} {d : Nat} {c : T2} {P Q : Nat → Int32} {rest : List va_E} {K : Option Value → List va_E → Prop} {tp : Nat} (htp : c 32 8 = nI tp) (h160 : tp ≤ 160) {cu : Nat} (hcu9 : c 32 9 = nI cu) (hcu : cu < 6) : ∀ (f k q : Nat) (A : Nat → LR) (c2 z : T2), k + f = 7 → CX c c2 cu → (∀ j, j < k + 1 → LT c2 (8 * cu + j) (A j)) → z 5 0 = nI q → q ≤ tp → (∀ n A2 q2, (if tp ≤ q then (some (k + 1, A), q) else if k = 7 ∨ ¬ (byB c tp) q = nI 47 then (none, q) else pal (byB c tp) tp f (k + 1) (q + 1) A : Option (Nat × (Nat → LR)) × Nat) = (some (n, A2), q2) → ∀ c2 z2, CX c c2 cu → n ≤ 8 → (∀ j, j < n → LT c2 (8 * cu + j) (A2 j)) → K (some (.int (nI cu))) (encR D N (cuY c2 cu n) z2 P Q ++ rest)) → (∀ q2, (if tp ≤ q then (some (k + 1, A), q) else if k = 7 ∨ ¬ (byB c tp) q = nI 47 then (none, q) else pal (byB c tp) tp f (k + 1) (q + 1) A : Option (Nat × (Nat → LR)) × Nat) = (none, q2) → ∀ c2 z2, CX c c2 cu → K (some (.int (-100 - nI q2))) (encR D N (cuZ c2) z2 P Q ++ rest)) → Wp D N l (EI M_Rf_custom) M_Rf_custom (Rm (d + 4) 0 0) (Qm D N K 0 0) 0 0 31 [(2, .int (nI 1)), (1, .int (nI (k + 1))), (0, .ref (N + 0))] [] (encR D N c2 z P Q ++ rest) := by
  intro f
  induction f with
  | zero =>
    intro k q A c2 z hkf hX hL hz hq hy hno
    have hby : byB c2 tp = byB c tp := byB_eq (hX.1 21 (by decide))
    have htp2 : c2 32 8 = nI tp := by rw [hX.1 32 (by decide)]; exact htp
    have hcu2 : c2 32 9 = nI cu := by rw [hX.1 32 (by decide)]; exact hcu9
    refine wp_iload_n (q := 32) d_Rf_custom_31 rfl rfl ?_
    refine wp_if_eq_f (q := 35) (tgt := 80) d_Rf_custom_32 (by decide) rfl (by decide) ?_
    refine wp_aload_n (q := 36) d_Rf_custom_35 rfl rfl ?_
    refine wp_cv0 (q := 39) lk_Rf_199 (ro _ _ _) d_Rf_custom_36 rfl (Nat.le_of_ble_eq_true rfl) (rfl) rfl (Nat.zero_le _) (Nat.zero_le _) ?_
    refine ok_Rf_byteHere htp2 h160 hz (by omega) ?_
    rw [hby]
    refine wp_bipush (q := 41) d_Rf_custom_39 rfl bp_47 ?_
    refine wp_icmp_ne (q := 44) (tgt := 80) d_Rf_custom_41 (by decide) rfl (fun hc_41 => ?_) (fun hc_41 => ?_)
    · refine cr_good hz htp2 h160 hq hcu2 hcu (fun e => hy _ _ q (by rw [if_pos (by omega)]) c2 z hX (by omega) hL) (fun e => hno q (by rw [if_neg (by omega), if_pos (Or.inl (by omega))]) c2 z hX)
    · refine wp_iload_n (q := 45) d_Rf_custom_44 rfl rfl ?_
      refine wp_bipush (q := 47) d_Rf_custom_45 rfl bp_8 ?_
      refine wp_icmp_ge_t (tgt := 80) d_Rf_custom_47 (by decide) (nI_le (by omega) (by omega)) ?_
      refine cr_good hz htp2 h160 hq hcu2 hcu (fun e => hy _ _ q (by rw [if_pos (by omega)]) c2 z hX (by omega) hL) (fun e => hno q (by rw [if_neg (by omega), if_pos (Or.inl (by omega))]) c2 z hX)
  | succ f ih =>
    intro k q A c2 z hkf hX hL hz hq hy hno
    have hby : byB c2 tp = byB c tp := byB_eq (hX.1 21 (by decide))
    have htp2 : c2 32 8 = nI tp := by rw [hX.1 32 (by decide)]; exact htp
    have hcu2 : c2 32 9 = nI cu := by rw [hX.1 32 (by decide)]; exact hcu9
    refine wp_iload_n (q := 32) d_Rf_custom_31 rfl rfl ?_
    refine wp_if_eq_f (q := 35) (tgt := 80) d_Rf_custom_32 (by decide) rfl (by decide) ?_
    refine wp_aload_n (q := 36) d_Rf_custom_35 rfl rfl ?_
    refine wp_cv0 (q := 39) lk_Rf_199 (ro _ _ _) d_Rf_custom_36 rfl (Nat.le_of_ble_eq_true rfl) (rfl) rfl (Nat.zero_le _) (Nat.zero_le _) ?_
    refine ok_Rf_byteHere htp2 h160 hz (by omega) ?_
    rw [hby]
    refine wp_bipush (q := 41) d_Rf_custom_39 rfl bp_47 ?_
    refine wp_icmp_ne (q := 44) (tgt := 80) d_Rf_custom_41 (by decide) rfl (fun hc_41 => ?_) (fun hc_41 => ?_)
    · refine cr_good hz htp2 h160 hq hcu2 hcu (fun e => hy _ _ q (by rw [if_pos (by omega)]) c2 z hX (by omega) hL) (fun e => hno q (by rw [if_neg (by omega), if_pos (Or.inr hc_41)]) c2 z hX)
    · have hql : q < tp := by
        have : ¬ tp ≤ q := fun g => by rw [byB_out q g] at hc_41; exact absurd hc_41 (by decide)
        omega
      refine wp_iload_n (q := 45) d_Rf_custom_44 rfl rfl ?_
      refine wp_bipush (q := 47) d_Rf_custom_45 rfl bp_8 ?_
      refine wp_icmp_ge_f (q := 50) (tgt := 80) d_Rf_custom_47 (by decide) rfl (nI_ge (by omega) (by decide)) ?_
      refine wp_aload_n (q := 51) d_Rf_custom_50 rfl rfl ?_
      refine wp_dup (q := 52) d_Rf_custom_51 rfl rfl ?_
      refine wp_get (q := 55) fl_Rf_196 d_Rf_custom_52 rfl rfl rfl ?_
      rw [hz]
      refine wp_iconst (q := 56) d_Rf_custom_55 rfl ic_1 ?_
      first | refine wp_iaddN (q := 57) d_Rf_custom_56 rfl ?_ | refine wp_iadd (q := 57) d_Rf_custom_56 rfl ?_
      refine wp_put (q := 60) fl_Rf_196 d_Rf_custom_57 rfl rfl (Nat.le_of_ble_eq_true rfl) rfl rfl (fr_at) ?_
      rw [show ∀ (z2 : T2) (q : Nat), tput z2 5 (upd (z2 5) 0 (nI q)) = zp z2 q from fun _ _ => rfl]
      refine wp_aload_n (q := 61) d_Rf_custom_60 rfl rfl ?_
      refine wp_bipush (q := 63) d_Rf_custom_61 rfl bp_8 ?_
      refine wp_aload_n (q := 64) d_Rf_custom_63 rfl rfl ?_
      refine wp_get (q := 67) fl_Rf_211 d_Rf_custom_64 rfl rfl rfl ?_
      rw [hcu2]
      first | refine wp_imulN (q := 68) d_Rf_custom_67 rfl ?_ | refine wp_imul (q := 68) d_Rf_custom_67 rfl ?_
      refine wp_iload_n (q := 69) d_Rf_custom_68 rfl rfl ?_
      first | refine wp_iaddN (q := 70) d_Rf_custom_69 rfl ?_ | refine wp_iadd (q := 70) d_Rf_custom_69 rfl ?_
      refine wp_cv1 (q := 73) lk_Rf_214 (ro _ _ _) d_Rf_custom_70 rfl (Nat.le_of_ble_eq_true rfl) (rfl) rfl (Nat.zero_le _) (Nat.zero_le _) ?_
      refine ok_Rf_line htp2 h160 (by omega) (zp_at _ _) (show q + 1 ≤ tp by omega) (fun v q2 ev c3 x3 l3 => ?_) (fun q2 ev c3 x3 => ?_)
      · rw [hby] at ev
        refine wp_istore_n (q := 74) (L2 := [(2, _), (1, _), (0, _)]) d_Rf_custom_73 rfl (by decide) rfl ?_
        refine wp_iinc (q := 77) (L2 := [(1, _), (2, _), (0, _)]) d_Rf_custom_74 rfl rfl (iinc_1) (by decide) rfl ?_
        refine wp_goto (tgt := 31) d_Rf_custom_77 (by decide) ?_
        refine wp_sub [1, 0, 2] rfl ?_
        rw [zp_zp]
        have hq2 : q2 ≤ tp := by have := pln_tp (B := byB c tp) byB_out (show q + 1 ≤ tp by omega); rw [ev] at this; exact this
        refine ih (k + 1) q2 (va_up A (k + 1) v) c3 (zp z q2) (by omega) (hX.tr x3) (fun j hj => ?_) (zp_at _ _) hq2 (fun n A2 q3 e3 => hy n A2 q3 (by rw [if_neg (by omega), if_neg (fun g => g.elim (by omega) (fun g => g hc_41)), pal, ev]; exact e3)) (fun q3 e3 => hno q3 (by rw [if_neg (by omega), if_neg (fun g => g.elim (by omega) (fun g => g hc_41)), pal, ev]; exact e3))
        by_cases e : j = k + 1
        · rw [e, va_upeq]; exact l3
        · rw [va_upne _ _ e]; exact (hL j (by omega)).keep x3 (by omega)
      · rw [hby] at ev
        refine wp_istore_n (q := 74) (L2 := [(2, _), (1, _), (0, _)]) d_Rf_custom_73 rfl (by decide) rfl ?_
        refine wp_iinc (q := 77) (L2 := [(1, _), (2, _), (0, _)]) d_Rf_custom_74 rfl rfl (iinc_1) (by decide) rfl ?_
        refine wp_goto (tgt := 31) d_Rf_custom_77 (by decide) ?_
        refine wp_iload_n (q := 32) d_Rf_custom_31 rfl rfl ?_
        refine wp_if_eq_t (tgt := 80) d_Rf_custom_32 (by decide) (by decide) ?_
        refine wp_sub [1, 0, 2] rfl ?_
        rw [zp_zp]
        refine cr_bad (zp_at _ _) (hno q2 (by rw [if_neg (by omega), if_neg (fun g => g.elim (by omega) (fun g => g hc_41)), pal, ev]) c3 _ (hX.tr x3))
set_option maxHeartbeats 4000000 in
set_option maxRecDepth 100000 in
theorem ok_Rf_custom {D : xD} {N : Nat} {l : Launch} {d : Nat} {c z : T2} {P Q : Nat → Int32} {rest : List va_E} {K : Option Value → List va_E → Prop} {tp : Nat} (htp : c 32 8 = nI tp) (h160 : tp ≤ 160) {cu : Nat} (hcu9 : c 32 9 = nI cu) (hcu6 : cu ≤ 6) (hfull : cu = 6 → K (some (.int (-4))) (encR D N c z P Q ++ rest)) (hy : ∀ n A q, pal (byB c tp) tp 8 0 0 (fun _ => (0, 0, 0, (fun _ => 0), (fun _ => 0), (fun _ => 0))) = (some (n, A), q) → ∀ c2 z2, CX c c2 cu → n ≤ 8 → (∀ j, j < n → LT c2 (8 * cu + j) (A j)) → K (some (.int (nI cu))) (encR D N (cuY c2 cu n) z2 P Q ++ rest)) (hno : ∀ q, pal (byB c tp) tp 8 0 0 (fun _ => (0, 0, 0, (fun _ => 0), (fun _ => 0), (fun _ => 0))) = (none, q) → ∀ c2 z2, CX c c2 cu → K (some (.int (-100 - nI q))) (encR D N (cuZ c2) z2 P Q ++ rest)) : Ok D N l (d + 4) M_Rf_custom [.ref (N + 0)] (encR D N c z P Q ++ rest) 0 0 K := by
  refine ok_of (L := [(0, _)]) (by decide) (Nat.le_of_ble_eq_true rfl) rfl ?_
  by_cases h6 : cu = 6
  · skip
    refine wp_aload_n (q := 1) d_Rf_custom_0 rfl rfl ?_
    refine wp_get (q := 4) fl_Rf_211 d_Rf_custom_1 rfl rfl rfl ?_
    rw [hcu9]
    refine wp_bipush (q := 6) d_Rf_custom_4 rfl bp_6 ?_
    refine wp_icmp_ne_f (q := 9) (tgt := 12) d_Rf_custom_6 (by decide) rfl (by rw [h6]) ?_
    refine wp_bipush (q := 11) d_Rf_custom_9 rfl bp_m4 ?_
    refine wp_iret d_Rf_custom_11 rfl (Nat.le_refl _) (Nat.le_refl _) ?_
    exact hfull h6
  · have hcu : cu < 6 := by omega
    refine wp_aload_n (q := 1) d_Rf_custom_0 rfl rfl ?_
    refine wp_get (q := 4) fl_Rf_211 d_Rf_custom_1 rfl rfl rfl ?_
    rw [hcu9]
    refine wp_bipush (q := 6) d_Rf_custom_4 rfl bp_6 ?_
    refine wp_icmp_ne_t (tgt := 12) d_Rf_custom_6 (by decide) (fun e => h6 ((nI_eq (by omega) (by decide)).mp e)) ?_
    refine wp_aload_n (q := 13) d_Rf_custom_12 rfl rfl ?_
    refine wp_iconst (q := 14) d_Rf_custom_13 rfl ic_0 ?_
    refine wp_put (q := 17) fl_Rf_196 d_Rf_custom_14 rfl rfl (Nat.le_of_ble_eq_true rfl) rfl rfl (fr_at) ?_
    rw [show tput z 5 (upd (z 5) 0 (nI 0)) = zp z 0 from rfl]
    refine wp_iconst (q := 18) d_Rf_custom_17 rfl ic_1 ?_
    refine wp_istore_n (q := 19) (L2 := [(1, _), (0, _)]) d_Rf_custom_18 rfl (by decide) rfl ?_
    refine wp_aload_n (q := 20) d_Rf_custom_19 rfl rfl ?_
    refine wp_bipush (q := 22) d_Rf_custom_20 rfl bp_8 ?_
    refine wp_aload_n (q := 23) d_Rf_custom_22 rfl rfl ?_
    refine wp_get (q := 26) fl_Rf_211 d_Rf_custom_23 rfl rfl rfl ?_
    rw [hcu9]
    first | refine wp_imulN (q := 27) d_Rf_custom_26 rfl ?_ | refine wp_imul (q := 27) d_Rf_custom_26 rfl ?_
    refine wp_cv1 (q := 30) lk_Rf_214 (ro _ _ _) d_Rf_custom_27 rfl (Nat.le_of_ble_eq_true rfl) (rfl) rfl (Nat.zero_le _) (Nat.zero_le _) ?_
    refine ok_Rf_line (li := 8 * cu) htp h160 (by omega) (zp_at _ _) (Nat.zero_le _) (fun v q ev c3 x3 l3 => ?_) (fun q ev c3 x3 => ?_)
    · refine wp_istore_n (q := 31) (L2 := [(2, _), (1, _), (0, _)]) d_Rf_custom_30 rfl (by decide) rfl ?_
      rw [zp_zp]
      have hq2 : q ≤ tp := by have := pln_tp (B := byB c tp) byB_out (Nat.zero_le tp); rw [ev] at this; exact this
      have hx0 : LX c c3 (8 * cu + 0) := x3
      refine cr_loop htp h160 hcu9 hcu 7 0 q _ c3 (zp z q) (by decide) ((CX.rf c cu).tr hx0) (fun j hj => ?_) (zp_at _ _) hq2 (fun n A2 q3 e3 => hy n A2 q3 (by rw [pal, ev]; exact e3)) (fun q3 e3 => hno q3 (by rw [pal, ev]; exact e3))
      rw [show j = 0 by omega, va_upeq]
      exact l3
    · refine wp_istore_n (q := 31) (L2 := [(2, _), (1, _), (0, _)]) d_Rf_custom_30 rfl (by decide) rfl ?_
      refine wp_iload_n (q := 32) d_Rf_custom_31 rfl rfl ?_
      refine wp_if_eq_t (tgt := 80) d_Rf_custom_32 (by decide) (by decide) ?_
      rw [zp_zp]
      have hx0 : LX c c3 (8 * cu + 0) := x3
      refine cr_bad (zp_at _ _) (hno q (by rw [pal, ev]) c3 _ ((CX.rf c cu).tr hx0))
