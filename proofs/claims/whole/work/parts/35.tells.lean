theorem ff_some {P : Nat → Int32} {s b : Nat} (h1 : P (72 + b) = nI 1) (h2 : P (84 + b) = nI s) : ∀ n, b < n → ∃ f, ff P s n = some f := by
  intro n
  induction n with
  | zero => intro h; omega
  | succ n ih =>
    intro h
    by_cases e : b = n
    · subst e
      rw [ff, if_pos ⟨h1, h2⟩]
      cases ff P s b with
      | none => exact ⟨_, rfl⟩
      | some j => dsimp only; split <;> exact ⟨_, rfl⟩
    · obtain ⟨f, hf⟩ := ih (by omega)
      rw [ff, hf]
      split
      · dsimp only; split <;> exact ⟨_, rfl⟩
      · exact ⟨_, rfl⟩
theorem isN.ex {x : Int32} {b : Nat} (h : isN x b) : ∃ a : Nat, a < b ∧ x = nI a := ⟨_, h.2, h.1⟩
theorem lnf_lt {c : T2} {P : Nat → Int32} {nb m s b i : Nat} {key : Int32} (hs : s < 6) (hCI : CI c) (h : lnf c P nb m s b key = some i) : i < 8 := by
  unfold lnf at h
  split at h
  · cases h
  · rename_i e
    have h1 := ((hCI.2.1 s hs).resolve_left e).2
    have h2 := (hCI.2.2 _ h1).1.2
    have h3 := blf_lt h
    omega
def sp_count (c : T2) (P : Nat → Int32) (w : Int32) : Int32 := if ¬ inn w 9 then -2 else if w = nI 0 then P 234 else if w = nI 1 then c 32 1 else if w = nI 2 then P 236 else if w = nI 3 then P 237 else if w = nI 4 then P 238 else if w = nI 5 then c 32 9 else if w = nI 6 then c 32 8 else if w = nI 7 then c 32 7 else if w = nI 8 then P 235 else c 32 4
theorem d_FG_count_0 : decode M_FG_count.2.1 0 = .ok (.iload_n 1, 1) := by decide +kernel
theorem d_FG_count_1 : decode M_FG_count.2.1 1 = .ok (.tableswitch 129 0 9 #[55, 63, 71, 79, 87, 95, 103, 111, 116, 124], 55) := by decide +kernel
theorem d_FG_count_56 : decode M_FG_count.2.1 56 = .ok (.aload_n 0, 1) := by decide +kernel
theorem d_FG_count_57 : decode M_FG_count.2.1 57 = .ok (.getfield 19, 3) := by decide +kernel
theorem d_FG_count_60 : decode M_FG_count.2.1 60 = .ok (.getfield 111, 3) := by decide +kernel
theorem d_FG_count_63 : decode M_FG_count.2.1 63 = .ok (.ireturn, 1) := by decide +kernel
theorem d_FG_count_64 : decode M_FG_count.2.1 64 = .ok (.aload_n 0, 1) := by decide +kernel
theorem d_FG_count_65 : decode M_FG_count.2.1 65 = .ok (.getfield 10, 3) := by decide +kernel
theorem d_FG_count_68 : decode M_FG_count.2.1 68 = .ok (.getfield 224, 3) := by decide +kernel
theorem d_FG_count_71 : decode M_FG_count.2.1 71 = .ok (.ireturn, 1) := by decide +kernel
theorem d_FG_count_72 : decode M_FG_count.2.1 72 = .ok (.aload_n 0, 1) := by decide +kernel
theorem d_FG_count_73 : decode M_FG_count.2.1 73 = .ok (.getfield 19, 3) := by decide +kernel
theorem d_FG_count_76 : decode M_FG_count.2.1 76 = .ok (.getfield 227, 3) := by decide +kernel
theorem d_FG_count_79 : decode M_FG_count.2.1 79 = .ok (.ireturn, 1) := by decide +kernel
theorem d_FG_count_80 : decode M_FG_count.2.1 80 = .ok (.aload_n 0, 1) := by decide +kernel
theorem d_FG_count_81 : decode M_FG_count.2.1 81 = .ok (.getfield 19, 3) := by decide +kernel
theorem d_FG_count_84 : decode M_FG_count.2.1 84 = .ok (.getfield 230, 3) := by decide +kernel
theorem d_FG_count_87 : decode M_FG_count.2.1 87 = .ok (.ireturn, 1) := by decide +kernel
theorem d_FG_count_88 : decode M_FG_count.2.1 88 = .ok (.aload_n 0, 1) := by decide +kernel
theorem d_FG_count_89 : decode M_FG_count.2.1 89 = .ok (.getfield 19, 3) := by decide +kernel
theorem d_FG_count_92 : decode M_FG_count.2.1 92 = .ok (.getfield 233, 3) := by decide +kernel
theorem d_FG_count_95 : decode M_FG_count.2.1 95 = .ok (.ireturn, 1) := by decide +kernel
theorem d_FG_count_96 : decode M_FG_count.2.1 96 = .ok (.aload_n 0, 1) := by decide +kernel
theorem d_FG_count_97 : decode M_FG_count.2.1 97 = .ok (.getfield 10, 3) := by decide +kernel
theorem d_FG_count_100 : decode M_FG_count.2.1 100 = .ok (.getfield 133, 3) := by decide +kernel
theorem d_FG_count_103 : decode M_FG_count.2.1 103 = .ok (.ireturn, 1) := by decide +kernel
theorem d_FG_count_104 : decode M_FG_count.2.1 104 = .ok (.aload_n 0, 1) := by decide +kernel
theorem d_FG_count_105 : decode M_FG_count.2.1 105 = .ok (.getfield 32, 3) := by decide +kernel
theorem d_FG_count_108 : decode M_FG_count.2.1 108 = .ok (.getfield 126, 3) := by decide +kernel
theorem d_FG_count_111 : decode M_FG_count.2.1 111 = .ok (.ireturn, 1) := by decide +kernel
theorem d_FG_count_112 : decode M_FG_count.2.1 112 = .ok (.aload_n 0, 1) := by decide +kernel
theorem d_FG_count_113 : decode M_FG_count.2.1 113 = .ok (.getfield 236, 3) := by decide +kernel
theorem d_FG_count_116 : decode M_FG_count.2.1 116 = .ok (.ireturn, 1) := by decide +kernel
theorem d_FG_count_117 : decode M_FG_count.2.1 117 = .ok (.aload_n 0, 1) := by decide +kernel
theorem d_FG_count_118 : decode M_FG_count.2.1 118 = .ok (.getfield 19, 3) := by decide +kernel
theorem d_FG_count_121 : decode M_FG_count.2.1 121 = .ok (.getfield 74, 3) := by decide +kernel
theorem d_FG_count_124 : decode M_FG_count.2.1 124 = .ok (.ireturn, 1) := by decide +kernel
theorem d_FG_count_125 : decode M_FG_count.2.1 125 = .ok (.aload_n 0, 1) := by decide +kernel
theorem d_FG_count_126 : decode M_FG_count.2.1 126 = .ok (.getfield 239, 3) := by decide +kernel
theorem d_FG_count_129 : decode M_FG_count.2.1 129 = .ok (.ireturn, 1) := by decide +kernel
theorem d_FG_count_130 : decode M_FG_count.2.1 130 = .ok (.bipush (-2), 2) := by decide +kernel
theorem d_FG_count_132 : decode M_FG_count.2.1 132 = .ok (.ireturn, 1) := by decide +kernel
set_option maxHeartbeats 4000000 in
set_option maxRecDepth 100000 in
theorem ok_FG_count {D : xD} {N : Nat} {l : Launch} {d : Nat} {c x V : T2} {P : Nat → Int32} {ln df : Nat → Option Nat} {rest : List va_E} {K : Option Value → List va_E → Prop} {w : Int32}   (hK : K (some (.int (sp_count c P w))) (encC D N c x (va_up V 0 P) ln df ++ rest)) : Ok D N l (d + 0) M_FG_count [.ref (N + 0), .int w] (encC D N c x (va_up V 0 P) ln df ++ rest) 0 0 K := by
  refine ok_of (L := [(0, _), (1, _)]) (by decide) (Nat.le_of_ble_eq_true rfl) rfl ?_
  refine wp_iload_n (q := 1) d_FG_count_0 rfl rfl ?_
  rcases sw w 9 (by decide) with ⟨k_1, hk_1, e_1⟩ | ⟨hn_1, ho_1⟩
  · subst e_1
    rcases (show k_1 = 0 ∨ k_1 = 1 ∨ k_1 = 2 ∨ k_1 = 3 ∨ k_1 = 4 ∨ k_1 = 5 ∨ k_1 = 6 ∨ k_1 = 7 ∨ k_1 = 8 ∨ k_1 = 9 by omega) with rfl | rfl | rfl | rfl | rfl | rfl | rfl | rfl | rfl | rfl
    · refine wp_tabIn (tgt := 56) d_FG_count_1 (by decide) (by decide) rfl (by decide) ?_
      refine wp_aload_n (q := 57) d_FG_count_56 rfl rfl ?_
      refine wp_get (q := 60) fl_FG_19 d_FG_count_57 rfl rfl rfl ?_
      refine wp_get (q := 63) fl_FG_111 d_FG_count_60 rfl (rdO (w := 0) (by decide)) rfl ?_
      refine wp_iret d_FG_count_63 rfl (Nat.le_refl _) (Nat.le_refl _) ?_
      simp only [sp_count, inn, inb, inm, btw, inn_t (show 0 ≤ 9 by decide), tnl (show 0 ≤ 9 by decide), (show ¬ nI 0 = nI 1 by decide), (show ¬ nI 0 = nI 2 by decide), (show ¬ nI 0 = nI 3 by decide), (show ¬ nI 0 = nI 4 by decide), (show ¬ nI 0 = nI 5 by decide), (show ¬ nI 0 = nI 6 by decide), (show ¬ nI 0 = nI 7 by decide), (show ¬ nI 0 = nI 8 by decide), (show ¬ nI 0 = nI 9 by decide), not_true_eq_false, not_false_eq_true, or_false, false_or, or_true, true_or, and_true, true_and, and_false, false_and, or_self, and_self, if_true, if_false, ite_true, ite_false, eq_self] at hK
      first | exact hK | (simp (disch := omega) only [tput_eq, tput2, tput_ne, upd_eq, upd_ne, ne_eq, va_upeq, va_upne, va_up2, not_true_eq_false, not_false_eq_true, or_false, false_or, or_true, true_or, and_true, true_and, and_false, false_and, or_self, and_self, if_true, if_false, ite_true, ite_false, eq_self] at hK ⊢; exact hK) | (simp (disch := omega) only [tput_eq, tput2, tput_ne, upd_eq, upd_ne, ne_eq, va_upeq, va_upne, va_up2, not_true_eq_false, not_false_eq_true, or_false, false_or, or_true, true_or, and_true, true_and, and_false, false_and, or_self, and_self, if_true, if_false, ite_true, ite_false, eq_self]; exact hK) | (simp (disch := omega) only [tput_eq, tput2, tput_ne, upd_eq, upd_ne, ne_eq, va_upeq, va_upne, va_up2, not_true_eq_false, not_false_eq_true, or_false, false_or, or_true, true_or, and_true, true_and, and_false, false_and, or_self, and_self, if_true, if_false, ite_true, ite_false, eq_self] at hK; exact hK)
    · refine wp_tabIn (tgt := 64) d_FG_count_1 (by decide) (by decide) rfl (by decide) ?_
      refine wp_aload_n (q := 65) d_FG_count_64 rfl rfl ?_
      refine wp_get (q := 68) fl_FG_10 d_FG_count_65 rfl rfl rfl ?_
      refine wp_get (q := 71) fl_FG_224 d_FG_count_68 rfl rfl rfl ?_
      refine wp_iret d_FG_count_71 rfl (Nat.le_refl _) (Nat.le_refl _) ?_
      simp only [sp_count, inn, inb, inm, btw, inn_t (show 1 ≤ 9 by decide), tnl (show 1 ≤ 9 by decide), (show ¬ nI 1 = nI 0 by decide), (show ¬ nI 1 = nI 2 by decide), (show ¬ nI 1 = nI 3 by decide), (show ¬ nI 1 = nI 4 by decide), (show ¬ nI 1 = nI 5 by decide), (show ¬ nI 1 = nI 6 by decide), (show ¬ nI 1 = nI 7 by decide), (show ¬ nI 1 = nI 8 by decide), (show ¬ nI 1 = nI 9 by decide), not_true_eq_false, not_false_eq_true, or_false, false_or, or_true, true_or, and_true, true_and, and_false, false_and, or_self, and_self, if_true, if_false, ite_true, ite_false, eq_self] at hK
      first | exact hK | (simp (disch := omega) only [tput_eq, tput2, tput_ne, upd_eq, upd_ne, ne_eq, va_upeq, va_upne, va_up2, not_true_eq_false, not_false_eq_true, or_false, false_or, or_true, true_or, and_true, true_and, and_false, false_and, or_self, and_self, if_true, if_false, ite_true, ite_false, eq_self] at hK ⊢; exact hK) | (simp (disch := omega) only [tput_eq, tput2, tput_ne, upd_eq, upd_ne, ne_eq, va_upeq, va_upne, va_up2, not_true_eq_false, not_false_eq_true, or_false, false_or, or_true, true_or, and_true, true_and, and_false, false_and, or_self, and_self, if_true, if_false, ite_true, ite_false, eq_self]; exact hK) | (simp (disch := omega) only [tput_eq, tput2, tput_ne, upd_eq, upd_ne, ne_eq, va_upeq, va_upne, va_up2, not_true_eq_false, not_false_eq_true, or_false, false_or, or_true, true_or, and_true, true_and, and_false, false_and, or_self, and_self, if_true, if_false, ite_true, ite_false, eq_self] at hK; exact hK)
    · refine wp_tabIn (tgt := 72) d_FG_count_1 (by decide) (by decide) rfl (by decide) ?_
      refine wp_aload_n (q := 73) d_FG_count_72 rfl rfl ?_
      refine wp_get (q := 76) fl_FG_19 d_FG_count_73 rfl rfl rfl ?_
      refine wp_get (q := 79) fl_FG_227 d_FG_count_76 rfl (rdO (w := 0) (by decide)) rfl ?_
      refine wp_iret d_FG_count_79 rfl (Nat.le_refl _) (Nat.le_refl _) ?_
      simp only [sp_count, inn, inb, inm, btw, inn_t (show 2 ≤ 9 by decide), tnl (show 2 ≤ 9 by decide), (show ¬ nI 2 = nI 0 by decide), (show ¬ nI 2 = nI 1 by decide), (show ¬ nI 2 = nI 3 by decide), (show ¬ nI 2 = nI 4 by decide), (show ¬ nI 2 = nI 5 by decide), (show ¬ nI 2 = nI 6 by decide), (show ¬ nI 2 = nI 7 by decide), (show ¬ nI 2 = nI 8 by decide), (show ¬ nI 2 = nI 9 by decide), not_true_eq_false, not_false_eq_true, or_false, false_or, or_true, true_or, and_true, true_and, and_false, false_and, or_self, and_self, if_true, if_false, ite_true, ite_false, eq_self] at hK
      first | exact hK | (simp (disch := omega) only [tput_eq, tput2, tput_ne, upd_eq, upd_ne, ne_eq, va_upeq, va_upne, va_up2, not_true_eq_false, not_false_eq_true, or_false, false_or, or_true, true_or, and_true, true_and, and_false, false_and, or_self, and_self, if_true, if_false, ite_true, ite_false, eq_self] at hK ⊢; exact hK) | (simp (disch := omega) only [tput_eq, tput2, tput_ne, upd_eq, upd_ne, ne_eq, va_upeq, va_upne, va_up2, not_true_eq_false, not_false_eq_true, or_false, false_or, or_true, true_or, and_true, true_and, and_false, false_and, or_self, and_self, if_true, if_false, ite_true, ite_false, eq_self]; exact hK) | (simp (disch := omega) only [tput_eq, tput2, tput_ne, upd_eq, upd_ne, ne_eq, va_upeq, va_upne, va_up2, not_true_eq_false, not_false_eq_true, or_false, false_or, or_true, true_or, and_true, true_and, and_false, false_and, or_self, and_self, if_true, if_false, ite_true, ite_false, eq_self] at hK; exact hK)
    · refine wp_tabIn (tgt := 80) d_FG_count_1 (by decide) (by decide) rfl (by decide) ?_
      refine wp_aload_n (q := 81) d_FG_count_80 rfl rfl ?_
      refine wp_get (q := 84) fl_FG_19 d_FG_count_81 rfl rfl rfl ?_
      refine wp_get (q := 87) fl_FG_230 d_FG_count_84 rfl (rdO (w := 0) (by decide)) rfl ?_
      refine wp_iret d_FG_count_87 rfl (Nat.le_refl _) (Nat.le_refl _) ?_
      simp only [sp_count, inn, inb, inm, btw, inn_t (show 3 ≤ 9 by decide), tnl (show 3 ≤ 9 by decide), (show ¬ nI 3 = nI 0 by decide), (show ¬ nI 3 = nI 1 by decide), (show ¬ nI 3 = nI 2 by decide), (show ¬ nI 3 = nI 4 by decide), (show ¬ nI 3 = nI 5 by decide), (show ¬ nI 3 = nI 6 by decide), (show ¬ nI 3 = nI 7 by decide), (show ¬ nI 3 = nI 8 by decide), (show ¬ nI 3 = nI 9 by decide), not_true_eq_false, not_false_eq_true, or_false, false_or, or_true, true_or, and_true, true_and, and_false, false_and, or_self, and_self, if_true, if_false, ite_true, ite_false, eq_self] at hK
      first | exact hK | (simp (disch := omega) only [tput_eq, tput2, tput_ne, upd_eq, upd_ne, ne_eq, va_upeq, va_upne, va_up2, not_true_eq_false, not_false_eq_true, or_false, false_or, or_true, true_or, and_true, true_and, and_false, false_and, or_self, and_self, if_true, if_false, ite_true, ite_false, eq_self] at hK ⊢; exact hK) | (simp (disch := omega) only [tput_eq, tput2, tput_ne, upd_eq, upd_ne, ne_eq, va_upeq, va_upne, va_up2, not_true_eq_false, not_false_eq_true, or_false, false_or, or_true, true_or, and_true, true_and, and_false, false_and, or_self, and_self, if_true, if_false, ite_true, ite_false, eq_self]; exact hK) | (simp (disch := omega) only [tput_eq, tput2, tput_ne, upd_eq, upd_ne, ne_eq, va_upeq, va_upne, va_up2, not_true_eq_false, not_false_eq_true, or_false, false_or, or_true, true_or, and_true, true_and, and_false, false_and, or_self, and_self, if_true, if_false, ite_true, ite_false, eq_self] at hK; exact hK)
    · refine wp_tabIn (tgt := 88) d_FG_count_1 (by decide) (by decide) rfl (by decide) ?_
      refine wp_aload_n (q := 89) d_FG_count_88 rfl rfl ?_
      refine wp_get (q := 92) fl_FG_19 d_FG_count_89 rfl rfl rfl ?_
      refine wp_get (q := 95) fl_FG_233 d_FG_count_92 rfl (rdO (w := 0) (by decide)) rfl ?_
      refine wp_iret d_FG_count_95 rfl (Nat.le_refl _) (Nat.le_refl _) ?_
      simp only [sp_count, inn, inb, inm, btw, inn_t (show 4 ≤ 9 by decide), tnl (show 4 ≤ 9 by decide), (show ¬ nI 4 = nI 0 by decide), (show ¬ nI 4 = nI 1 by decide), (show ¬ nI 4 = nI 2 by decide), (show ¬ nI 4 = nI 3 by decide), (show ¬ nI 4 = nI 5 by decide), (show ¬ nI 4 = nI 6 by decide), (show ¬ nI 4 = nI 7 by decide), (show ¬ nI 4 = nI 8 by decide), (show ¬ nI 4 = nI 9 by decide), not_true_eq_false, not_false_eq_true, or_false, false_or, or_true, true_or, and_true, true_and, and_false, false_and, or_self, and_self, if_true, if_false, ite_true, ite_false, eq_self] at hK
      first | exact hK | (simp (disch := omega) only [tput_eq, tput2, tput_ne, upd_eq, upd_ne, ne_eq, va_upeq, va_upne, va_up2, not_true_eq_false, not_false_eq_true, or_false, false_or, or_true, true_or, and_true, true_and, and_false, false_and, or_self, and_self, if_true, if_false, ite_true, ite_false, eq_self] at hK ⊢; exact hK) | (simp (disch := omega) only [tput_eq, tput2, tput_ne, upd_eq, upd_ne, ne_eq, va_upeq, va_upne, va_up2, not_true_eq_false, not_false_eq_true, or_false, false_or, or_true, true_or, and_true, true_and, and_false, false_and, or_self, and_self, if_true, if_false, ite_true, ite_false, eq_self]; exact hK) | (simp (disch := omega) only [tput_eq, tput2, tput_ne, upd_eq, upd_ne, ne_eq, va_upeq, va_upne, va_up2, not_true_eq_false, not_false_eq_true, or_false, false_or, or_true, true_or, and_true, true_and, and_false, false_and, or_self, and_self, if_true, if_false, ite_true, ite_false, eq_self] at hK; exact hK)
    · refine wp_tabIn (tgt := 96) d_FG_count_1 (by decide) (by decide) rfl (by decide) ?_
      refine wp_aload_n (q := 97) d_FG_count_96 rfl rfl ?_
      refine wp_get (q := 100) fl_FG_10 d_FG_count_97 rfl rfl rfl ?_
      refine wp_get (q := 103) fl_FG_133 d_FG_count_100 rfl rfl rfl ?_
      refine wp_iret d_FG_count_103 rfl (Nat.le_refl _) (Nat.le_refl _) ?_
      simp only [sp_count, inn, inb, inm, btw, inn_t (show 5 ≤ 9 by decide), tnl (show 5 ≤ 9 by decide), (show ¬ nI 5 = nI 0 by decide), (show ¬ nI 5 = nI 1 by decide), (show ¬ nI 5 = nI 2 by decide), (show ¬ nI 5 = nI 3 by decide), (show ¬ nI 5 = nI 4 by decide), (show ¬ nI 5 = nI 6 by decide), (show ¬ nI 5 = nI 7 by decide), (show ¬ nI 5 = nI 8 by decide), (show ¬ nI 5 = nI 9 by decide), not_true_eq_false, not_false_eq_true, or_false, false_or, or_true, true_or, and_true, true_and, and_false, false_and, or_self, and_self, if_true, if_false, ite_true, ite_false, eq_self] at hK
      first | exact hK | (simp (disch := omega) only [tput_eq, tput2, tput_ne, upd_eq, upd_ne, ne_eq, va_upeq, va_upne, va_up2, not_true_eq_false, not_false_eq_true, or_false, false_or, or_true, true_or, and_true, true_and, and_false, false_and, or_self, and_self, if_true, if_false, ite_true, ite_false, eq_self] at hK ⊢; exact hK) | (simp (disch := omega) only [tput_eq, tput2, tput_ne, upd_eq, upd_ne, ne_eq, va_upeq, va_upne, va_up2, not_true_eq_false, not_false_eq_true, or_false, false_or, or_true, true_or, and_true, true_and, and_false, false_and, or_self, and_self, if_true, if_false, ite_true, ite_false, eq_self]; exact hK) | (simp (disch := omega) only [tput_eq, tput2, tput_ne, upd_eq, upd_ne, ne_eq, va_upeq, va_upne, va_up2, not_true_eq_false, not_false_eq_true, or_false, false_or, or_true, true_or, and_true, true_and, and_false, false_and, or_self, and_self, if_true, if_false, ite_true, ite_false, eq_self] at hK; exact hK)
    · refine wp_tabIn (tgt := 104) d_FG_count_1 (by decide) (by decide) rfl (by decide) ?_
      refine wp_aload_n (q := 105) d_FG_count_104 rfl rfl ?_
      refine wp_get (q := 108) fl_FG_32 d_FG_count_105 rfl rfl rfl ?_
      refine wp_get (q := 111) fl_FG_126 d_FG_count_108 rfl rfl rfl ?_
      refine wp_iret d_FG_count_111 rfl (Nat.le_refl _) (Nat.le_refl _) ?_
      simp only [sp_count, inn, inb, inm, btw, inn_t (show 6 ≤ 9 by decide), tnl (show 6 ≤ 9 by decide), (show ¬ nI 6 = nI 0 by decide), (show ¬ nI 6 = nI 1 by decide), (show ¬ nI 6 = nI 2 by decide), (show ¬ nI 6 = nI 3 by decide), (show ¬ nI 6 = nI 4 by decide), (show ¬ nI 6 = nI 5 by decide), (show ¬ nI 6 = nI 7 by decide), (show ¬ nI 6 = nI 8 by decide), (show ¬ nI 6 = nI 9 by decide), not_true_eq_false, not_false_eq_true, or_false, false_or, or_true, true_or, and_true, true_and, and_false, false_and, or_self, and_self, if_true, if_false, ite_true, ite_false, eq_self] at hK
      first | exact hK | (simp (disch := omega) only [tput_eq, tput2, tput_ne, upd_eq, upd_ne, ne_eq, va_upeq, va_upne, va_up2, not_true_eq_false, not_false_eq_true, or_false, false_or, or_true, true_or, and_true, true_and, and_false, false_and, or_self, and_self, if_true, if_false, ite_true, ite_false, eq_self] at hK ⊢; exact hK) | (simp (disch := omega) only [tput_eq, tput2, tput_ne, upd_eq, upd_ne, ne_eq, va_upeq, va_upne, va_up2, not_true_eq_false, not_false_eq_true, or_false, false_or, or_true, true_or, and_true, true_and, and_false, false_and, or_self, and_self, if_true, if_false, ite_true, ite_false, eq_self]; exact hK) | (simp (disch := omega) only [tput_eq, tput2, tput_ne, upd_eq, upd_ne, ne_eq, va_upeq, va_upne, va_up2, not_true_eq_false, not_false_eq_true, or_false, false_or, or_true, true_or, and_true, true_and, and_false, false_and, or_self, and_self, if_true, if_false, ite_true, ite_false, eq_self] at hK; exact hK)
    · refine wp_tabIn (tgt := 112) d_FG_count_1 (by decide) (by decide) rfl (by decide) ?_
      refine wp_aload_n (q := 113) d_FG_count_112 rfl rfl ?_
      refine wp_get (q := 116) fl_FG_236 d_FG_count_113 rfl rfl rfl ?_
      refine wp_iret d_FG_count_116 rfl (Nat.le_refl _) (Nat.le_refl _) ?_
      simp only [sp_count, inn, inb, inm, btw, inn_t (show 7 ≤ 9 by decide), tnl (show 7 ≤ 9 by decide), (show ¬ nI 7 = nI 0 by decide), (show ¬ nI 7 = nI 1 by decide), (show ¬ nI 7 = nI 2 by decide), (show ¬ nI 7 = nI 3 by decide), (show ¬ nI 7 = nI 4 by decide), (show ¬ nI 7 = nI 5 by decide), (show ¬ nI 7 = nI 6 by decide), (show ¬ nI 7 = nI 8 by decide), (show ¬ nI 7 = nI 9 by decide), not_true_eq_false, not_false_eq_true, or_false, false_or, or_true, true_or, and_true, true_and, and_false, false_and, or_self, and_self, if_true, if_false, ite_true, ite_false, eq_self] at hK
      first | exact hK | (simp (disch := omega) only [tput_eq, tput2, tput_ne, upd_eq, upd_ne, ne_eq, va_upeq, va_upne, va_up2, not_true_eq_false, not_false_eq_true, or_false, false_or, or_true, true_or, and_true, true_and, and_false, false_and, or_self, and_self, if_true, if_false, ite_true, ite_false, eq_self] at hK ⊢; exact hK) | (simp (disch := omega) only [tput_eq, tput2, tput_ne, upd_eq, upd_ne, ne_eq, va_upeq, va_upne, va_up2, not_true_eq_false, not_false_eq_true, or_false, false_or, or_true, true_or, and_true, true_and, and_false, false_and, or_self, and_self, if_true, if_false, ite_true, ite_false, eq_self]; exact hK) | (simp (disch := omega) only [tput_eq, tput2, tput_ne, upd_eq, upd_ne, ne_eq, va_upeq, va_upne, va_up2, not_true_eq_false, not_false_eq_true, or_false, false_or, or_true, true_or, and_true, true_and, and_false, false_and, or_self, and_self, if_true, if_false, ite_true, ite_false, eq_self] at hK; exact hK)
    · refine wp_tabIn (tgt := 117) d_FG_count_1 (by decide) (by decide) rfl (by decide) ?_
      refine wp_aload_n (q := 118) d_FG_count_117 rfl rfl ?_
      refine wp_get (q := 121) fl_FG_19 d_FG_count_118 rfl rfl rfl ?_
      refine wp_get (q := 124) fl_FG_74 d_FG_count_121 rfl (rdO (w := 0) (by decide)) rfl ?_
      refine wp_iret d_FG_count_124 rfl (Nat.le_refl _) (Nat.le_refl _) ?_
      simp only [sp_count, inn, inb, inm, btw, inn_t (show 8 ≤ 9 by decide), tnl (show 8 ≤ 9 by decide), (show ¬ nI 8 = nI 0 by decide), (show ¬ nI 8 = nI 1 by decide), (show ¬ nI 8 = nI 2 by decide), (show ¬ nI 8 = nI 3 by decide), (show ¬ nI 8 = nI 4 by decide), (show ¬ nI 8 = nI 5 by decide), (show ¬ nI 8 = nI 6 by decide), (show ¬ nI 8 = nI 7 by decide), (show ¬ nI 8 = nI 9 by decide), not_true_eq_false, not_false_eq_true, or_false, false_or, or_true, true_or, and_true, true_and, and_false, false_and, or_self, and_self, if_true, if_false, ite_true, ite_false, eq_self] at hK
      first | exact hK | (simp (disch := omega) only [tput_eq, tput2, tput_ne, upd_eq, upd_ne, ne_eq, va_upeq, va_upne, va_up2, not_true_eq_false, not_false_eq_true, or_false, false_or, or_true, true_or, and_true, true_and, and_false, false_and, or_self, and_self, if_true, if_false, ite_true, ite_false, eq_self] at hK ⊢; exact hK) | (simp (disch := omega) only [tput_eq, tput2, tput_ne, upd_eq, upd_ne, ne_eq, va_upeq, va_upne, va_up2, not_true_eq_false, not_false_eq_true, or_false, false_or, or_true, true_or, and_true, true_and, and_false, false_and, or_self, and_self, if_true, if_false, ite_true, ite_false, eq_self]; exact hK) | (simp (disch := omega) only [tput_eq, tput2, tput_ne, upd_eq, upd_ne, ne_eq, va_upeq, va_upne, va_up2, not_true_eq_false, not_false_eq_true, or_false, false_or, or_true, true_or, and_true, true_and, and_false, false_and, or_self, and_self, if_true, if_false, ite_true, ite_false, eq_self] at hK; exact hK)
    · refine wp_tabIn (tgt := 125) d_FG_count_1 (by decide) (by decide) rfl (by decide) ?_
      refine wp_aload_n (q := 126) d_FG_count_125 rfl rfl ?_
      refine wp_get (q := 129) fl_FG_239 d_FG_count_126 rfl rfl rfl ?_
      refine wp_iret d_FG_count_129 rfl (Nat.le_refl _) (Nat.le_refl _) ?_
      simp only [sp_count, inn, inb, inm, btw, inn_t (show 9 ≤ 9 by decide), tnl (show 9 ≤ 9 by decide), (show ¬ nI 9 = nI 0 by decide), (show ¬ nI 9 = nI 1 by decide), (show ¬ nI 9 = nI 2 by decide), (show ¬ nI 9 = nI 3 by decide), (show ¬ nI 9 = nI 4 by decide), (show ¬ nI 9 = nI 5 by decide), (show ¬ nI 9 = nI 6 by decide), (show ¬ nI 9 = nI 7 by decide), (show ¬ nI 9 = nI 8 by decide), not_true_eq_false, not_false_eq_true, or_false, false_or, or_true, true_or, and_true, true_and, and_false, false_and, or_self, and_self, if_true, if_false, ite_true, ite_false, eq_self] at hK
      first | exact hK | (simp (disch := omega) only [tput_eq, tput2, tput_ne, upd_eq, upd_ne, ne_eq, va_upeq, va_upne, va_up2, not_true_eq_false, not_false_eq_true, or_false, false_or, or_true, true_or, and_true, true_and, and_false, false_and, or_self, and_self, if_true, if_false, ite_true, ite_false, eq_self] at hK ⊢; exact hK) | (simp (disch := omega) only [tput_eq, tput2, tput_ne, upd_eq, upd_ne, ne_eq, va_upeq, va_upne, va_up2, not_true_eq_false, not_false_eq_true, or_false, false_or, or_true, true_or, and_true, true_and, and_false, false_and, or_self, and_self, if_true, if_false, ite_true, ite_false, eq_self]; exact hK) | (simp (disch := omega) only [tput_eq, tput2, tput_ne, upd_eq, upd_ne, ne_eq, va_upeq, va_upne, va_up2, not_true_eq_false, not_false_eq_true, or_false, false_or, or_true, true_or, and_true, true_and, and_false, false_and, or_self, and_self, if_true, if_false, ite_true, ite_false, eq_self] at hK; exact hK)
  · refine wp_tabOut (tgt := 130) d_FG_count_1 ho_1 (by decide) ?_
    refine wp_bipush (q := 132) d_FG_count_130 rfl bp_m2 ?_
    refine wp_iret d_FG_count_132 rfl (Nat.le_refl _) (Nat.le_refl _) ?_
    simp only [sp_count, inn, inb, inm, btw, hn_1, not_true_eq_false, not_false_eq_true, or_false, false_or, or_true, true_or, and_true, true_and, and_false, false_and, or_self, and_self, if_true, if_false, ite_true, ite_false, eq_self] at hK
    first | exact hK | (simp (disch := omega) only [tput_eq, tput2, tput_ne, upd_eq, upd_ne, ne_eq, va_upeq, va_upne, va_up2, not_true_eq_false, not_false_eq_true, or_false, false_or, or_true, true_or, and_true, true_and, and_false, false_and, or_self, and_self, if_true, if_false, ite_true, ite_false, eq_self] at hK ⊢; exact hK) | (simp (disch := omega) only [tput_eq, tput2, tput_ne, upd_eq, upd_ne, ne_eq, va_upeq, va_upne, va_up2, not_true_eq_false, not_false_eq_true, or_false, false_or, or_true, true_or, and_true, true_and, and_false, false_and, or_self, and_self, if_true, if_false, ite_true, ite_false, eq_self]; exact hK) | (simp (disch := omega) only [tput_eq, tput2, tput_ne, upd_eq, upd_ne, ne_eq, va_upeq, va_upne, va_up2, not_true_eq_false, not_false_eq_true, or_false, false_or, or_true, true_or, and_true, true_and, and_false, false_and, or_self, and_self, if_true, if_false, ite_true, ite_false, eq_self] at hK; exact hK)
theorem d_Rf_count_0 : decode M_Rf_count.2.1 0 = .ok (.iload_n 1, 1) := by decide +kernel
theorem d_Rf_count_1 : decode M_Rf_count.2.1 1 = .ok (.tableswitch 125 0 9 #[55, 64, 69, 78, 87, 96, 101, 106, 111, 120], 55) := by decide +kernel
theorem d_Rf_count_56 : decode M_Rf_count.2.1 56 = .ok (.aload_n 0, 1) := by decide +kernel
theorem d_Rf_count_57 : decode M_Rf_count.2.1 57 = .ok (.getfield 7, 3) := by decide +kernel
theorem d_Rf_count_60 : decode M_Rf_count.2.1 60 = .ok (.sipush 234, 3) := by decide +kernel
theorem d_Rf_count_63 : decode M_Rf_count.2.1 63 = .ok (.iaload, 1) := by decide +kernel
theorem d_Rf_count_64 : decode M_Rf_count.2.1 64 = .ok (.ireturn, 1) := by decide +kernel
theorem d_Rf_count_65 : decode M_Rf_count.2.1 65 = .ok (.aload_n 0, 1) := by decide +kernel
theorem d_Rf_count_66 : decode M_Rf_count.2.1 66 = .ok (.getfield 155, 3) := by decide +kernel
theorem d_Rf_count_69 : decode M_Rf_count.2.1 69 = .ok (.ireturn, 1) := by decide +kernel
theorem d_Rf_count_70 : decode M_Rf_count.2.1 70 = .ok (.aload_n 0, 1) := by decide +kernel
theorem d_Rf_count_71 : decode M_Rf_count.2.1 71 = .ok (.getfield 7, 3) := by decide +kernel
theorem d_Rf_count_74 : decode M_Rf_count.2.1 74 = .ok (.sipush 236, 3) := by decide +kernel
theorem d_Rf_count_77 : decode M_Rf_count.2.1 77 = .ok (.iaload, 1) := by decide +kernel
theorem d_Rf_count_78 : decode M_Rf_count.2.1 78 = .ok (.ireturn, 1) := by decide +kernel
theorem d_Rf_count_79 : decode M_Rf_count.2.1 79 = .ok (.aload_n 0, 1) := by decide +kernel
theorem d_Rf_count_80 : decode M_Rf_count.2.1 80 = .ok (.getfield 7, 3) := by decide +kernel
theorem d_Rf_count_83 : decode M_Rf_count.2.1 83 = .ok (.sipush 237, 3) := by decide +kernel
theorem d_Rf_count_86 : decode M_Rf_count.2.1 86 = .ok (.iaload, 1) := by decide +kernel
theorem d_Rf_count_87 : decode M_Rf_count.2.1 87 = .ok (.ireturn, 1) := by decide +kernel
theorem d_Rf_count_88 : decode M_Rf_count.2.1 88 = .ok (.aload_n 0, 1) := by decide +kernel
theorem d_Rf_count_89 : decode M_Rf_count.2.1 89 = .ok (.getfield 7, 3) := by decide +kernel
theorem d_Rf_count_92 : decode M_Rf_count.2.1 92 = .ok (.sipush 238, 3) := by decide +kernel
theorem d_Rf_count_95 : decode M_Rf_count.2.1 95 = .ok (.iaload, 1) := by decide +kernel
theorem d_Rf_count_96 : decode M_Rf_count.2.1 96 = .ok (.ireturn, 1) := by decide +kernel
theorem d_Rf_count_97 : decode M_Rf_count.2.1 97 = .ok (.aload_n 0, 1) := by decide +kernel
theorem d_Rf_count_98 : decode M_Rf_count.2.1 98 = .ok (.getfield 211, 3) := by decide +kernel
theorem d_Rf_count_101 : decode M_Rf_count.2.1 101 = .ok (.ireturn, 1) := by decide +kernel
theorem d_Rf_count_102 : decode M_Rf_count.2.1 102 = .ok (.aload_n 0, 1) := by decide +kernel
theorem d_Rf_count_103 : decode M_Rf_count.2.1 103 = .ok (.getfield 191, 3) := by decide +kernel
theorem d_Rf_count_106 : decode M_Rf_count.2.1 106 = .ok (.ireturn, 1) := by decide +kernel
theorem d_Rf_count_107 : decode M_Rf_count.2.1 107 = .ok (.aload_n 0, 1) := by decide +kernel
theorem d_Rf_count_108 : decode M_Rf_count.2.1 108 = .ok (.getfield 264, 3) := by decide +kernel
theorem d_Rf_count_111 : decode M_Rf_count.2.1 111 = .ok (.ireturn, 1) := by decide +kernel
theorem d_Rf_count_112 : decode M_Rf_count.2.1 112 = .ok (.aload_n 0, 1) := by decide +kernel
theorem d_Rf_count_113 : decode M_Rf_count.2.1 113 = .ok (.getfield 7, 3) := by decide +kernel
theorem d_Rf_count_116 : decode M_Rf_count.2.1 116 = .ok (.sipush 235, 3) := by decide +kernel
theorem d_Rf_count_119 : decode M_Rf_count.2.1 119 = .ok (.iaload, 1) := by decide +kernel
theorem d_Rf_count_120 : decode M_Rf_count.2.1 120 = .ok (.ireturn, 1) := by decide +kernel
theorem d_Rf_count_121 : decode M_Rf_count.2.1 121 = .ok (.aload_n 0, 1) := by decide +kernel
theorem d_Rf_count_122 : decode M_Rf_count.2.1 122 = .ok (.getfield 267, 3) := by decide +kernel
theorem d_Rf_count_125 : decode M_Rf_count.2.1 125 = .ok (.ireturn, 1) := by decide +kernel
theorem d_Rf_count_126 : decode M_Rf_count.2.1 126 = .ok (.bipush (-2), 2) := by decide +kernel
theorem d_Rf_count_128 : decode M_Rf_count.2.1 128 = .ok (.ireturn, 1) := by decide +kernel
set_option maxHeartbeats 4000000 in
set_option maxRecDepth 100000 in
theorem ok_Rf_count {D : xD} {N : Nat} {l : Launch} {d : Nat} {c z : T2} {P Q : Nat → Int32} {rest : List va_E} {K : Option Value → List va_E → Prop} {w : Int32}   (hK : K (some (.int (sp_count c P w))) (encR D N c z P Q ++ rest)) : Ok D N l (d + 0) M_Rf_count [.ref (N + 0), .int w] (encR D N c z P Q ++ rest) 0 0 K := by
  refine ok_of (L := [(0, _), (1, _)]) (by decide) (Nat.le_of_ble_eq_true rfl) rfl ?_
  refine wp_iload_n (q := 1) d_Rf_count_0 rfl rfl ?_
  rcases sw w 9 (by decide) with ⟨k_1, hk_1, e_1⟩ | ⟨hn_1, ho_1⟩
  · subst e_1
    rcases (show k_1 = 0 ∨ k_1 = 1 ∨ k_1 = 2 ∨ k_1 = 3 ∨ k_1 = 4 ∨ k_1 = 5 ∨ k_1 = 6 ∨ k_1 = 7 ∨ k_1 = 8 ∨ k_1 = 9 by omega) with rfl | rfl | rfl | rfl | rfl | rfl | rfl | rfl | rfl | rfl
    · refine wp_tabIn (tgt := 56) d_Rf_count_1 (by decide) (by decide) rfl (by decide) ?_
      refine wp_aload_n (q := 57) d_Rf_count_56 rfl rfl ?_
      refine wp_get (q := 60) fl_Rf_7 d_Rf_count_57 rfl rfl rfl ?_
      refine wp_sipush (q := 63) d_Rf_count_60 rfl sp_234 ?_
      refine wp_iald (q := 64) d_Rf_count_63 rfl (rfl) (by omega) (by decide) ?_
      refine wp_iret d_Rf_count_64 rfl (Nat.le_refl _) (Nat.le_refl _) ?_
      simp only [sp_count, inn, inb, inm, btw, inn_t (show 0 ≤ 9 by decide), tnl (show 0 ≤ 9 by decide), (show ¬ nI 0 = nI 1 by decide), (show ¬ nI 0 = nI 2 by decide), (show ¬ nI 0 = nI 3 by decide), (show ¬ nI 0 = nI 4 by decide), (show ¬ nI 0 = nI 5 by decide), (show ¬ nI 0 = nI 6 by decide), (show ¬ nI 0 = nI 7 by decide), (show ¬ nI 0 = nI 8 by decide), (show ¬ nI 0 = nI 9 by decide), not_true_eq_false, not_false_eq_true, or_false, false_or, or_true, true_or, and_true, true_and, and_false, false_and, or_self, and_self, if_true, if_false, ite_true, ite_false, eq_self] at hK
      first | exact hK | (simp (disch := omega) only [tput_eq, tput2, tput_ne, upd_eq, upd_ne, ne_eq, va_upeq, va_upne, va_up2, not_true_eq_false, not_false_eq_true, or_false, false_or, or_true, true_or, and_true, true_and, and_false, false_and, or_self, and_self, if_true, if_false, ite_true, ite_false, eq_self] at hK ⊢; exact hK) | (simp (disch := omega) only [tput_eq, tput2, tput_ne, upd_eq, upd_ne, ne_eq, va_upeq, va_upne, va_up2, not_true_eq_false, not_false_eq_true, or_false, false_or, or_true, true_or, and_true, true_and, and_false, false_and, or_self, and_self, if_true, if_false, ite_true, ite_false, eq_self]; exact hK) | (simp (disch := omega) only [tput_eq, tput2, tput_ne, upd_eq, upd_ne, ne_eq, va_upeq, va_upne, va_up2, not_true_eq_false, not_false_eq_true, or_false, false_or, or_true, true_or, and_true, true_and, and_false, false_and, or_self, and_self, if_true, if_false, ite_true, ite_false, eq_self] at hK; exact hK)
    · refine wp_tabIn (tgt := 65) d_Rf_count_1 (by decide) (by decide) rfl (by decide) ?_
      refine wp_aload_n (q := 66) d_Rf_count_65 rfl rfl ?_
      refine wp_get (q := 69) fl_Rf_155 d_Rf_count_66 rfl rfl rfl ?_
      refine wp_iret d_Rf_count_69 rfl (Nat.le_refl _) (Nat.le_refl _) ?_
      simp only [sp_count, inn, inb, inm, btw, inn_t (show 1 ≤ 9 by decide), tnl (show 1 ≤ 9 by decide), (show ¬ nI 1 = nI 0 by decide), (show ¬ nI 1 = nI 2 by decide), (show ¬ nI 1 = nI 3 by decide), (show ¬ nI 1 = nI 4 by decide), (show ¬ nI 1 = nI 5 by decide), (show ¬ nI 1 = nI 6 by decide), (show ¬ nI 1 = nI 7 by decide), (show ¬ nI 1 = nI 8 by decide), (show ¬ nI 1 = nI 9 by decide), not_true_eq_false, not_false_eq_true, or_false, false_or, or_true, true_or, and_true, true_and, and_false, false_and, or_self, and_self, if_true, if_false, ite_true, ite_false, eq_self] at hK
      first | exact hK | (simp (disch := omega) only [tput_eq, tput2, tput_ne, upd_eq, upd_ne, ne_eq, va_upeq, va_upne, va_up2, not_true_eq_false, not_false_eq_true, or_false, false_or, or_true, true_or, and_true, true_and, and_false, false_and, or_self, and_self, if_true, if_false, ite_true, ite_false, eq_self] at hK ⊢; exact hK) | (simp (disch := omega) only [tput_eq, tput2, tput_ne, upd_eq, upd_ne, ne_eq, va_upeq, va_upne, va_up2, not_true_eq_false, not_false_eq_true, or_false, false_or, or_true, true_or, and_true, true_and, and_false, false_and, or_self, and_self, if_true, if_false, ite_true, ite_false, eq_self]; exact hK) | (simp (disch := omega) only [tput_eq, tput2, tput_ne, upd_eq, upd_ne, ne_eq, va_upeq, va_upne, va_up2, not_true_eq_false, not_false_eq_true, or_false, false_or, or_true, true_or, and_true, true_and, and_false, false_and, or_self, and_self, if_true, if_false, ite_true, ite_false, eq_self] at hK; exact hK)
    · refine wp_tabIn (tgt := 70) d_Rf_count_1 (by decide) (by decide) rfl (by decide) ?_
      refine wp_aload_n (q := 71) d_Rf_count_70 rfl rfl ?_
      refine wp_get (q := 74) fl_Rf_7 d_Rf_count_71 rfl rfl rfl ?_
      refine wp_sipush (q := 77) d_Rf_count_74 rfl sp_236 ?_
      refine wp_iald (q := 78) d_Rf_count_77 rfl (rfl) (by omega) (by decide) ?_
      refine wp_iret d_Rf_count_78 rfl (Nat.le_refl _) (Nat.le_refl _) ?_
      simp only [sp_count, inn, inb, inm, btw, inn_t (show 2 ≤ 9 by decide), tnl (show 2 ≤ 9 by decide), (show ¬ nI 2 = nI 0 by decide), (show ¬ nI 2 = nI 1 by decide), (show ¬ nI 2 = nI 3 by decide), (show ¬ nI 2 = nI 4 by decide), (show ¬ nI 2 = nI 5 by decide), (show ¬ nI 2 = nI 6 by decide), (show ¬ nI 2 = nI 7 by decide), (show ¬ nI 2 = nI 8 by decide), (show ¬ nI 2 = nI 9 by decide), not_true_eq_false, not_false_eq_true, or_false, false_or, or_true, true_or, and_true, true_and, and_false, false_and, or_self, and_self, if_true, if_false, ite_true, ite_false, eq_self] at hK
      first | exact hK | (simp (disch := omega) only [tput_eq, tput2, tput_ne, upd_eq, upd_ne, ne_eq, va_upeq, va_upne, va_up2, not_true_eq_false, not_false_eq_true, or_false, false_or, or_true, true_or, and_true, true_and, and_false, false_and, or_self, and_self, if_true, if_false, ite_true, ite_false, eq_self] at hK ⊢; exact hK) | (simp (disch := omega) only [tput_eq, tput2, tput_ne, upd_eq, upd_ne, ne_eq, va_upeq, va_upne, va_up2, not_true_eq_false, not_false_eq_true, or_false, false_or, or_true, true_or, and_true, true_and, and_false, false_and, or_self, and_self, if_true, if_false, ite_true, ite_false, eq_self]; exact hK) | (simp (disch := omega) only [tput_eq, tput2, tput_ne, upd_eq, upd_ne, ne_eq, va_upeq, va_upne, va_up2, not_true_eq_false, not_false_eq_true, or_false, false_or, or_true, true_or, and_true, true_and, and_false, false_and, or_self, and_self, if_true, if_false, ite_true, ite_false, eq_self] at hK; exact hK)
    · refine wp_tabIn (tgt := 79) d_Rf_count_1 (by decide) (by decide) rfl (by decide) ?_
      refine wp_aload_n (q := 80) d_Rf_count_79 rfl rfl ?_
      refine wp_get (q := 83) fl_Rf_7 d_Rf_count_80 rfl rfl rfl ?_
      refine wp_sipush (q := 86) d_Rf_count_83 rfl sp_237 ?_
      refine wp_iald (q := 87) d_Rf_count_86 rfl (rfl) (by omega) (by decide) ?_
      refine wp_iret d_Rf_count_87 rfl (Nat.le_refl _) (Nat.le_refl _) ?_
      simp only [sp_count, inn, inb, inm, btw, inn_t (show 3 ≤ 9 by decide), tnl (show 3 ≤ 9 by decide), (show ¬ nI 3 = nI 0 by decide), (show ¬ nI 3 = nI 1 by decide), (show ¬ nI 3 = nI 2 by decide), (show ¬ nI 3 = nI 4 by decide), (show ¬ nI 3 = nI 5 by decide), (show ¬ nI 3 = nI 6 by decide), (show ¬ nI 3 = nI 7 by decide), (show ¬ nI 3 = nI 8 by decide), (show ¬ nI 3 = nI 9 by decide), not_true_eq_false, not_false_eq_true, or_false, false_or, or_true, true_or, and_true, true_and, and_false, false_and, or_self, and_self, if_true, if_false, ite_true, ite_false, eq_self] at hK
      first | exact hK | (simp (disch := omega) only [tput_eq, tput2, tput_ne, upd_eq, upd_ne, ne_eq, va_upeq, va_upne, va_up2, not_true_eq_false, not_false_eq_true, or_false, false_or, or_true, true_or, and_true, true_and, and_false, false_and, or_self, and_self, if_true, if_false, ite_true, ite_false, eq_self] at hK ⊢; exact hK) | (simp (disch := omega) only [tput_eq, tput2, tput_ne, upd_eq, upd_ne, ne_eq, va_upeq, va_upne, va_up2, not_true_eq_false, not_false_eq_true, or_false, false_or, or_true, true_or, and_true, true_and, and_false, false_and, or_self, and_self, if_true, if_false, ite_true, ite_false, eq_self]; exact hK) | (simp (disch := omega) only [tput_eq, tput2, tput_ne, upd_eq, upd_ne, ne_eq, va_upeq, va_upne, va_up2, not_true_eq_false, not_false_eq_true, or_false, false_or, or_true, true_or, and_true, true_and, and_false, false_and, or_self, and_self, if_true, if_false, ite_true, ite_false, eq_self] at hK; exact hK)
    · refine wp_tabIn (tgt := 88) d_Rf_count_1 (by decide) (by decide) rfl (by decide) ?_
      refine wp_aload_n (q := 89) d_Rf_count_88 rfl rfl ?_
      refine wp_get (q := 92) fl_Rf_7 d_Rf_count_89 rfl rfl rfl ?_
      refine wp_sipush (q := 95) d_Rf_count_92 rfl sp_238 ?_
      refine wp_iald (q := 96) d_Rf_count_95 rfl (rfl) (by omega) (by decide) ?_
      refine wp_iret d_Rf_count_96 rfl (Nat.le_refl _) (Nat.le_refl _) ?_
      simp only [sp_count, inn, inb, inm, btw, inn_t (show 4 ≤ 9 by decide), tnl (show 4 ≤ 9 by decide), (show ¬ nI 4 = nI 0 by decide), (show ¬ nI 4 = nI 1 by decide), (show ¬ nI 4 = nI 2 by decide), (show ¬ nI 4 = nI 3 by decide), (show ¬ nI 4 = nI 5 by decide), (show ¬ nI 4 = nI 6 by decide), (show ¬ nI 4 = nI 7 by decide), (show ¬ nI 4 = nI 8 by decide), (show ¬ nI 4 = nI 9 by decide), not_true_eq_false, not_false_eq_true, or_false, false_or, or_true, true_or, and_true, true_and, and_false, false_and, or_self, and_self, if_true, if_false, ite_true, ite_false, eq_self] at hK
      first | exact hK | (simp (disch := omega) only [tput_eq, tput2, tput_ne, upd_eq, upd_ne, ne_eq, va_upeq, va_upne, va_up2, not_true_eq_false, not_false_eq_true, or_false, false_or, or_true, true_or, and_true, true_and, and_false, false_and, or_self, and_self, if_true, if_false, ite_true, ite_false, eq_self] at hK ⊢; exact hK) | (simp (disch := omega) only [tput_eq, tput2, tput_ne, upd_eq, upd_ne, ne_eq, va_upeq, va_upne, va_up2, not_true_eq_false, not_false_eq_true, or_false, false_or, or_true, true_or, and_true, true_and, and_false, false_and, or_self, and_self, if_true, if_false, ite_true, ite_false, eq_self]; exact hK) | (simp (disch := omega) only [tput_eq, tput2, tput_ne, upd_eq, upd_ne, ne_eq, va_upeq, va_upne, va_up2, not_true_eq_false, not_false_eq_true, or_false, false_or, or_true, true_or, and_true, true_and, and_false, false_and, or_self, and_self, if_true, if_false, ite_true, ite_false, eq_self] at hK; exact hK)
    · refine wp_tabIn (tgt := 97) d_Rf_count_1 (by decide) (by decide) rfl (by decide) ?_
      refine wp_aload_n (q := 98) d_Rf_count_97 rfl rfl ?_
      refine wp_get (q := 101) fl_Rf_211 d_Rf_count_98 rfl rfl rfl ?_
      refine wp_iret d_Rf_count_101 rfl (Nat.le_refl _) (Nat.le_refl _) ?_
      simp only [sp_count, inn, inb, inm, btw, inn_t (show 5 ≤ 9 by decide), tnl (show 5 ≤ 9 by decide), (show ¬ nI 5 = nI 0 by decide), (show ¬ nI 5 = nI 1 by decide), (show ¬ nI 5 = nI 2 by decide), (show ¬ nI 5 = nI 3 by decide), (show ¬ nI 5 = nI 4 by decide), (show ¬ nI 5 = nI 6 by decide), (show ¬ nI 5 = nI 7 by decide), (show ¬ nI 5 = nI 8 by decide), (show ¬ nI 5 = nI 9 by decide), not_true_eq_false, not_false_eq_true, or_false, false_or, or_true, true_or, and_true, true_and, and_false, false_and, or_self, and_self, if_true, if_false, ite_true, ite_false, eq_self] at hK
      first | exact hK | (simp (disch := omega) only [tput_eq, tput2, tput_ne, upd_eq, upd_ne, ne_eq, va_upeq, va_upne, va_up2, not_true_eq_false, not_false_eq_true, or_false, false_or, or_true, true_or, and_true, true_and, and_false, false_and, or_self, and_self, if_true, if_false, ite_true, ite_false, eq_self] at hK ⊢; exact hK) | (simp (disch := omega) only [tput_eq, tput2, tput_ne, upd_eq, upd_ne, ne_eq, va_upeq, va_upne, va_up2, not_true_eq_false, not_false_eq_true, or_false, false_or, or_true, true_or, and_true, true_and, and_false, false_and, or_self, and_self, if_true, if_false, ite_true, ite_false, eq_self]; exact hK) | (simp (disch := omega) only [tput_eq, tput2, tput_ne, upd_eq, upd_ne, ne_eq, va_upeq, va_upne, va_up2, not_true_eq_false, not_false_eq_true, or_false, false_or, or_true, true_or, and_true, true_and, and_false, false_and, or_self, and_self, if_true, if_false, ite_true, ite_false, eq_self] at hK; exact hK)
    · refine wp_tabIn (tgt := 102) d_Rf_count_1 (by decide) (by decide) rfl (by decide) ?_
      refine wp_aload_n (q := 103) d_Rf_count_102 rfl rfl ?_
      refine wp_get (q := 106) fl_Rf_191 d_Rf_count_103 rfl rfl rfl ?_
      refine wp_iret d_Rf_count_106 rfl (Nat.le_refl _) (Nat.le_refl _) ?_
      simp only [sp_count, inn, inb, inm, btw, inn_t (show 6 ≤ 9 by decide), tnl (show 6 ≤ 9 by decide), (show ¬ nI 6 = nI 0 by decide), (show ¬ nI 6 = nI 1 by decide), (show ¬ nI 6 = nI 2 by decide), (show ¬ nI 6 = nI 3 by decide), (show ¬ nI 6 = nI 4 by decide), (show ¬ nI 6 = nI 5 by decide), (show ¬ nI 6 = nI 7 by decide), (show ¬ nI 6 = nI 8 by decide), (show ¬ nI 6 = nI 9 by decide), not_true_eq_false, not_false_eq_true, or_false, false_or, or_true, true_or, and_true, true_and, and_false, false_and, or_self, and_self, if_true, if_false, ite_true, ite_false, eq_self] at hK
      first | exact hK | (simp (disch := omega) only [tput_eq, tput2, tput_ne, upd_eq, upd_ne, ne_eq, va_upeq, va_upne, va_up2, not_true_eq_false, not_false_eq_true, or_false, false_or, or_true, true_or, and_true, true_and, and_false, false_and, or_self, and_self, if_true, if_false, ite_true, ite_false, eq_self] at hK ⊢; exact hK) | (simp (disch := omega) only [tput_eq, tput2, tput_ne, upd_eq, upd_ne, ne_eq, va_upeq, va_upne, va_up2, not_true_eq_false, not_false_eq_true, or_false, false_or, or_true, true_or, and_true, true_and, and_false, false_and, or_self, and_self, if_true, if_false, ite_true, ite_false, eq_self]; exact hK) | (simp (disch := omega) only [tput_eq, tput2, tput_ne, upd_eq, upd_ne, ne_eq, va_upeq, va_upne, va_up2, not_true_eq_false, not_false_eq_true, or_false, false_or, or_true, true_or, and_true, true_and, and_false, false_and, or_self, and_self, if_true, if_false, ite_true, ite_false, eq_self] at hK; exact hK)
    · refine wp_tabIn (tgt := 107) d_Rf_count_1 (by decide) (by decide) rfl (by decide) ?_
      refine wp_aload_n (q := 108) d_Rf_count_107 rfl rfl ?_
      refine wp_get (q := 111) fl_Rf_264 d_Rf_count_108 rfl rfl rfl ?_
      refine wp_iret d_Rf_count_111 rfl (Nat.le_refl _) (Nat.le_refl _) ?_
      simp only [sp_count, inn, inb, inm, btw, inn_t (show 7 ≤ 9 by decide), tnl (show 7 ≤ 9 by decide), (show ¬ nI 7 = nI 0 by decide), (show ¬ nI 7 = nI 1 by decide), (show ¬ nI 7 = nI 2 by decide), (show ¬ nI 7 = nI 3 by decide), (show ¬ nI 7 = nI 4 by decide), (show ¬ nI 7 = nI 5 by decide), (show ¬ nI 7 = nI 6 by decide), (show ¬ nI 7 = nI 8 by decide), (show ¬ nI 7 = nI 9 by decide), not_true_eq_false, not_false_eq_true, or_false, false_or, or_true, true_or, and_true, true_and, and_false, false_and, or_self, and_self, if_true, if_false, ite_true, ite_false, eq_self] at hK
      first | exact hK | (simp (disch := omega) only [tput_eq, tput2, tput_ne, upd_eq, upd_ne, ne_eq, va_upeq, va_upne, va_up2, not_true_eq_false, not_false_eq_true, or_false, false_or, or_true, true_or, and_true, true_and, and_false, false_and, or_self, and_self, if_true, if_false, ite_true, ite_false, eq_self] at hK ⊢; exact hK) | (simp (disch := omega) only [tput_eq, tput2, tput_ne, upd_eq, upd_ne, ne_eq, va_upeq, va_upne, va_up2, not_true_eq_false, not_false_eq_true, or_false, false_or, or_true, true_or, and_true, true_and, and_false, false_and, or_self, and_self, if_true, if_false, ite_true, ite_false, eq_self]; exact hK) | (simp (disch := omega) only [tput_eq, tput2, tput_ne, upd_eq, upd_ne, ne_eq, va_upeq, va_upne, va_up2, not_true_eq_false, not_false_eq_true, or_false, false_or, or_true, true_or, and_true, true_and, and_false, false_and, or_self, and_self, if_true, if_false, ite_true, ite_false, eq_self] at hK; exact hK)
    · refine wp_tabIn (tgt := 112) d_Rf_count_1 (by decide) (by decide) rfl (by decide) ?_
      refine wp_aload_n (q := 113) d_Rf_count_112 rfl rfl ?_
      refine wp_get (q := 116) fl_Rf_7 d_Rf_count_113 rfl rfl rfl ?_
      refine wp_sipush (q := 119) d_Rf_count_116 rfl sp_235 ?_
      refine wp_iald (q := 120) d_Rf_count_119 rfl (rfl) (by omega) (by decide) ?_
      refine wp_iret d_Rf_count_120 rfl (Nat.le_refl _) (Nat.le_refl _) ?_
      simp only [sp_count, inn, inb, inm, btw, inn_t (show 8 ≤ 9 by decide), tnl (show 8 ≤ 9 by decide), (show ¬ nI 8 = nI 0 by decide), (show ¬ nI 8 = nI 1 by decide), (show ¬ nI 8 = nI 2 by decide), (show ¬ nI 8 = nI 3 by decide), (show ¬ nI 8 = nI 4 by decide), (show ¬ nI 8 = nI 5 by decide), (show ¬ nI 8 = nI 6 by decide), (show ¬ nI 8 = nI 7 by decide), (show ¬ nI 8 = nI 9 by decide), not_true_eq_false, not_false_eq_true, or_false, false_or, or_true, true_or, and_true, true_and, and_false, false_and, or_self, and_self, if_true, if_false, ite_true, ite_false, eq_self] at hK
      first | exact hK | (simp (disch := omega) only [tput_eq, tput2, tput_ne, upd_eq, upd_ne, ne_eq, va_upeq, va_upne, va_up2, not_true_eq_false, not_false_eq_true, or_false, false_or, or_true, true_or, and_true, true_and, and_false, false_and, or_self, and_self, if_true, if_false, ite_true, ite_false, eq_self] at hK ⊢; exact hK) | (simp (disch := omega) only [tput_eq, tput2, tput_ne, upd_eq, upd_ne, ne_eq, va_upeq, va_upne, va_up2, not_true_eq_false, not_false_eq_true, or_false, false_or, or_true, true_or, and_true, true_and, and_false, false_and, or_self, and_self, if_true, if_false, ite_true, ite_false, eq_self]; exact hK) | (simp (disch := omega) only [tput_eq, tput2, tput_ne, upd_eq, upd_ne, ne_eq, va_upeq, va_upne, va_up2, not_true_eq_false, not_false_eq_true, or_false, false_or, or_true, true_or, and_true, true_and, and_false, false_and, or_self, and_self, if_true, if_false, ite_true, ite_false, eq_self] at hK; exact hK)
    · refine wp_tabIn (tgt := 121) d_Rf_count_1 (by decide) (by decide) rfl (by decide) ?_
      refine wp_aload_n (q := 122) d_Rf_count_121 rfl rfl ?_
      refine wp_get (q := 125) fl_Rf_267 d_Rf_count_122 rfl rfl rfl ?_
      refine wp_iret d_Rf_count_125 rfl (Nat.le_refl _) (Nat.le_refl _) ?_
      simp only [sp_count, inn, inb, inm, btw, inn_t (show 9 ≤ 9 by decide), tnl (show 9 ≤ 9 by decide), (show ¬ nI 9 = nI 0 by decide), (show ¬ nI 9 = nI 1 by decide), (show ¬ nI 9 = nI 2 by decide), (show ¬ nI 9 = nI 3 by decide), (show ¬ nI 9 = nI 4 by decide), (show ¬ nI 9 = nI 5 by decide), (show ¬ nI 9 = nI 6 by decide), (show ¬ nI 9 = nI 7 by decide), (show ¬ nI 9 = nI 8 by decide), not_true_eq_false, not_false_eq_true, or_false, false_or, or_true, true_or, and_true, true_and, and_false, false_and, or_self, and_self, if_true, if_false, ite_true, ite_false, eq_self] at hK
      first | exact hK | (simp (disch := omega) only [tput_eq, tput2, tput_ne, upd_eq, upd_ne, ne_eq, va_upeq, va_upne, va_up2, not_true_eq_false, not_false_eq_true, or_false, false_or, or_true, true_or, and_true, true_and, and_false, false_and, or_self, and_self, if_true, if_false, ite_true, ite_false, eq_self] at hK ⊢; exact hK) | (simp (disch := omega) only [tput_eq, tput2, tput_ne, upd_eq, upd_ne, ne_eq, va_upeq, va_upne, va_up2, not_true_eq_false, not_false_eq_true, or_false, false_or, or_true, true_or, and_true, true_and, and_false, false_and, or_self, and_self, if_true, if_false, ite_true, ite_false, eq_self]; exact hK) | (simp (disch := omega) only [tput_eq, tput2, tput_ne, upd_eq, upd_ne, ne_eq, va_upeq, va_upne, va_up2, not_true_eq_false, not_false_eq_true, or_false, false_or, or_true, true_or, and_true, true_and, and_false, false_and, or_self, and_self, if_true, if_false, ite_true, ite_false, eq_self] at hK; exact hK)
  · refine wp_tabOut (tgt := 126) d_Rf_count_1 ho_1 (by decide) ?_
    refine wp_bipush (q := 128) d_Rf_count_126 rfl bp_m2 ?_
    refine wp_iret d_Rf_count_128 rfl (Nat.le_refl _) (Nat.le_refl _) ?_
    simp only [sp_count, inn, inb, inm, btw, hn_1, not_true_eq_false, not_false_eq_true, or_false, false_or, or_true, true_or, and_true, true_and, and_false, false_and, or_self, and_self, if_true, if_false, ite_true, ite_false, eq_self] at hK
    first | exact hK | (simp (disch := omega) only [tput_eq, tput2, tput_ne, upd_eq, upd_ne, ne_eq, va_upeq, va_upne, va_up2, not_true_eq_false, not_false_eq_true, or_false, false_or, or_true, true_or, and_true, true_and, and_false, false_and, or_self, and_self, if_true, if_false, ite_true, ite_false, eq_self] at hK ⊢; exact hK) | (simp (disch := omega) only [tput_eq, tput2, tput_ne, upd_eq, upd_ne, ne_eq, va_upeq, va_upne, va_up2, not_true_eq_false, not_false_eq_true, or_false, false_or, or_true, true_or, and_true, true_and, and_false, false_and, or_self, and_self, if_true, if_false, ite_true, ite_false, eq_self]; exact hK) | (simp (disch := omega) only [tput_eq, tput2, tput_ne, upd_eq, upd_ne, ne_eq, va_upeq, va_upne, va_up2, not_true_eq_false, not_false_eq_true, or_false, false_or, or_true, true_or, and_true, true_and, and_false, false_and, or_self, and_self, if_true, if_false, ite_true, ite_false, eq_self] at hK; exact hK)
def sp_busTold (c : T2) (P : Nat → Int32) (b w : Int32) : Int32 := if ¬ inb c b then -5 else if ¬ inn w 11 then -7 else if w = nI 0 then P (72 + tn b) else if w = nI 1 then P (84 + tn b) else if w = nI 2 then (if P (72 + tn b) = nI 1 then P (96 + tn b) else -1000000) else if w = nI 3 then P (108 + tn b) else if w = nI 4 then P (120 + tn b) else if w = nI 5 then P (132 + tn b) else if w = nI 6 then P (168 + tn b) else if w = nI 7 then P (180 + tn b) else if w = nI 8 then P (192 + tn b) else if w = nI 9 then P (204 + tn b) else if w = nI 10 then P (216 + tn b) else P (156 + tn b)
theorem d_FG_busTold_0 : decode M_FG_busTold.2.1 0 = .ok (.aload_n 0, 1) := by decide +kernel
theorem d_FG_busTold_1 : decode M_FG_busTold.2.1 1 = .ok (.iload_n 1, 1) := by decide +kernel
theorem d_FG_busTold_2 : decode M_FG_busTold.2.1 2 = .ok (.invokevirtual 82, 3) := by decide +kernel
theorem d_FG_busTold_5 : decode M_FG_busTold.2.1 5 = .ok (.ifCond .ne 6, 3) := by decide +kernel
theorem d_FG_busTold_8 : decode M_FG_busTold.2.1 8 = .ok (.bipush (-5), 2) := by decide +kernel
theorem d_FG_busTold_10 : decode M_FG_busTold.2.1 10 = .ok (.ireturn, 1) := by decide +kernel
theorem d_FG_busTold_11 : decode M_FG_busTold.2.1 11 = .ok (.aload_n 0, 1) := by decide +kernel
theorem d_FG_busTold_12 : decode M_FG_busTold.2.1 12 = .ok (.getfield 19, 3) := by decide +kernel
theorem d_FG_busTold_15 : decode M_FG_busTold.2.1 15 = .ok (.getfield 85, 3) := by decide +kernel
theorem d_FG_busTold_18 : decode M_FG_busTold.2.1 18 = .ok (.iload_n 1, 1) := by decide +kernel
theorem d_FG_busTold_19 : decode M_FG_busTold.2.1 19 = .ok (.aaload, 1) := by decide +kernel
theorem d_FG_busTold_20 : decode M_FG_busTold.2.1 20 = .ok (.astore_n 3, 1) := by decide +kernel
theorem d_FG_busTold_21 : decode M_FG_busTold.2.1 21 = .ok (.iload_n 2, 1) := by decide +kernel
theorem d_FG_busTold_22 : decode M_FG_busTold.2.1 22 = .ok (.tableswitch 135 0 11 #[62, 67, 72, 90, 95, 100, 105, 110, 115, 120, 125, 130], 62) := by decide +kernel
theorem d_FG_busTold_84 : decode M_FG_busTold.2.1 84 = .ok (.aload_n 3, 1) := by decide +kernel
theorem d_FG_busTold_85 : decode M_FG_busTold.2.1 85 = .ok (.getfield 89, 3) := by decide +kernel
theorem d_FG_busTold_88 : decode M_FG_busTold.2.1 88 = .ok (.ireturn, 1) := by decide +kernel
theorem d_FG_busTold_89 : decode M_FG_busTold.2.1 89 = .ok (.aload_n 3, 1) := by decide +kernel
theorem d_FG_busTold_90 : decode M_FG_busTold.2.1 90 = .ok (.getfield 98, 3) := by decide +kernel
theorem d_FG_busTold_93 : decode M_FG_busTold.2.1 93 = .ok (.ireturn, 1) := by decide +kernel
theorem d_FG_busTold_94 : decode M_FG_busTold.2.1 94 = .ok (.aload_n 3, 1) := by decide +kernel
theorem d_FG_busTold_95 : decode M_FG_busTold.2.1 95 = .ok (.getfield 89, 3) := by decide +kernel
theorem d_FG_busTold_98 : decode M_FG_busTold.2.1 98 = .ok (.iconst 1, 1) := by decide +kernel
theorem d_FG_busTold_99 : decode M_FG_busTold.2.1 99 = .ok (.if_icmp .ne 10, 3) := by decide +kernel
theorem d_FG_busTold_102 : decode M_FG_busTold.2.1 102 = .ok (.aload_n 3, 1) := by decide +kernel
theorem d_FG_busTold_103 : decode M_FG_busTold.2.1 103 = .ok (.getfield 105, 3) := by decide +kernel
theorem d_FG_busTold_106 : decode M_FG_busTold.2.1 106 = .ok (.goto 5, 3) := by decide +kernel
theorem d_FG_busTold_109 : decode M_FG_busTold.2.1 109 = .ok (.ldc 172, 2) := by decide +kernel
theorem d_FG_busTold_111 : decode M_FG_busTold.2.1 111 = .ok (.ireturn, 1) := by decide +kernel
theorem d_FG_busTold_112 : decode M_FG_busTold.2.1 112 = .ok (.aload_n 3, 1) := by decide +kernel
theorem d_FG_busTold_113 : decode M_FG_busTold.2.1 113 = .ok (.getfield 173, 3) := by decide +kernel
theorem d_FG_busTold_116 : decode M_FG_busTold.2.1 116 = .ok (.ireturn, 1) := by decide +kernel
theorem d_FG_busTold_117 : decode M_FG_busTold.2.1 117 = .ok (.aload_n 3, 1) := by decide +kernel
theorem d_FG_busTold_118 : decode M_FG_busTold.2.1 118 = .ok (.getfield 176, 3) := by decide +kernel
theorem d_FG_busTold_121 : decode M_FG_busTold.2.1 121 = .ok (.ireturn, 1) := by decide +kernel
theorem d_FG_busTold_122 : decode M_FG_busTold.2.1 122 = .ok (.aload_n 3, 1) := by decide +kernel
theorem d_FG_busTold_123 : decode M_FG_busTold.2.1 123 = .ok (.getfield 117, 3) := by decide +kernel
theorem d_FG_busTold_126 : decode M_FG_busTold.2.1 126 = .ok (.ireturn, 1) := by decide +kernel
theorem d_FG_busTold_127 : decode M_FG_busTold.2.1 127 = .ok (.aload_n 3, 1) := by decide +kernel
theorem d_FG_busTold_128 : decode M_FG_busTold.2.1 128 = .ok (.getfield 179, 3) := by decide +kernel
theorem d_FG_busTold_131 : decode M_FG_busTold.2.1 131 = .ok (.ireturn, 1) := by decide +kernel
theorem d_FG_busTold_132 : decode M_FG_busTold.2.1 132 = .ok (.aload_n 3, 1) := by decide +kernel
theorem d_FG_busTold_133 : decode M_FG_busTold.2.1 133 = .ok (.getfield 108, 3) := by decide +kernel
theorem d_FG_busTold_136 : decode M_FG_busTold.2.1 136 = .ok (.ireturn, 1) := by decide +kernel
theorem d_FG_busTold_137 : decode M_FG_busTold.2.1 137 = .ok (.aload_n 3, 1) := by decide +kernel
theorem d_FG_busTold_138 : decode M_FG_busTold.2.1 138 = .ok (.getfield 182, 3) := by decide +kernel
theorem d_FG_busTold_141 : decode M_FG_busTold.2.1 141 = .ok (.ireturn, 1) := by decide +kernel
theorem d_FG_busTold_142 : decode M_FG_busTold.2.1 142 = .ok (.aload_n 3, 1) := by decide +kernel
theorem d_FG_busTold_143 : decode M_FG_busTold.2.1 143 = .ok (.getfield 184, 3) := by decide +kernel
theorem d_FG_busTold_146 : decode M_FG_busTold.2.1 146 = .ok (.ireturn, 1) := by decide +kernel
theorem d_FG_busTold_147 : decode M_FG_busTold.2.1 147 = .ok (.aload_n 3, 1) := by decide +kernel
theorem d_FG_busTold_148 : decode M_FG_busTold.2.1 148 = .ok (.getfield 187, 3) := by decide +kernel
theorem d_FG_busTold_151 : decode M_FG_busTold.2.1 151 = .ok (.ireturn, 1) := by decide +kernel
theorem d_FG_busTold_152 : decode M_FG_busTold.2.1 152 = .ok (.aload_n 3, 1) := by decide +kernel
theorem d_FG_busTold_153 : decode M_FG_busTold.2.1 153 = .ok (.getfield 190, 3) := by decide +kernel
theorem d_FG_busTold_156 : decode M_FG_busTold.2.1 156 = .ok (.ireturn, 1) := by decide +kernel
theorem d_FG_busTold_157 : decode M_FG_busTold.2.1 157 = .ok (.bipush (-7), 2) := by decide +kernel
theorem d_FG_busTold_159 : decode M_FG_busTold.2.1 159 = .ok (.ireturn, 1) := by decide +kernel
set_option maxHeartbeats 4000000 in
set_option maxRecDepth 100000 in
theorem ok_FG_busTold {D : xD} {N : Nat} {l : Launch} {d : Nat} {c x V : T2} {P : Nat → Int32} {ln df : Nat → Option Nat} {rest : List va_E} {K : Option Value → List va_E → Prop} {b : Int32} {w : Int32} {nb : Nat} (hnb : c 32 1 = nI nb) (h12 : nb ≤ 12)  (hK : K (some (.int (sp_busTold c P b w))) (encC D N c x (va_up V 0 P) ln df ++ rest)) : Ok D N l (d + 2) M_FG_busTold [.ref (N + 0), .int b, .int w] (encC D N c x (va_up V 0 P) ln df ++ rest) 0 0 K := by
  refine ok_of (L := [(0, _), (1, _), (2, _)]) (by decide) (Nat.le_of_ble_eq_true rfl) rfl ?_
  refine wp_aload_n (q := 1) d_FG_busTold_0 rfl rfl ?_
  refine wp_iload_n (q := 2) d_FG_busTold_1 rfl rfl ?_
  refine wp_cv1 (q := 5) lk_FG_82 (ro _ _ _) d_FG_busTold_2 rfl (Nat.le_of_ble_eq_true rfl) (rfl) rfl (Nat.zero_le _) (Nat.zero_le _) ?_
  refine ok_FG_isBus hnb h12 (fun b1 hb1 e => ?_) (fun hb1 => ?_)
  · subst e
    refine wp_if_ne_t (tgt := 11) d_FG_busTold_5 (by decide) (by decide) ?_
    refine wp_aload_n (q := 12) d_FG_busTold_11 rfl rfl ?_
    refine wp_get (q := 15) fl_FG_19 d_FG_busTold_12 rfl rfl rfl ?_
    refine wp_get (q := 18) fl_FG_85 d_FG_busTold_15 rfl (rdO (w := 0) (by decide)) rfl ?_
    refine wp_iload_n (q := 19) d_FG_busTold_18 rfl rfl ?_
    refine wp_aldR (q := 20) d_FG_busTold_19 rfl (rd4 (w := 0) (by decide)) (by omega) (by decide) (rowsW_at (by omega)) ?_
    refine wp_astore_n (q := 21) (L2 := [(3, _), (0, _), (1, _), (2, _)]) d_FG_busTold_20 rfl (by decide) rfl ?_
    refine wp_iload_n (q := 22) d_FG_busTold_21 rfl rfl ?_
    rcases sw w 11 (by decide) with ⟨k_22, hk_22, e_22⟩ | ⟨hn_22, ho_22⟩
    · subst e_22
      rcases (show k_22 = 0 ∨ k_22 = 1 ∨ k_22 = 2 ∨ k_22 = 3 ∨ k_22 = 4 ∨ k_22 = 5 ∨ k_22 = 6 ∨ k_22 = 7 ∨ k_22 = 8 ∨ k_22 = 9 ∨ k_22 = 10 ∨ k_22 = 11 by omega) with rfl | rfl | rfl | rfl | rfl | rfl | rfl | rfl | rfl | rfl | rfl | rfl
      · refine wp_tabIn (tgt := 84) d_FG_busTold_22 (by decide) (by decide) rfl (by decide) ?_
        refine wp_aload_n (q := 85) d_FG_busTold_84 rfl rfl ?_
        refine wp_get (q := 88) fl_FG_89 d_FG_busTold_85 rfl (rdR (w := 0) (by decide) (by omega)) rfl ?_
        refine wp_iret d_FG_busTold_88 rfl (Nat.le_refl _) (Nat.le_refl _) ?_
        simp only [sp_busTold, inn, inb, inm, btw, inb_t hnb h12 hb1, tnt (Nat.lt_of_lt_of_le hb1 h12), inn_t (show 0 ≤ 11 by decide), tnl (show 0 ≤ 11 by decide), (show ¬ nI 0 = nI 1 by decide), (show ¬ nI 0 = nI 2 by decide), (show ¬ nI 0 = nI 3 by decide), (show ¬ nI 0 = nI 4 by decide), (show ¬ nI 0 = nI 5 by decide), (show ¬ nI 0 = nI 6 by decide), (show ¬ nI 0 = nI 7 by decide), (show ¬ nI 0 = nI 8 by decide), (show ¬ nI 0 = nI 9 by decide), (show ¬ nI 0 = nI 10 by decide), (show ¬ nI 0 = nI 11 by decide), not_true_eq_false, not_false_eq_true, or_false, false_or, or_true, true_or, and_true, true_and, and_false, false_and, or_self, and_self, if_true, if_false, ite_true, ite_false, eq_self] at hK
        first | exact hK | (simp (disch := omega) only [tput_eq, tput2, tput_ne, upd_eq, upd_ne, ne_eq, va_upeq, va_upne, va_up2, not_true_eq_false, not_false_eq_true, or_false, false_or, or_true, true_or, and_true, true_and, and_false, false_and, or_self, and_self, if_true, if_false, ite_true, ite_false, eq_self] at hK ⊢; exact hK) | (simp (disch := omega) only [tput_eq, tput2, tput_ne, upd_eq, upd_ne, ne_eq, va_upeq, va_upne, va_up2, not_true_eq_false, not_false_eq_true, or_false, false_or, or_true, true_or, and_true, true_and, and_false, false_and, or_self, and_self, if_true, if_false, ite_true, ite_false, eq_self]; exact hK) | (simp (disch := omega) only [tput_eq, tput2, tput_ne, upd_eq, upd_ne, ne_eq, va_upeq, va_upne, va_up2, not_true_eq_false, not_false_eq_true, or_false, false_or, or_true, true_or, and_true, true_and, and_false, false_and, or_self, and_self, if_true, if_false, ite_true, ite_false, eq_self] at hK; exact hK)
      · refine wp_tabIn (tgt := 89) d_FG_busTold_22 (by decide) (by decide) rfl (by decide) ?_
        refine wp_aload_n (q := 90) d_FG_busTold_89 rfl rfl ?_
        refine wp_get (q := 93) fl_FG_98 d_FG_busTold_90 rfl (rdR (w := 0) (by decide) (by omega)) rfl ?_
        refine wp_iret d_FG_busTold_93 rfl (Nat.le_refl _) (Nat.le_refl _) ?_
        simp only [sp_busTold, inn, inb, inm, btw, inb_t hnb h12 hb1, tnt (Nat.lt_of_lt_of_le hb1 h12), inn_t (show 1 ≤ 11 by decide), tnl (show 1 ≤ 11 by decide), (show ¬ nI 1 = nI 0 by decide), (show ¬ nI 1 = nI 2 by decide), (show ¬ nI 1 = nI 3 by decide), (show ¬ nI 1 = nI 4 by decide), (show ¬ nI 1 = nI 5 by decide), (show ¬ nI 1 = nI 6 by decide), (show ¬ nI 1 = nI 7 by decide), (show ¬ nI 1 = nI 8 by decide), (show ¬ nI 1 = nI 9 by decide), (show ¬ nI 1 = nI 10 by decide), (show ¬ nI 1 = nI 11 by decide), not_true_eq_false, not_false_eq_true, or_false, false_or, or_true, true_or, and_true, true_and, and_false, false_and, or_self, and_self, if_true, if_false, ite_true, ite_false, eq_self] at hK
        first | exact hK | (simp (disch := omega) only [tput_eq, tput2, tput_ne, upd_eq, upd_ne, ne_eq, va_upeq, va_upne, va_up2, not_true_eq_false, not_false_eq_true, or_false, false_or, or_true, true_or, and_true, true_and, and_false, false_and, or_self, and_self, if_true, if_false, ite_true, ite_false, eq_self] at hK ⊢; exact hK) | (simp (disch := omega) only [tput_eq, tput2, tput_ne, upd_eq, upd_ne, ne_eq, va_upeq, va_upne, va_up2, not_true_eq_false, not_false_eq_true, or_false, false_or, or_true, true_or, and_true, true_and, and_false, false_and, or_self, and_self, if_true, if_false, ite_true, ite_false, eq_self]; exact hK) | (simp (disch := omega) only [tput_eq, tput2, tput_ne, upd_eq, upd_ne, ne_eq, va_upeq, va_upne, va_up2, not_true_eq_false, not_false_eq_true, or_false, false_or, or_true, true_or, and_true, true_and, and_false, false_and, or_self, and_self, if_true, if_false, ite_true, ite_false, eq_self] at hK; exact hK)
      · refine wp_tabIn (tgt := 94) d_FG_busTold_22 (by decide) (by decide) rfl (by decide) ?_
        refine wp_aload_n (q := 95) d_FG_busTold_94 rfl rfl ?_
        refine wp_get (q := 98) fl_FG_89 d_FG_busTold_95 rfl (rdR (w := 0) (by decide) (by omega)) rfl ?_
        refine wp_iconst (q := 99) d_FG_busTold_98 rfl ic_1 ?_
        refine wp_icmp_ne (q := 102) (tgt := 109) d_FG_busTold_99 (by decide) rfl (fun hc_99 => ?_) (fun hc_99 => ?_)
        · refine wp_ldc (q := 111) d_FG_busTold_109 rfl kc_FG_172 ?_
          refine wp_iret d_FG_busTold_111 rfl (Nat.le_refl _) (Nat.le_refl _) ?_
          simp only [sp_busTold, inn, inb, inm, btw, inb_t hnb h12 hb1, tnt (Nat.lt_of_lt_of_le hb1 h12), inn_t (show 2 ≤ 11 by decide), tnl (show 2 ≤ 11 by decide), (show ¬ nI 2 = nI 0 by decide), (show ¬ nI 2 = nI 1 by decide), (show ¬ nI 2 = nI 3 by decide), (show ¬ nI 2 = nI 4 by decide), (show ¬ nI 2 = nI 5 by decide), (show ¬ nI 2 = nI 6 by decide), (show ¬ nI 2 = nI 7 by decide), (show ¬ nI 2 = nI 8 by decide), (show ¬ nI 2 = nI 9 by decide), (show ¬ nI 2 = nI 10 by decide), (show ¬ nI 2 = nI 11 by decide), hc_99, not_true_eq_false, not_false_eq_true, or_false, false_or, or_true, true_or, and_true, true_and, and_false, false_and, or_self, and_self, if_true, if_false, ite_true, ite_false, eq_self] at hK
          first | exact hK | (simp (disch := omega) only [tput_eq, tput2, tput_ne, upd_eq, upd_ne, ne_eq, va_upeq, va_upne, va_up2, not_true_eq_false, not_false_eq_true, or_false, false_or, or_true, true_or, and_true, true_and, and_false, false_and, or_self, and_self, if_true, if_false, ite_true, ite_false, eq_self] at hK ⊢; exact hK) | (simp (disch := omega) only [tput_eq, tput2, tput_ne, upd_eq, upd_ne, ne_eq, va_upeq, va_upne, va_up2, not_true_eq_false, not_false_eq_true, or_false, false_or, or_true, true_or, and_true, true_and, and_false, false_and, or_self, and_self, if_true, if_false, ite_true, ite_false, eq_self]; exact hK) | (simp (disch := omega) only [tput_eq, tput2, tput_ne, upd_eq, upd_ne, ne_eq, va_upeq, va_upne, va_up2, not_true_eq_false, not_false_eq_true, or_false, false_or, or_true, true_or, and_true, true_and, and_false, false_and, or_self, and_self, if_true, if_false, ite_true, ite_false, eq_self] at hK; exact hK)
        · refine wp_aload_n (q := 103) d_FG_busTold_102 rfl rfl ?_
          refine wp_get (q := 106) fl_FG_105 d_FG_busTold_103 rfl (rdR (w := 0) (by decide) (by omega)) rfl ?_
          refine wp_goto (tgt := 111) d_FG_busTold_106 (by decide) ?_
          refine wp_iret d_FG_busTold_111 rfl (Nat.le_refl _) (Nat.le_refl _) ?_
          simp only [sp_busTold, inn, inb, inm, btw, inb_t hnb h12 hb1, tnt (Nat.lt_of_lt_of_le hb1 h12), inn_t (show 2 ≤ 11 by decide), tnl (show 2 ≤ 11 by decide), (show ¬ nI 2 = nI 0 by decide), (show ¬ nI 2 = nI 1 by decide), (show ¬ nI 2 = nI 3 by decide), (show ¬ nI 2 = nI 4 by decide), (show ¬ nI 2 = nI 5 by decide), (show ¬ nI 2 = nI 6 by decide), (show ¬ nI 2 = nI 7 by decide), (show ¬ nI 2 = nI 8 by decide), (show ¬ nI 2 = nI 9 by decide), (show ¬ nI 2 = nI 10 by decide), (show ¬ nI 2 = nI 11 by decide), hc_99, not_true_eq_false, not_false_eq_true, or_false, false_or, or_true, true_or, and_true, true_and, and_false, false_and, or_self, and_self, if_true, if_false, ite_true, ite_false, eq_self] at hK
          first | exact hK | (simp (disch := omega) only [tput_eq, tput2, tput_ne, upd_eq, upd_ne, ne_eq, va_upeq, va_upne, va_up2, not_true_eq_false, not_false_eq_true, or_false, false_or, or_true, true_or, and_true, true_and, and_false, false_and, or_self, and_self, if_true, if_false, ite_true, ite_false, eq_self] at hK ⊢; exact hK) | (simp (disch := omega) only [tput_eq, tput2, tput_ne, upd_eq, upd_ne, ne_eq, va_upeq, va_upne, va_up2, not_true_eq_false, not_false_eq_true, or_false, false_or, or_true, true_or, and_true, true_and, and_false, false_and, or_self, and_self, if_true, if_false, ite_true, ite_false, eq_self]; exact hK) | (simp (disch := omega) only [tput_eq, tput2, tput_ne, upd_eq, upd_ne, ne_eq, va_upeq, va_upne, va_up2, not_true_eq_false, not_false_eq_true, or_false, false_or, or_true, true_or, and_true, true_and, and_false, false_and, or_self, and_self, if_true, if_false, ite_true, ite_false, eq_self] at hK; exact hK)
      · refine wp_tabIn (tgt := 112) d_FG_busTold_22 (by decide) (by decide) rfl (by decide) ?_
        refine wp_aload_n (q := 113) d_FG_busTold_112 rfl rfl ?_
        refine wp_get (q := 116) fl_FG_173 d_FG_busTold_113 rfl (rdR (w := 0) (by decide) (by omega)) rfl ?_
        refine wp_iret d_FG_busTold_116 rfl (Nat.le_refl _) (Nat.le_refl _) ?_
        simp only [sp_busTold, inn, inb, inm, btw, inb_t hnb h12 hb1, tnt (Nat.lt_of_lt_of_le hb1 h12), inn_t (show 3 ≤ 11 by decide), tnl (show 3 ≤ 11 by decide), (show ¬ nI 3 = nI 0 by decide), (show ¬ nI 3 = nI 1 by decide), (show ¬ nI 3 = nI 2 by decide), (show ¬ nI 3 = nI 4 by decide), (show ¬ nI 3 = nI 5 by decide), (show ¬ nI 3 = nI 6 by decide), (show ¬ nI 3 = nI 7 by decide), (show ¬ nI 3 = nI 8 by decide), (show ¬ nI 3 = nI 9 by decide), (show ¬ nI 3 = nI 10 by decide), (show ¬ nI 3 = nI 11 by decide), not_true_eq_false, not_false_eq_true, or_false, false_or, or_true, true_or, and_true, true_and, and_false, false_and, or_self, and_self, if_true, if_false, ite_true, ite_false, eq_self] at hK
        first | exact hK | (simp (disch := omega) only [tput_eq, tput2, tput_ne, upd_eq, upd_ne, ne_eq, va_upeq, va_upne, va_up2, not_true_eq_false, not_false_eq_true, or_false, false_or, or_true, true_or, and_true, true_and, and_false, false_and, or_self, and_self, if_true, if_false, ite_true, ite_false, eq_self] at hK ⊢; exact hK) | (simp (disch := omega) only [tput_eq, tput2, tput_ne, upd_eq, upd_ne, ne_eq, va_upeq, va_upne, va_up2, not_true_eq_false, not_false_eq_true, or_false, false_or, or_true, true_or, and_true, true_and, and_false, false_and, or_self, and_self, if_true, if_false, ite_true, ite_false, eq_self]; exact hK) | (simp (disch := omega) only [tput_eq, tput2, tput_ne, upd_eq, upd_ne, ne_eq, va_upeq, va_upne, va_up2, not_true_eq_false, not_false_eq_true, or_false, false_or, or_true, true_or, and_true, true_and, and_false, false_and, or_self, and_self, if_true, if_false, ite_true, ite_false, eq_self] at hK; exact hK)
      · refine wp_tabIn (tgt := 117) d_FG_busTold_22 (by decide) (by decide) rfl (by decide) ?_
        refine wp_aload_n (q := 118) d_FG_busTold_117 rfl rfl ?_
        refine wp_get (q := 121) fl_FG_176 d_FG_busTold_118 rfl (rdR (w := 0) (by decide) (by omega)) rfl ?_
        refine wp_iret d_FG_busTold_121 rfl (Nat.le_refl _) (Nat.le_refl _) ?_
        simp only [sp_busTold, inn, inb, inm, btw, inb_t hnb h12 hb1, tnt (Nat.lt_of_lt_of_le hb1 h12), inn_t (show 4 ≤ 11 by decide), tnl (show 4 ≤ 11 by decide), (show ¬ nI 4 = nI 0 by decide), (show ¬ nI 4 = nI 1 by decide), (show ¬ nI 4 = nI 2 by decide), (show ¬ nI 4 = nI 3 by decide), (show ¬ nI 4 = nI 5 by decide), (show ¬ nI 4 = nI 6 by decide), (show ¬ nI 4 = nI 7 by decide), (show ¬ nI 4 = nI 8 by decide), (show ¬ nI 4 = nI 9 by decide), (show ¬ nI 4 = nI 10 by decide), (show ¬ nI 4 = nI 11 by decide), not_true_eq_false, not_false_eq_true, or_false, false_or, or_true, true_or, and_true, true_and, and_false, false_and, or_self, and_self, if_true, if_false, ite_true, ite_false, eq_self] at hK
        first | exact hK | (simp (disch := omega) only [tput_eq, tput2, tput_ne, upd_eq, upd_ne, ne_eq, va_upeq, va_upne, va_up2, not_true_eq_false, not_false_eq_true, or_false, false_or, or_true, true_or, and_true, true_and, and_false, false_and, or_self, and_self, if_true, if_false, ite_true, ite_false, eq_self] at hK ⊢; exact hK) | (simp (disch := omega) only [tput_eq, tput2, tput_ne, upd_eq, upd_ne, ne_eq, va_upeq, va_upne, va_up2, not_true_eq_false, not_false_eq_true, or_false, false_or, or_true, true_or, and_true, true_and, and_false, false_and, or_self, and_self, if_true, if_false, ite_true, ite_false, eq_self]; exact hK) | (simp (disch := omega) only [tput_eq, tput2, tput_ne, upd_eq, upd_ne, ne_eq, va_upeq, va_upne, va_up2, not_true_eq_false, not_false_eq_true, or_false, false_or, or_true, true_or, and_true, true_and, and_false, false_and, or_self, and_self, if_true, if_false, ite_true, ite_false, eq_self] at hK; exact hK)
      · refine wp_tabIn (tgt := 122) d_FG_busTold_22 (by decide) (by decide) rfl (by decide) ?_
        refine wp_aload_n (q := 123) d_FG_busTold_122 rfl rfl ?_
        refine wp_get (q := 126) fl_FG_117 d_FG_busTold_123 rfl (rdR (w := 0) (by decide) (by omega)) rfl ?_
        refine wp_iret d_FG_busTold_126 rfl (Nat.le_refl _) (Nat.le_refl _) ?_
        simp only [sp_busTold, inn, inb, inm, btw, inb_t hnb h12 hb1, tnt (Nat.lt_of_lt_of_le hb1 h12), inn_t (show 5 ≤ 11 by decide), tnl (show 5 ≤ 11 by decide), (show ¬ nI 5 = nI 0 by decide), (show ¬ nI 5 = nI 1 by decide), (show ¬ nI 5 = nI 2 by decide), (show ¬ nI 5 = nI 3 by decide), (show ¬ nI 5 = nI 4 by decide), (show ¬ nI 5 = nI 6 by decide), (show ¬ nI 5 = nI 7 by decide), (show ¬ nI 5 = nI 8 by decide), (show ¬ nI 5 = nI 9 by decide), (show ¬ nI 5 = nI 10 by decide), (show ¬ nI 5 = nI 11 by decide), not_true_eq_false, not_false_eq_true, or_false, false_or, or_true, true_or, and_true, true_and, and_false, false_and, or_self, and_self, if_true, if_false, ite_true, ite_false, eq_self] at hK
        first | exact hK | (simp (disch := omega) only [tput_eq, tput2, tput_ne, upd_eq, upd_ne, ne_eq, va_upeq, va_upne, va_up2, not_true_eq_false, not_false_eq_true, or_false, false_or, or_true, true_or, and_true, true_and, and_false, false_and, or_self, and_self, if_true, if_false, ite_true, ite_false, eq_self] at hK ⊢; exact hK) | (simp (disch := omega) only [tput_eq, tput2, tput_ne, upd_eq, upd_ne, ne_eq, va_upeq, va_upne, va_up2, not_true_eq_false, not_false_eq_true, or_false, false_or, or_true, true_or, and_true, true_and, and_false, false_and, or_self, and_self, if_true, if_false, ite_true, ite_false, eq_self]; exact hK) | (simp (disch := omega) only [tput_eq, tput2, tput_ne, upd_eq, upd_ne, ne_eq, va_upeq, va_upne, va_up2, not_true_eq_false, not_false_eq_true, or_false, false_or, or_true, true_or, and_true, true_and, and_false, false_and, or_self, and_self, if_true, if_false, ite_true, ite_false, eq_self] at hK; exact hK)
      · refine wp_tabIn (tgt := 127) d_FG_busTold_22 (by decide) (by decide) rfl (by decide) ?_
        refine wp_aload_n (q := 128) d_FG_busTold_127 rfl rfl ?_
        refine wp_get (q := 131) fl_FG_179 d_FG_busTold_128 rfl (rdR (w := 0) (by decide) (by omega)) rfl ?_
        refine wp_iret d_FG_busTold_131 rfl (Nat.le_refl _) (Nat.le_refl _) ?_
        simp only [sp_busTold, inn, inb, inm, btw, inb_t hnb h12 hb1, tnt (Nat.lt_of_lt_of_le hb1 h12), inn_t (show 6 ≤ 11 by decide), tnl (show 6 ≤ 11 by decide), (show ¬ nI 6 = nI 0 by decide), (show ¬ nI 6 = nI 1 by decide), (show ¬ nI 6 = nI 2 by decide), (show ¬ nI 6 = nI 3 by decide), (show ¬ nI 6 = nI 4 by decide), (show ¬ nI 6 = nI 5 by decide), (show ¬ nI 6 = nI 7 by decide), (show ¬ nI 6 = nI 8 by decide), (show ¬ nI 6 = nI 9 by decide), (show ¬ nI 6 = nI 10 by decide), (show ¬ nI 6 = nI 11 by decide), not_true_eq_false, not_false_eq_true, or_false, false_or, or_true, true_or, and_true, true_and, and_false, false_and, or_self, and_self, if_true, if_false, ite_true, ite_false, eq_self] at hK
        first | exact hK | (simp (disch := omega) only [tput_eq, tput2, tput_ne, upd_eq, upd_ne, ne_eq, va_upeq, va_upne, va_up2, not_true_eq_false, not_false_eq_true, or_false, false_or, or_true, true_or, and_true, true_and, and_false, false_and, or_self, and_self, if_true, if_false, ite_true, ite_false, eq_self] at hK ⊢; exact hK) | (simp (disch := omega) only [tput_eq, tput2, tput_ne, upd_eq, upd_ne, ne_eq, va_upeq, va_upne, va_up2, not_true_eq_false, not_false_eq_true, or_false, false_or, or_true, true_or, and_true, true_and, and_false, false_and, or_self, and_self, if_true, if_false, ite_true, ite_false, eq_self]; exact hK) | (simp (disch := omega) only [tput_eq, tput2, tput_ne, upd_eq, upd_ne, ne_eq, va_upeq, va_upne, va_up2, not_true_eq_false, not_false_eq_true, or_false, false_or, or_true, true_or, and_true, true_and, and_false, false_and, or_self, and_self, if_true, if_false, ite_true, ite_false, eq_self] at hK; exact hK)
      · refine wp_tabIn (tgt := 132) d_FG_busTold_22 (by decide) (by decide) rfl (by decide) ?_
        refine wp_aload_n (q := 133) d_FG_busTold_132 rfl rfl ?_
        refine wp_get (q := 136) fl_FG_108 d_FG_busTold_133 rfl (rdR (w := 0) (by decide) (by omega)) rfl ?_
        refine wp_iret d_FG_busTold_136 rfl (Nat.le_refl _) (Nat.le_refl _) ?_
        simp only [sp_busTold, inn, inb, inm, btw, inb_t hnb h12 hb1, tnt (Nat.lt_of_lt_of_le hb1 h12), inn_t (show 7 ≤ 11 by decide), tnl (show 7 ≤ 11 by decide), (show ¬ nI 7 = nI 0 by decide), (show ¬ nI 7 = nI 1 by decide), (show ¬ nI 7 = nI 2 by decide), (show ¬ nI 7 = nI 3 by decide), (show ¬ nI 7 = nI 4 by decide), (show ¬ nI 7 = nI 5 by decide), (show ¬ nI 7 = nI 6 by decide), (show ¬ nI 7 = nI 8 by decide), (show ¬ nI 7 = nI 9 by decide), (show ¬ nI 7 = nI 10 by decide), (show ¬ nI 7 = nI 11 by decide), not_true_eq_false, not_false_eq_true, or_false, false_or, or_true, true_or, and_true, true_and, and_false, false_and, or_self, and_self, if_true, if_false, ite_true, ite_false, eq_self] at hK
        first | exact hK | (simp (disch := omega) only [tput_eq, tput2, tput_ne, upd_eq, upd_ne, ne_eq, va_upeq, va_upne, va_up2, not_true_eq_false, not_false_eq_true, or_false, false_or, or_true, true_or, and_true, true_and, and_false, false_and, or_self, and_self, if_true, if_false, ite_true, ite_false, eq_self] at hK ⊢; exact hK) | (simp (disch := omega) only [tput_eq, tput2, tput_ne, upd_eq, upd_ne, ne_eq, va_upeq, va_upne, va_up2, not_true_eq_false, not_false_eq_true, or_false, false_or, or_true, true_or, and_true, true_and, and_false, false_and, or_self, and_self, if_true, if_false, ite_true, ite_false, eq_self]; exact hK) | (simp (disch := omega) only [tput_eq, tput2, tput_ne, upd_eq, upd_ne, ne_eq, va_upeq, va_upne, va_up2, not_true_eq_false, not_false_eq_true, or_false, false_or, or_true, true_or, and_true, true_and, and_false, false_and, or_self, and_self, if_true, if_false, ite_true, ite_false, eq_self] at hK; exact hK)
      · refine wp_tabIn (tgt := 137) d_FG_busTold_22 (by decide) (by decide) rfl (by decide) ?_
        refine wp_aload_n (q := 138) d_FG_busTold_137 rfl rfl ?_
        refine wp_get (q := 141) fl_FG_182 d_FG_busTold_138 rfl (rdR (w := 0) (by decide) (by omega)) rfl ?_
        refine wp_iret d_FG_busTold_141 rfl (Nat.le_refl _) (Nat.le_refl _) ?_
        simp only [sp_busTold, inn, inb, inm, btw, inb_t hnb h12 hb1, tnt (Nat.lt_of_lt_of_le hb1 h12), inn_t (show 8 ≤ 11 by decide), tnl (show 8 ≤ 11 by decide), (show ¬ nI 8 = nI 0 by decide), (show ¬ nI 8 = nI 1 by decide), (show ¬ nI 8 = nI 2 by decide), (show ¬ nI 8 = nI 3 by decide), (show ¬ nI 8 = nI 4 by decide), (show ¬ nI 8 = nI 5 by decide), (show ¬ nI 8 = nI 6 by decide), (show ¬ nI 8 = nI 7 by decide), (show ¬ nI 8 = nI 9 by decide), (show ¬ nI 8 = nI 10 by decide), (show ¬ nI 8 = nI 11 by decide), not_true_eq_false, not_false_eq_true, or_false, false_or, or_true, true_or, and_true, true_and, and_false, false_and, or_self, and_self, if_true, if_false, ite_true, ite_false, eq_self] at hK
        first | exact hK | (simp (disch := omega) only [tput_eq, tput2, tput_ne, upd_eq, upd_ne, ne_eq, va_upeq, va_upne, va_up2, not_true_eq_false, not_false_eq_true, or_false, false_or, or_true, true_or, and_true, true_and, and_false, false_and, or_self, and_self, if_true, if_false, ite_true, ite_false, eq_self] at hK ⊢; exact hK) | (simp (disch := omega) only [tput_eq, tput2, tput_ne, upd_eq, upd_ne, ne_eq, va_upeq, va_upne, va_up2, not_true_eq_false, not_false_eq_true, or_false, false_or, or_true, true_or, and_true, true_and, and_false, false_and, or_self, and_self, if_true, if_false, ite_true, ite_false, eq_self]; exact hK) | (simp (disch := omega) only [tput_eq, tput2, tput_ne, upd_eq, upd_ne, ne_eq, va_upeq, va_upne, va_up2, not_true_eq_false, not_false_eq_true, or_false, false_or, or_true, true_or, and_true, true_and, and_false, false_and, or_self, and_self, if_true, if_false, ite_true, ite_false, eq_self] at hK; exact hK)
      · refine wp_tabIn (tgt := 142) d_FG_busTold_22 (by decide) (by decide) rfl (by decide) ?_
        refine wp_aload_n (q := 143) d_FG_busTold_142 rfl rfl ?_
        refine wp_get (q := 146) fl_FG_184 d_FG_busTold_143 rfl (rdR (w := 0) (by decide) (by omega)) rfl ?_
        refine wp_iret d_FG_busTold_146 rfl (Nat.le_refl _) (Nat.le_refl _) ?_
        simp only [sp_busTold, inn, inb, inm, btw, inb_t hnb h12 hb1, tnt (Nat.lt_of_lt_of_le hb1 h12), inn_t (show 9 ≤ 11 by decide), tnl (show 9 ≤ 11 by decide), (show ¬ nI 9 = nI 0 by decide), (show ¬ nI 9 = nI 1 by decide), (show ¬ nI 9 = nI 2 by decide), (show ¬ nI 9 = nI 3 by decide), (show ¬ nI 9 = nI 4 by decide), (show ¬ nI 9 = nI 5 by decide), (show ¬ nI 9 = nI 6 by decide), (show ¬ nI 9 = nI 7 by decide), (show ¬ nI 9 = nI 8 by decide), (show ¬ nI 9 = nI 10 by decide), (show ¬ nI 9 = nI 11 by decide), not_true_eq_false, not_false_eq_true, or_false, false_or, or_true, true_or, and_true, true_and, and_false, false_and, or_self, and_self, if_true, if_false, ite_true, ite_false, eq_self] at hK
        first | exact hK | (simp (disch := omega) only [tput_eq, tput2, tput_ne, upd_eq, upd_ne, ne_eq, va_upeq, va_upne, va_up2, not_true_eq_false, not_false_eq_true, or_false, false_or, or_true, true_or, and_true, true_and, and_false, false_and, or_self, and_self, if_true, if_false, ite_true, ite_false, eq_self] at hK ⊢; exact hK) | (simp (disch := omega) only [tput_eq, tput2, tput_ne, upd_eq, upd_ne, ne_eq, va_upeq, va_upne, va_up2, not_true_eq_false, not_false_eq_true, or_false, false_or, or_true, true_or, and_true, true_and, and_false, false_and, or_self, and_self, if_true, if_false, ite_true, ite_false, eq_self]; exact hK) | (simp (disch := omega) only [tput_eq, tput2, tput_ne, upd_eq, upd_ne, ne_eq, va_upeq, va_upne, va_up2, not_true_eq_false, not_false_eq_true, or_false, false_or, or_true, true_or, and_true, true_and, and_false, false_and, or_self, and_self, if_true, if_false, ite_true, ite_false, eq_self] at hK; exact hK)
      · refine wp_tabIn (tgt := 147) d_FG_busTold_22 (by decide) (by decide) rfl (by decide) ?_
        refine wp_aload_n (q := 148) d_FG_busTold_147 rfl rfl ?_
        refine wp_get (q := 151) fl_FG_187 d_FG_busTold_148 rfl (rdR (w := 0) (by decide) (by omega)) rfl ?_
        refine wp_iret d_FG_busTold_151 rfl (Nat.le_refl _) (Nat.le_refl _) ?_
        simp only [sp_busTold, inn, inb, inm, btw, inb_t hnb h12 hb1, tnt (Nat.lt_of_lt_of_le hb1 h12), inn_t (show 10 ≤ 11 by decide), tnl (show 10 ≤ 11 by decide), (show ¬ nI 10 = nI 0 by decide), (show ¬ nI 10 = nI 1 by decide), (show ¬ nI 10 = nI 2 by decide), (show ¬ nI 10 = nI 3 by decide), (show ¬ nI 10 = nI 4 by decide), (show ¬ nI 10 = nI 5 by decide), (show ¬ nI 10 = nI 6 by decide), (show ¬ nI 10 = nI 7 by decide), (show ¬ nI 10 = nI 8 by decide), (show ¬ nI 10 = nI 9 by decide), (show ¬ nI 10 = nI 11 by decide), not_true_eq_false, not_false_eq_true, or_false, false_or, or_true, true_or, and_true, true_and, and_false, false_and, or_self, and_self, if_true, if_false, ite_true, ite_false, eq_self] at hK
        first | exact hK | (simp (disch := omega) only [tput_eq, tput2, tput_ne, upd_eq, upd_ne, ne_eq, va_upeq, va_upne, va_up2, not_true_eq_false, not_false_eq_true, or_false, false_or, or_true, true_or, and_true, true_and, and_false, false_and, or_self, and_self, if_true, if_false, ite_true, ite_false, eq_self] at hK ⊢; exact hK) | (simp (disch := omega) only [tput_eq, tput2, tput_ne, upd_eq, upd_ne, ne_eq, va_upeq, va_upne, va_up2, not_true_eq_false, not_false_eq_true, or_false, false_or, or_true, true_or, and_true, true_and, and_false, false_and, or_self, and_self, if_true, if_false, ite_true, ite_false, eq_self]; exact hK) | (simp (disch := omega) only [tput_eq, tput2, tput_ne, upd_eq, upd_ne, ne_eq, va_upeq, va_upne, va_up2, not_true_eq_false, not_false_eq_true, or_false, false_or, or_true, true_or, and_true, true_and, and_false, false_and, or_self, and_self, if_true, if_false, ite_true, ite_false, eq_self] at hK; exact hK)
      · refine wp_tabIn (tgt := 152) d_FG_busTold_22 (by decide) (by decide) rfl (by decide) ?_
        refine wp_aload_n (q := 153) d_FG_busTold_152 rfl rfl ?_
        refine wp_get (q := 156) fl_FG_190 d_FG_busTold_153 rfl (rdR (w := 0) (by decide) (by omega)) rfl ?_
        refine wp_iret d_FG_busTold_156 rfl (Nat.le_refl _) (Nat.le_refl _) ?_
        simp only [sp_busTold, inn, inb, inm, btw, inb_t hnb h12 hb1, tnt (Nat.lt_of_lt_of_le hb1 h12), inn_t (show 11 ≤ 11 by decide), tnl (show 11 ≤ 11 by decide), (show ¬ nI 11 = nI 0 by decide), (show ¬ nI 11 = nI 1 by decide), (show ¬ nI 11 = nI 2 by decide), (show ¬ nI 11 = nI 3 by decide), (show ¬ nI 11 = nI 4 by decide), (show ¬ nI 11 = nI 5 by decide), (show ¬ nI 11 = nI 6 by decide), (show ¬ nI 11 = nI 7 by decide), (show ¬ nI 11 = nI 8 by decide), (show ¬ nI 11 = nI 9 by decide), (show ¬ nI 11 = nI 10 by decide), not_true_eq_false, not_false_eq_true, or_false, false_or, or_true, true_or, and_true, true_and, and_false, false_and, or_self, and_self, if_true, if_false, ite_true, ite_false, eq_self] at hK
        first | exact hK | (simp (disch := omega) only [tput_eq, tput2, tput_ne, upd_eq, upd_ne, ne_eq, va_upeq, va_upne, va_up2, not_true_eq_false, not_false_eq_true, or_false, false_or, or_true, true_or, and_true, true_and, and_false, false_and, or_self, and_self, if_true, if_false, ite_true, ite_false, eq_self] at hK ⊢; exact hK) | (simp (disch := omega) only [tput_eq, tput2, tput_ne, upd_eq, upd_ne, ne_eq, va_upeq, va_upne, va_up2, not_true_eq_false, not_false_eq_true, or_false, false_or, or_true, true_or, and_true, true_and, and_false, false_and, or_self, and_self, if_true, if_false, ite_true, ite_false, eq_self]; exact hK) | (simp (disch := omega) only [tput_eq, tput2, tput_ne, upd_eq, upd_ne, ne_eq, va_upeq, va_upne, va_up2, not_true_eq_false, not_false_eq_true, or_false, false_or, or_true, true_or, and_true, true_and, and_false, false_and, or_self, and_self, if_true, if_false, ite_true, ite_false, eq_self] at hK; exact hK)
    · refine wp_tabOut (tgt := 157) d_FG_busTold_22 ho_22 (by decide) ?_
      refine wp_bipush (q := 159) d_FG_busTold_157 rfl bp_m7 ?_
      refine wp_iret d_FG_busTold_159 rfl (Nat.le_refl _) (Nat.le_refl _) ?_
      simp only [sp_busTold, inn, inb, inm, btw, inb_t hnb h12 hb1, tnt (Nat.lt_of_lt_of_le hb1 h12), hn_22, not_true_eq_false, not_false_eq_true, or_false, false_or, or_true, true_or, and_true, true_and, and_false, false_and, or_self, and_self, if_true, if_false, ite_true, ite_false, eq_self] at hK
      first | exact hK | (simp (disch := omega) only [tput_eq, tput2, tput_ne, upd_eq, upd_ne, ne_eq, va_upeq, va_upne, va_up2, not_true_eq_false, not_false_eq_true, or_false, false_or, or_true, true_or, and_true, true_and, and_false, false_and, or_self, and_self, if_true, if_false, ite_true, ite_false, eq_self] at hK ⊢; exact hK) | (simp (disch := omega) only [tput_eq, tput2, tput_ne, upd_eq, upd_ne, ne_eq, va_upeq, va_upne, va_up2, not_true_eq_false, not_false_eq_true, or_false, false_or, or_true, true_or, and_true, true_and, and_false, false_and, or_self, and_self, if_true, if_false, ite_true, ite_false, eq_self]; exact hK) | (simp (disch := omega) only [tput_eq, tput2, tput_ne, upd_eq, upd_ne, ne_eq, va_upeq, va_upne, va_up2, not_true_eq_false, not_false_eq_true, or_false, false_or, or_true, true_or, and_true, true_and, and_false, false_and, or_self, and_self, if_true, if_false, ite_true, ite_false, eq_self] at hK; exact hK)
  · refine wp_if_ne_f (q := 8) (tgt := 11) d_FG_busTold_5 (by decide) rfl (by decide) ?_
    refine wp_bipush (q := 10) d_FG_busTold_8 rfl bp_m5 ?_
    refine wp_iret d_FG_busTold_10 rfl (Nat.le_refl _) (Nat.le_refl _) ?_
    simp only [sp_busTold, inn, inb, inm, btw, hb1, not_true_eq_false, not_false_eq_true, or_false, false_or, or_true, true_or, and_true, true_and, and_false, false_and, or_self, and_self, if_true, if_false, ite_true, ite_false, eq_self] at hK
    first | exact hK | (simp (disch := omega) only [tput_eq, tput2, tput_ne, upd_eq, upd_ne, ne_eq, va_upeq, va_upne, va_up2, not_true_eq_false, not_false_eq_true, or_false, false_or, or_true, true_or, and_true, true_and, and_false, false_and, or_self, and_self, if_true, if_false, ite_true, ite_false, eq_self] at hK ⊢; exact hK) | (simp (disch := omega) only [tput_eq, tput2, tput_ne, upd_eq, upd_ne, ne_eq, va_upeq, va_upne, va_up2, not_true_eq_false, not_false_eq_true, or_false, false_or, or_true, true_or, and_true, true_and, and_false, false_and, or_self, and_self, if_true, if_false, ite_true, ite_false, eq_self]; exact hK) | (simp (disch := omega) only [tput_eq, tput2, tput_ne, upd_eq, upd_ne, ne_eq, va_upeq, va_upne, va_up2, not_true_eq_false, not_false_eq_true, or_false, false_or, or_true, true_or, and_true, true_and, and_false, false_and, or_self, and_self, if_true, if_false, ite_true, ite_false, eq_self] at hK; exact hK)
theorem d_Rf_busTold_0 : decode M_Rf_busTold.2.1 0 = .ok (.aload_n 0, 1) := by decide +kernel
theorem d_Rf_busTold_1 : decode M_Rf_busTold.2.1 1 = .ok (.iload_n 1, 1) := by decide +kernel
theorem d_Rf_busTold_2 : decode M_Rf_busTold.2.1 2 = .ok (.invokevirtual 167, 3) := by decide +kernel
theorem d_Rf_busTold_5 : decode M_Rf_busTold.2.1 5 = .ok (.ifCond .ne 6, 3) := by decide +kernel
theorem d_Rf_busTold_8 : decode M_Rf_busTold.2.1 8 = .ok (.bipush (-5), 2) := by decide +kernel
theorem d_Rf_busTold_10 : decode M_Rf_busTold.2.1 10 = .ok (.ireturn, 1) := by decide +kernel
theorem d_Rf_busTold_11 : decode M_Rf_busTold.2.1 11 = .ok (.iload_n 2, 1) := by decide +kernel
theorem d_Rf_busTold_12 : decode M_Rf_busTold.2.1 12 = .ok (.tableswitch 174 0 11 #[64, 74, 84, 113, 123, 133, 144, 144, 144, 144, 144, 163], 64) := by decide +kernel
theorem d_Rf_busTold_76 : decode M_Rf_busTold.2.1 76 = .ok (.aload_n 0, 1) := by decide +kernel
theorem d_Rf_busTold_77 : decode M_Rf_busTold.2.1 77 = .ok (.getfield 7, 3) := by decide +kernel
theorem d_Rf_busTold_80 : decode M_Rf_busTold.2.1 80 = .ok (.bipush 72, 2) := by decide +kernel
theorem d_Rf_busTold_82 : decode M_Rf_busTold.2.1 82 = .ok (.iload_n 1, 1) := by decide +kernel
theorem d_Rf_busTold_83 : decode M_Rf_busTold.2.1 83 = .ok (.iadd, 1) := by decide +kernel
theorem d_Rf_busTold_84 : decode M_Rf_busTold.2.1 84 = .ok (.iaload, 1) := by decide +kernel
theorem d_Rf_busTold_85 : decode M_Rf_busTold.2.1 85 = .ok (.ireturn, 1) := by decide +kernel
theorem d_Rf_busTold_86 : decode M_Rf_busTold.2.1 86 = .ok (.aload_n 0, 1) := by decide +kernel
theorem d_Rf_busTold_87 : decode M_Rf_busTold.2.1 87 = .ok (.getfield 7, 3) := by decide +kernel
theorem d_Rf_busTold_90 : decode M_Rf_busTold.2.1 90 = .ok (.bipush 84, 2) := by decide +kernel
theorem d_Rf_busTold_92 : decode M_Rf_busTold.2.1 92 = .ok (.iload_n 1, 1) := by decide +kernel
theorem d_Rf_busTold_93 : decode M_Rf_busTold.2.1 93 = .ok (.iadd, 1) := by decide +kernel
theorem d_Rf_busTold_94 : decode M_Rf_busTold.2.1 94 = .ok (.iaload, 1) := by decide +kernel
theorem d_Rf_busTold_95 : decode M_Rf_busTold.2.1 95 = .ok (.ireturn, 1) := by decide +kernel
theorem d_Rf_busTold_96 : decode M_Rf_busTold.2.1 96 = .ok (.aload_n 0, 1) := by decide +kernel
theorem d_Rf_busTold_97 : decode M_Rf_busTold.2.1 97 = .ok (.getfield 7, 3) := by decide +kernel
theorem d_Rf_busTold_100 : decode M_Rf_busTold.2.1 100 = .ok (.bipush 72, 2) := by decide +kernel
theorem d_Rf_busTold_102 : decode M_Rf_busTold.2.1 102 = .ok (.iload_n 1, 1) := by decide +kernel
theorem d_Rf_busTold_103 : decode M_Rf_busTold.2.1 103 = .ok (.iadd, 1) := by decide +kernel
theorem d_Rf_busTold_104 : decode M_Rf_busTold.2.1 104 = .ok (.iaload, 1) := by decide +kernel
theorem d_Rf_busTold_105 : decode M_Rf_busTold.2.1 105 = .ok (.iconst 1, 1) := by decide +kernel
theorem d_Rf_busTold_106 : decode M_Rf_busTold.2.1 106 = .ok (.if_icmp .ne 15, 3) := by decide +kernel
theorem d_Rf_busTold_109 : decode M_Rf_busTold.2.1 109 = .ok (.aload_n 0, 1) := by decide +kernel
theorem d_Rf_busTold_110 : decode M_Rf_busTold.2.1 110 = .ok (.getfield 7, 3) := by decide +kernel
theorem d_Rf_busTold_113 : decode M_Rf_busTold.2.1 113 = .ok (.bipush 96, 2) := by decide +kernel
theorem d_Rf_busTold_115 : decode M_Rf_busTold.2.1 115 = .ok (.iload_n 1, 1) := by decide +kernel
theorem d_Rf_busTold_116 : decode M_Rf_busTold.2.1 116 = .ok (.iadd, 1) := by decide +kernel
theorem d_Rf_busTold_117 : decode M_Rf_busTold.2.1 117 = .ok (.iaload, 1) := by decide +kernel
theorem d_Rf_busTold_118 : decode M_Rf_busTold.2.1 118 = .ok (.goto 6, 3) := by decide +kernel
theorem d_Rf_busTold_121 : decode M_Rf_busTold.2.1 121 = .ok (.ldc_w 263, 3) := by decide +kernel
theorem d_Rf_busTold_124 : decode M_Rf_busTold.2.1 124 = .ok (.ireturn, 1) := by decide +kernel
theorem d_Rf_busTold_125 : decode M_Rf_busTold.2.1 125 = .ok (.aload_n 0, 1) := by decide +kernel
theorem d_Rf_busTold_126 : decode M_Rf_busTold.2.1 126 = .ok (.getfield 7, 3) := by decide +kernel
theorem d_Rf_busTold_129 : decode M_Rf_busTold.2.1 129 = .ok (.bipush 108, 2) := by decide +kernel
theorem d_Rf_busTold_131 : decode M_Rf_busTold.2.1 131 = .ok (.iload_n 1, 1) := by decide +kernel
theorem d_Rf_busTold_132 : decode M_Rf_busTold.2.1 132 = .ok (.iadd, 1) := by decide +kernel
theorem d_Rf_busTold_133 : decode M_Rf_busTold.2.1 133 = .ok (.iaload, 1) := by decide +kernel
theorem d_Rf_busTold_134 : decode M_Rf_busTold.2.1 134 = .ok (.ireturn, 1) := by decide +kernel
theorem d_Rf_busTold_135 : decode M_Rf_busTold.2.1 135 = .ok (.aload_n 0, 1) := by decide +kernel
theorem d_Rf_busTold_136 : decode M_Rf_busTold.2.1 136 = .ok (.getfield 7, 3) := by decide +kernel
theorem d_Rf_busTold_139 : decode M_Rf_busTold.2.1 139 = .ok (.bipush 120, 2) := by decide +kernel
theorem d_Rf_busTold_141 : decode M_Rf_busTold.2.1 141 = .ok (.iload_n 1, 1) := by decide +kernel
theorem d_Rf_busTold_142 : decode M_Rf_busTold.2.1 142 = .ok (.iadd, 1) := by decide +kernel
theorem d_Rf_busTold_143 : decode M_Rf_busTold.2.1 143 = .ok (.iaload, 1) := by decide +kernel
theorem d_Rf_busTold_144 : decode M_Rf_busTold.2.1 144 = .ok (.ireturn, 1) := by decide +kernel
theorem d_Rf_busTold_145 : decode M_Rf_busTold.2.1 145 = .ok (.aload_n 0, 1) := by decide +kernel
theorem d_Rf_busTold_146 : decode M_Rf_busTold.2.1 146 = .ok (.getfield 7, 3) := by decide +kernel
theorem d_Rf_busTold_149 : decode M_Rf_busTold.2.1 149 = .ok (.sipush 132, 3) := by decide +kernel
theorem d_Rf_busTold_152 : decode M_Rf_busTold.2.1 152 = .ok (.iload_n 1, 1) := by decide +kernel
theorem d_Rf_busTold_153 : decode M_Rf_busTold.2.1 153 = .ok (.iadd, 1) := by decide +kernel
theorem d_Rf_busTold_154 : decode M_Rf_busTold.2.1 154 = .ok (.iaload, 1) := by decide +kernel
theorem d_Rf_busTold_155 : decode M_Rf_busTold.2.1 155 = .ok (.ireturn, 1) := by decide +kernel
theorem d_Rf_busTold_156 : decode M_Rf_busTold.2.1 156 = .ok (.aload_n 0, 1) := by decide +kernel
theorem d_Rf_busTold_157 : decode M_Rf_busTold.2.1 157 = .ok (.getfield 7, 3) := by decide +kernel
theorem d_Rf_busTold_160 : decode M_Rf_busTold.2.1 160 = .ok (.sipush 168, 3) := by decide +kernel
theorem d_Rf_busTold_163 : decode M_Rf_busTold.2.1 163 = .ok (.bipush 12, 2) := by decide +kernel
theorem d_Rf_busTold_165 : decode M_Rf_busTold.2.1 165 = .ok (.iload_n 2, 1) := by decide +kernel
theorem d_Rf_busTold_166 : decode M_Rf_busTold.2.1 166 = .ok (.bipush 6, 2) := by decide +kernel
theorem d_Rf_busTold_168 : decode M_Rf_busTold.2.1 168 = .ok (.isub, 1) := by decide +kernel
theorem d_Rf_busTold_169 : decode M_Rf_busTold.2.1 169 = .ok (.imul, 1) := by decide +kernel
theorem d_Rf_busTold_170 : decode M_Rf_busTold.2.1 170 = .ok (.iadd, 1) := by decide +kernel
theorem d_Rf_busTold_171 : decode M_Rf_busTold.2.1 171 = .ok (.iload_n 1, 1) := by decide +kernel
theorem d_Rf_busTold_172 : decode M_Rf_busTold.2.1 172 = .ok (.iadd, 1) := by decide +kernel
theorem d_Rf_busTold_173 : decode M_Rf_busTold.2.1 173 = .ok (.iaload, 1) := by decide +kernel
theorem d_Rf_busTold_174 : decode M_Rf_busTold.2.1 174 = .ok (.ireturn, 1) := by decide +kernel
theorem d_Rf_busTold_175 : decode M_Rf_busTold.2.1 175 = .ok (.aload_n 0, 1) := by decide +kernel
theorem d_Rf_busTold_176 : decode M_Rf_busTold.2.1 176 = .ok (.getfield 7, 3) := by decide +kernel
theorem d_Rf_busTold_179 : decode M_Rf_busTold.2.1 179 = .ok (.sipush 156, 3) := by decide +kernel
theorem d_Rf_busTold_182 : decode M_Rf_busTold.2.1 182 = .ok (.iload_n 1, 1) := by decide +kernel
theorem d_Rf_busTold_183 : decode M_Rf_busTold.2.1 183 = .ok (.iadd, 1) := by decide +kernel
theorem d_Rf_busTold_184 : decode M_Rf_busTold.2.1 184 = .ok (.iaload, 1) := by decide +kernel
theorem d_Rf_busTold_185 : decode M_Rf_busTold.2.1 185 = .ok (.ireturn, 1) := by decide +kernel
theorem d_Rf_busTold_186 : decode M_Rf_busTold.2.1 186 = .ok (.bipush (-7), 2) := by decide +kernel
theorem d_Rf_busTold_188 : decode M_Rf_busTold.2.1 188 = .ok (.ireturn, 1) := by decide +kernel
set_option maxHeartbeats 4000000 in
set_option maxRecDepth 100000 in
theorem ok_Rf_busTold {D : xD} {N : Nat} {l : Launch} {d : Nat} {c z : T2} {P Q : Nat → Int32} {rest : List va_E} {K : Option Value → List va_E → Prop} {b w : Int32} {nb : Nat} (hnb : c 32 1 = nI nb) (h12 : nb ≤ 12) (hK : K (some (.int (sp_busTold c P b w))) (encR D N c z P Q ++ rest)) : Ok D N l (d + 2) M_Rf_busTold [.ref (N + 0), .int b, .int w] (encR D N c z P Q ++ rest) 0 0 K := by
  refine ok_of (L := [(0, _), (1, _), (2, _)]) (by decide) (Nat.le_of_ble_eq_true rfl) rfl ?_
  rcases sw w 11 (by decide) with ⟨k_sw, hk_sw, rfl⟩ | ⟨hn_sw, ho_sw⟩
  · rcases (show k_sw = 0 ∨ k_sw = 1 ∨ k_sw = 2 ∨ k_sw = 3 ∨ k_sw = 4 ∨ k_sw = 5 ∨ k_sw = 6 ∨ k_sw = 7 ∨ k_sw = 8 ∨ k_sw = 9 ∨ k_sw = 10 ∨ k_sw = 11 by omega) with rfl | rfl | rfl | rfl | rfl | rfl | rfl | rfl | rfl | rfl | rfl | rfl
    · skip
      refine wp_aload_n (q := 1) d_Rf_busTold_0 rfl rfl ?_
      refine wp_iload_n (q := 2) d_Rf_busTold_1 rfl rfl ?_
      refine wp_cv1 (q := 5) lk_Rf_167 (ro _ _ _) d_Rf_busTold_2 rfl (Nat.le_of_ble_eq_true rfl) (rfl) rfl (Nat.zero_le _) (Nat.zero_le _) ?_
      refine ok_Rf_isBus hnb h12 (fun b1 hb1 e => ?_) (fun hb1 => ?_)
      · subst e
        refine wp_if_ne_t (tgt := 11) d_Rf_busTold_5 (by decide) (by decide) ?_
        refine wp_iload_n (q := 12) d_Rf_busTold_11 rfl rfl ?_
        refine wp_tabIn (tgt := 76) d_Rf_busTold_12 (by decide) (by decide) rfl (by decide) ?_
        refine wp_aload_n (q := 77) d_Rf_busTold_76 rfl rfl ?_
        refine wp_get (q := 80) fl_Rf_7 d_Rf_busTold_77 rfl rfl rfl ?_
        refine wp_bipush (q := 82) d_Rf_busTold_80 rfl bp_72 ?_
        refine wp_iload_n (q := 83) d_Rf_busTold_82 rfl rfl ?_
        first | refine wp_iaddN (q := 84) d_Rf_busTold_83 rfl ?_ | refine wp_iadd (q := 84) d_Rf_busTold_83 rfl ?_
        refine wp_iald (q := 85) d_Rf_busTold_84 rfl (rfl) (by omega) (by decide) ?_
        refine wp_iret d_Rf_busTold_85 rfl (Nat.le_refl _) (Nat.le_refl _) ?_
        simp only [sp_busTold, inn, inb, inm, btw, inn_t (show 0 ≤ 11 by decide), tnl (show 0 ≤ 11 by decide), (show ¬ nI 0 = nI 1 by decide), (show ¬ nI 0 = nI 2 by decide), (show ¬ nI 0 = nI 3 by decide), (show ¬ nI 0 = nI 4 by decide), (show ¬ nI 0 = nI 5 by decide), (show ¬ nI 0 = nI 6 by decide), (show ¬ nI 0 = nI 7 by decide), (show ¬ nI 0 = nI 8 by decide), (show ¬ nI 0 = nI 9 by decide), (show ¬ nI 0 = nI 10 by decide), (show ¬ nI 0 = nI 11 by decide), inb_t hnb h12 hb1, tnt (Nat.lt_of_lt_of_le hb1 h12), not_true_eq_false, not_false_eq_true, or_false, false_or, or_true, true_or, and_true, true_and, and_false, false_and, or_self, and_self, if_true, if_false, ite_true, ite_false, eq_self] at hK
        first | exact hK | (simp (disch := omega) only [tput_eq, tput2, tput_ne, upd_eq, upd_ne, ne_eq, va_upeq, va_upne, va_up2, not_true_eq_false, not_false_eq_true, or_false, false_or, or_true, true_or, and_true, true_and, and_false, false_and, or_self, and_self, if_true, if_false, ite_true, ite_false, eq_self] at hK ⊢; exact hK) | (simp (disch := omega) only [tput_eq, tput2, tput_ne, upd_eq, upd_ne, ne_eq, va_upeq, va_upne, va_up2, not_true_eq_false, not_false_eq_true, or_false, false_or, or_true, true_or, and_true, true_and, and_false, false_and, or_self, and_self, if_true, if_false, ite_true, ite_false, eq_self]; exact hK) | (simp (disch := omega) only [tput_eq, tput2, tput_ne, upd_eq, upd_ne, ne_eq, va_upeq, va_upne, va_up2, not_true_eq_false, not_false_eq_true, or_false, false_or, or_true, true_or, and_true, true_and, and_false, false_and, or_self, and_self, if_true, if_false, ite_true, ite_false, eq_self] at hK; exact hK)
      · refine wp_if_ne_f (q := 8) (tgt := 11) d_Rf_busTold_5 (by decide) rfl (by decide) ?_
        refine wp_bipush (q := 10) d_Rf_busTold_8 rfl bp_m5 ?_
        refine wp_iret d_Rf_busTold_10 rfl (Nat.le_refl _) (Nat.le_refl _) ?_
        simp only [sp_busTold, inn, inb, inm, btw, inn_t (show 0 ≤ 11 by decide), tnl (show 0 ≤ 11 by decide), (show ¬ nI 0 = nI 1 by decide), (show ¬ nI 0 = nI 2 by decide), (show ¬ nI 0 = nI 3 by decide), (show ¬ nI 0 = nI 4 by decide), (show ¬ nI 0 = nI 5 by decide), (show ¬ nI 0 = nI 6 by decide), (show ¬ nI 0 = nI 7 by decide), (show ¬ nI 0 = nI 8 by decide), (show ¬ nI 0 = nI 9 by decide), (show ¬ nI 0 = nI 10 by decide), (show ¬ nI 0 = nI 11 by decide), hb1, not_true_eq_false, not_false_eq_true, or_false, false_or, or_true, true_or, and_true, true_and, and_false, false_and, or_self, and_self, if_true, if_false, ite_true, ite_false, eq_self] at hK
        first | exact hK | (simp (disch := omega) only [tput_eq, tput2, tput_ne, upd_eq, upd_ne, ne_eq, va_upeq, va_upne, va_up2, not_true_eq_false, not_false_eq_true, or_false, false_or, or_true, true_or, and_true, true_and, and_false, false_and, or_self, and_self, if_true, if_false, ite_true, ite_false, eq_self] at hK ⊢; exact hK) | (simp (disch := omega) only [tput_eq, tput2, tput_ne, upd_eq, upd_ne, ne_eq, va_upeq, va_upne, va_up2, not_true_eq_false, not_false_eq_true, or_false, false_or, or_true, true_or, and_true, true_and, and_false, false_and, or_self, and_self, if_true, if_false, ite_true, ite_false, eq_self]; exact hK) | (simp (disch := omega) only [tput_eq, tput2, tput_ne, upd_eq, upd_ne, ne_eq, va_upeq, va_upne, va_up2, not_true_eq_false, not_false_eq_true, or_false, false_or, or_true, true_or, and_true, true_and, and_false, false_and, or_self, and_self, if_true, if_false, ite_true, ite_false, eq_self] at hK; exact hK)
    · skip
      refine wp_aload_n (q := 1) d_Rf_busTold_0 rfl rfl ?_
      refine wp_iload_n (q := 2) d_Rf_busTold_1 rfl rfl ?_
      refine wp_cv1 (q := 5) lk_Rf_167 (ro _ _ _) d_Rf_busTold_2 rfl (Nat.le_of_ble_eq_true rfl) (rfl) rfl (Nat.zero_le _) (Nat.zero_le _) ?_
      refine ok_Rf_isBus hnb h12 (fun b1 hb1 e => ?_) (fun hb1 => ?_)
      · subst e
        refine wp_if_ne_t (tgt := 11) d_Rf_busTold_5 (by decide) (by decide) ?_
        refine wp_iload_n (q := 12) d_Rf_busTold_11 rfl rfl ?_
        refine wp_tabIn (tgt := 86) d_Rf_busTold_12 (by decide) (by decide) rfl (by decide) ?_
        refine wp_aload_n (q := 87) d_Rf_busTold_86 rfl rfl ?_
        refine wp_get (q := 90) fl_Rf_7 d_Rf_busTold_87 rfl rfl rfl ?_
        refine wp_bipush (q := 92) d_Rf_busTold_90 rfl bp_84 ?_
        refine wp_iload_n (q := 93) d_Rf_busTold_92 rfl rfl ?_
        first | refine wp_iaddN (q := 94) d_Rf_busTold_93 rfl ?_ | refine wp_iadd (q := 94) d_Rf_busTold_93 rfl ?_
        refine wp_iald (q := 95) d_Rf_busTold_94 rfl (rfl) (by omega) (by decide) ?_
        refine wp_iret d_Rf_busTold_95 rfl (Nat.le_refl _) (Nat.le_refl _) ?_
        simp only [sp_busTold, inn, inb, inm, btw, inn_t (show 1 ≤ 11 by decide), tnl (show 1 ≤ 11 by decide), (show ¬ nI 1 = nI 0 by decide), (show ¬ nI 1 = nI 2 by decide), (show ¬ nI 1 = nI 3 by decide), (show ¬ nI 1 = nI 4 by decide), (show ¬ nI 1 = nI 5 by decide), (show ¬ nI 1 = nI 6 by decide), (show ¬ nI 1 = nI 7 by decide), (show ¬ nI 1 = nI 8 by decide), (show ¬ nI 1 = nI 9 by decide), (show ¬ nI 1 = nI 10 by decide), (show ¬ nI 1 = nI 11 by decide), inb_t hnb h12 hb1, tnt (Nat.lt_of_lt_of_le hb1 h12), not_true_eq_false, not_false_eq_true, or_false, false_or, or_true, true_or, and_true, true_and, and_false, false_and, or_self, and_self, if_true, if_false, ite_true, ite_false, eq_self] at hK
        first | exact hK | (simp (disch := omega) only [tput_eq, tput2, tput_ne, upd_eq, upd_ne, ne_eq, va_upeq, va_upne, va_up2, not_true_eq_false, not_false_eq_true, or_false, false_or, or_true, true_or, and_true, true_and, and_false, false_and, or_self, and_self, if_true, if_false, ite_true, ite_false, eq_self] at hK ⊢; exact hK) | (simp (disch := omega) only [tput_eq, tput2, tput_ne, upd_eq, upd_ne, ne_eq, va_upeq, va_upne, va_up2, not_true_eq_false, not_false_eq_true, or_false, false_or, or_true, true_or, and_true, true_and, and_false, false_and, or_self, and_self, if_true, if_false, ite_true, ite_false, eq_self]; exact hK) | (simp (disch := omega) only [tput_eq, tput2, tput_ne, upd_eq, upd_ne, ne_eq, va_upeq, va_upne, va_up2, not_true_eq_false, not_false_eq_true, or_false, false_or, or_true, true_or, and_true, true_and, and_false, false_and, or_self, and_self, if_true, if_false, ite_true, ite_false, eq_self] at hK; exact hK)
      · refine wp_if_ne_f (q := 8) (tgt := 11) d_Rf_busTold_5 (by decide) rfl (by decide) ?_
        refine wp_bipush (q := 10) d_Rf_busTold_8 rfl bp_m5 ?_
        refine wp_iret d_Rf_busTold_10 rfl (Nat.le_refl _) (Nat.le_refl _) ?_
        simp only [sp_busTold, inn, inb, inm, btw, inn_t (show 1 ≤ 11 by decide), tnl (show 1 ≤ 11 by decide), (show ¬ nI 1 = nI 0 by decide), (show ¬ nI 1 = nI 2 by decide), (show ¬ nI 1 = nI 3 by decide), (show ¬ nI 1 = nI 4 by decide), (show ¬ nI 1 = nI 5 by decide), (show ¬ nI 1 = nI 6 by decide), (show ¬ nI 1 = nI 7 by decide), (show ¬ nI 1 = nI 8 by decide), (show ¬ nI 1 = nI 9 by decide), (show ¬ nI 1 = nI 10 by decide), (show ¬ nI 1 = nI 11 by decide), hb1, not_true_eq_false, not_false_eq_true, or_false, false_or, or_true, true_or, and_true, true_and, and_false, false_and, or_self, and_self, if_true, if_false, ite_true, ite_false, eq_self] at hK
        first | exact hK | (simp (disch := omega) only [tput_eq, tput2, tput_ne, upd_eq, upd_ne, ne_eq, va_upeq, va_upne, va_up2, not_true_eq_false, not_false_eq_true, or_false, false_or, or_true, true_or, and_true, true_and, and_false, false_and, or_self, and_self, if_true, if_false, ite_true, ite_false, eq_self] at hK ⊢; exact hK) | (simp (disch := omega) only [tput_eq, tput2, tput_ne, upd_eq, upd_ne, ne_eq, va_upeq, va_upne, va_up2, not_true_eq_false, not_false_eq_true, or_false, false_or, or_true, true_or, and_true, true_and, and_false, false_and, or_self, and_self, if_true, if_false, ite_true, ite_false, eq_self]; exact hK) | (simp (disch := omega) only [tput_eq, tput2, tput_ne, upd_eq, upd_ne, ne_eq, va_upeq, va_upne, va_up2, not_true_eq_false, not_false_eq_true, or_false, false_or, or_true, true_or, and_true, true_and, and_false, false_and, or_self, and_self, if_true, if_false, ite_true, ite_false, eq_self] at hK; exact hK)
    · skip
      refine wp_aload_n (q := 1) d_Rf_busTold_0 rfl rfl ?_
      refine wp_iload_n (q := 2) d_Rf_busTold_1 rfl rfl ?_
      refine wp_cv1 (q := 5) lk_Rf_167 (ro _ _ _) d_Rf_busTold_2 rfl (Nat.le_of_ble_eq_true rfl) (rfl) rfl (Nat.zero_le _) (Nat.zero_le _) ?_
      refine ok_Rf_isBus hnb h12 (fun b1 hb1 e => ?_) (fun hb1 => ?_)
      · subst e
        refine wp_if_ne_t (tgt := 11) d_Rf_busTold_5 (by decide) (by decide) ?_
        refine wp_iload_n (q := 12) d_Rf_busTold_11 rfl rfl ?_
        refine wp_tabIn (tgt := 96) d_Rf_busTold_12 (by decide) (by decide) rfl (by decide) ?_
        refine wp_aload_n (q := 97) d_Rf_busTold_96 rfl rfl ?_
        refine wp_get (q := 100) fl_Rf_7 d_Rf_busTold_97 rfl rfl rfl ?_
        refine wp_bipush (q := 102) d_Rf_busTold_100 rfl bp_72 ?_
        refine wp_iload_n (q := 103) d_Rf_busTold_102 rfl rfl ?_
        first | refine wp_iaddN (q := 104) d_Rf_busTold_103 rfl ?_ | refine wp_iadd (q := 104) d_Rf_busTold_103 rfl ?_
        refine wp_iald (q := 105) d_Rf_busTold_104 rfl (rfl) (by omega) (by decide) ?_
        refine wp_iconst (q := 106) d_Rf_busTold_105 rfl ic_1 ?_
        refine wp_icmp_ne (q := 109) (tgt := 121) d_Rf_busTold_106 (by decide) rfl (fun hc_106 => ?_) (fun hc_106 => ?_)
        · refine wp_ldcw (q := 124) d_Rf_busTold_121 rfl kc_Rf_263 ?_
          refine wp_iret d_Rf_busTold_124 rfl (Nat.le_refl _) (Nat.le_refl _) ?_
          simp only [sp_busTold, inn, inb, inm, btw, inn_t (show 2 ≤ 11 by decide), tnl (show 2 ≤ 11 by decide), (show ¬ nI 2 = nI 0 by decide), (show ¬ nI 2 = nI 1 by decide), (show ¬ nI 2 = nI 3 by decide), (show ¬ nI 2 = nI 4 by decide), (show ¬ nI 2 = nI 5 by decide), (show ¬ nI 2 = nI 6 by decide), (show ¬ nI 2 = nI 7 by decide), (show ¬ nI 2 = nI 8 by decide), (show ¬ nI 2 = nI 9 by decide), (show ¬ nI 2 = nI 10 by decide), (show ¬ nI 2 = nI 11 by decide), inb_t hnb h12 hb1, tnt (Nat.lt_of_lt_of_le hb1 h12), hc_106, not_true_eq_false, not_false_eq_true, or_false, false_or, or_true, true_or, and_true, true_and, and_false, false_and, or_self, and_self, if_true, if_false, ite_true, ite_false, eq_self] at hK
          first | exact hK | (simp (disch := omega) only [tput_eq, tput2, tput_ne, upd_eq, upd_ne, ne_eq, va_upeq, va_upne, va_up2, not_true_eq_false, not_false_eq_true, or_false, false_or, or_true, true_or, and_true, true_and, and_false, false_and, or_self, and_self, if_true, if_false, ite_true, ite_false, eq_self] at hK ⊢; exact hK) | (simp (disch := omega) only [tput_eq, tput2, tput_ne, upd_eq, upd_ne, ne_eq, va_upeq, va_upne, va_up2, not_true_eq_false, not_false_eq_true, or_false, false_or, or_true, true_or, and_true, true_and, and_false, false_and, or_self, and_self, if_true, if_false, ite_true, ite_false, eq_self]; exact hK) | (simp (disch := omega) only [tput_eq, tput2, tput_ne, upd_eq, upd_ne, ne_eq, va_upeq, va_upne, va_up2, not_true_eq_false, not_false_eq_true, or_false, false_or, or_true, true_or, and_true, true_and, and_false, false_and, or_self, and_self, if_true, if_false, ite_true, ite_false, eq_self] at hK; exact hK)
        · refine wp_aload_n (q := 110) d_Rf_busTold_109 rfl rfl ?_
          refine wp_get (q := 113) fl_Rf_7 d_Rf_busTold_110 rfl rfl rfl ?_
          refine wp_bipush (q := 115) d_Rf_busTold_113 rfl bp_96 ?_
          refine wp_iload_n (q := 116) d_Rf_busTold_115 rfl rfl ?_
          first | refine wp_iaddN (q := 117) d_Rf_busTold_116 rfl ?_ | refine wp_iadd (q := 117) d_Rf_busTold_116 rfl ?_
          refine wp_iald (q := 118) d_Rf_busTold_117 rfl (rfl) (by omega) (by decide) ?_
          refine wp_goto (tgt := 124) d_Rf_busTold_118 (by decide) ?_
          refine wp_iret d_Rf_busTold_124 rfl (Nat.le_refl _) (Nat.le_refl _) ?_
          simp only [sp_busTold, inn, inb, inm, btw, inn_t (show 2 ≤ 11 by decide), tnl (show 2 ≤ 11 by decide), (show ¬ nI 2 = nI 0 by decide), (show ¬ nI 2 = nI 1 by decide), (show ¬ nI 2 = nI 3 by decide), (show ¬ nI 2 = nI 4 by decide), (show ¬ nI 2 = nI 5 by decide), (show ¬ nI 2 = nI 6 by decide), (show ¬ nI 2 = nI 7 by decide), (show ¬ nI 2 = nI 8 by decide), (show ¬ nI 2 = nI 9 by decide), (show ¬ nI 2 = nI 10 by decide), (show ¬ nI 2 = nI 11 by decide), inb_t hnb h12 hb1, tnt (Nat.lt_of_lt_of_le hb1 h12), hc_106, not_true_eq_false, not_false_eq_true, or_false, false_or, or_true, true_or, and_true, true_and, and_false, false_and, or_self, and_self, if_true, if_false, ite_true, ite_false, eq_self] at hK
          first | exact hK | (simp (disch := omega) only [tput_eq, tput2, tput_ne, upd_eq, upd_ne, ne_eq, va_upeq, va_upne, va_up2, not_true_eq_false, not_false_eq_true, or_false, false_or, or_true, true_or, and_true, true_and, and_false, false_and, or_self, and_self, if_true, if_false, ite_true, ite_false, eq_self] at hK ⊢; exact hK) | (simp (disch := omega) only [tput_eq, tput2, tput_ne, upd_eq, upd_ne, ne_eq, va_upeq, va_upne, va_up2, not_true_eq_false, not_false_eq_true, or_false, false_or, or_true, true_or, and_true, true_and, and_false, false_and, or_self, and_self, if_true, if_false, ite_true, ite_false, eq_self]; exact hK) | (simp (disch := omega) only [tput_eq, tput2, tput_ne, upd_eq, upd_ne, ne_eq, va_upeq, va_upne, va_up2, not_true_eq_false, not_false_eq_true, or_false, false_or, or_true, true_or, and_true, true_and, and_false, false_and, or_self, and_self, if_true, if_false, ite_true, ite_false, eq_self] at hK; exact hK)
      · refine wp_if_ne_f (q := 8) (tgt := 11) d_Rf_busTold_5 (by decide) rfl (by decide) ?_
        refine wp_bipush (q := 10) d_Rf_busTold_8 rfl bp_m5 ?_
        refine wp_iret d_Rf_busTold_10 rfl (Nat.le_refl _) (Nat.le_refl _) ?_
        simp only [sp_busTold, inn, inb, inm, btw, inn_t (show 2 ≤ 11 by decide), tnl (show 2 ≤ 11 by decide), (show ¬ nI 2 = nI 0 by decide), (show ¬ nI 2 = nI 1 by decide), (show ¬ nI 2 = nI 3 by decide), (show ¬ nI 2 = nI 4 by decide), (show ¬ nI 2 = nI 5 by decide), (show ¬ nI 2 = nI 6 by decide), (show ¬ nI 2 = nI 7 by decide), (show ¬ nI 2 = nI 8 by decide), (show ¬ nI 2 = nI 9 by decide), (show ¬ nI 2 = nI 10 by decide), (show ¬ nI 2 = nI 11 by decide), hb1, not_true_eq_false, not_false_eq_true, or_false, false_or, or_true, true_or, and_true, true_and, and_false, false_and, or_self, and_self, if_true, if_false, ite_true, ite_false, eq_self] at hK
        first | exact hK | (simp (disch := omega) only [tput_eq, tput2, tput_ne, upd_eq, upd_ne, ne_eq, va_upeq, va_upne, va_up2, not_true_eq_false, not_false_eq_true, or_false, false_or, or_true, true_or, and_true, true_and, and_false, false_and, or_self, and_self, if_true, if_false, ite_true, ite_false, eq_self] at hK ⊢; exact hK) | (simp (disch := omega) only [tput_eq, tput2, tput_ne, upd_eq, upd_ne, ne_eq, va_upeq, va_upne, va_up2, not_true_eq_false, not_false_eq_true, or_false, false_or, or_true, true_or, and_true, true_and, and_false, false_and, or_self, and_self, if_true, if_false, ite_true, ite_false, eq_self]; exact hK) | (simp (disch := omega) only [tput_eq, tput2, tput_ne, upd_eq, upd_ne, ne_eq, va_upeq, va_upne, va_up2, not_true_eq_false, not_false_eq_true, or_false, false_or, or_true, true_or, and_true, true_and, and_false, false_and, or_self, and_self, if_true, if_false, ite_true, ite_false, eq_self] at hK; exact hK)
    · skip
      refine wp_aload_n (q := 1) d_Rf_busTold_0 rfl rfl ?_
      refine wp_iload_n (q := 2) d_Rf_busTold_1 rfl rfl ?_
      refine wp_cv1 (q := 5) lk_Rf_167 (ro _ _ _) d_Rf_busTold_2 rfl (Nat.le_of_ble_eq_true rfl) (rfl) rfl (Nat.zero_le _) (Nat.zero_le _) ?_
      refine ok_Rf_isBus hnb h12 (fun b1 hb1 e => ?_) (fun hb1 => ?_)
      · subst e
        refine wp_if_ne_t (tgt := 11) d_Rf_busTold_5 (by decide) (by decide) ?_
        refine wp_iload_n (q := 12) d_Rf_busTold_11 rfl rfl ?_
        refine wp_tabIn (tgt := 125) d_Rf_busTold_12 (by decide) (by decide) rfl (by decide) ?_
        refine wp_aload_n (q := 126) d_Rf_busTold_125 rfl rfl ?_
        refine wp_get (q := 129) fl_Rf_7 d_Rf_busTold_126 rfl rfl rfl ?_
        refine wp_bipush (q := 131) d_Rf_busTold_129 rfl bp_108 ?_
        refine wp_iload_n (q := 132) d_Rf_busTold_131 rfl rfl ?_
        first | refine wp_iaddN (q := 133) d_Rf_busTold_132 rfl ?_ | refine wp_iadd (q := 133) d_Rf_busTold_132 rfl ?_
        refine wp_iald (q := 134) d_Rf_busTold_133 rfl (rfl) (by omega) (by decide) ?_
        refine wp_iret d_Rf_busTold_134 rfl (Nat.le_refl _) (Nat.le_refl _) ?_
        simp only [sp_busTold, inn, inb, inm, btw, inn_t (show 3 ≤ 11 by decide), tnl (show 3 ≤ 11 by decide), (show ¬ nI 3 = nI 0 by decide), (show ¬ nI 3 = nI 1 by decide), (show ¬ nI 3 = nI 2 by decide), (show ¬ nI 3 = nI 4 by decide), (show ¬ nI 3 = nI 5 by decide), (show ¬ nI 3 = nI 6 by decide), (show ¬ nI 3 = nI 7 by decide), (show ¬ nI 3 = nI 8 by decide), (show ¬ nI 3 = nI 9 by decide), (show ¬ nI 3 = nI 10 by decide), (show ¬ nI 3 = nI 11 by decide), inb_t hnb h12 hb1, tnt (Nat.lt_of_lt_of_le hb1 h12), not_true_eq_false, not_false_eq_true, or_false, false_or, or_true, true_or, and_true, true_and, and_false, false_and, or_self, and_self, if_true, if_false, ite_true, ite_false, eq_self] at hK
        first | exact hK | (simp (disch := omega) only [tput_eq, tput2, tput_ne, upd_eq, upd_ne, ne_eq, va_upeq, va_upne, va_up2, not_true_eq_false, not_false_eq_true, or_false, false_or, or_true, true_or, and_true, true_and, and_false, false_and, or_self, and_self, if_true, if_false, ite_true, ite_false, eq_self] at hK ⊢; exact hK) | (simp (disch := omega) only [tput_eq, tput2, tput_ne, upd_eq, upd_ne, ne_eq, va_upeq, va_upne, va_up2, not_true_eq_false, not_false_eq_true, or_false, false_or, or_true, true_or, and_true, true_and, and_false, false_and, or_self, and_self, if_true, if_false, ite_true, ite_false, eq_self]; exact hK) | (simp (disch := omega) only [tput_eq, tput2, tput_ne, upd_eq, upd_ne, ne_eq, va_upeq, va_upne, va_up2, not_true_eq_false, not_false_eq_true, or_false, false_or, or_true, true_or, and_true, true_and, and_false, false_and, or_self, and_self, if_true, if_false, ite_true, ite_false, eq_self] at hK; exact hK)
      · refine wp_if_ne_f (q := 8) (tgt := 11) d_Rf_busTold_5 (by decide) rfl (by decide) ?_
        refine wp_bipush (q := 10) d_Rf_busTold_8 rfl bp_m5 ?_
        refine wp_iret d_Rf_busTold_10 rfl (Nat.le_refl _) (Nat.le_refl _) ?_
        simp only [sp_busTold, inn, inb, inm, btw, inn_t (show 3 ≤ 11 by decide), tnl (show 3 ≤ 11 by decide), (show ¬ nI 3 = nI 0 by decide), (show ¬ nI 3 = nI 1 by decide), (show ¬ nI 3 = nI 2 by decide), (show ¬ nI 3 = nI 4 by decide), (show ¬ nI 3 = nI 5 by decide), (show ¬ nI 3 = nI 6 by decide), (show ¬ nI 3 = nI 7 by decide), (show ¬ nI 3 = nI 8 by decide), (show ¬ nI 3 = nI 9 by decide), (show ¬ nI 3 = nI 10 by decide), (show ¬ nI 3 = nI 11 by decide), hb1, not_true_eq_false, not_false_eq_true, or_false, false_or, or_true, true_or, and_true, true_and, and_false, false_and, or_self, and_self, if_true, if_false, ite_true, ite_false, eq_self] at hK
        first | exact hK | (simp (disch := omega) only [tput_eq, tput2, tput_ne, upd_eq, upd_ne, ne_eq, va_upeq, va_upne, va_up2, not_true_eq_false, not_false_eq_true, or_false, false_or, or_true, true_or, and_true, true_and, and_false, false_and, or_self, and_self, if_true, if_false, ite_true, ite_false, eq_self] at hK ⊢; exact hK) | (simp (disch := omega) only [tput_eq, tput2, tput_ne, upd_eq, upd_ne, ne_eq, va_upeq, va_upne, va_up2, not_true_eq_false, not_false_eq_true, or_false, false_or, or_true, true_or, and_true, true_and, and_false, false_and, or_self, and_self, if_true, if_false, ite_true, ite_false, eq_self]; exact hK) | (simp (disch := omega) only [tput_eq, tput2, tput_ne, upd_eq, upd_ne, ne_eq, va_upeq, va_upne, va_up2, not_true_eq_false, not_false_eq_true, or_false, false_or, or_true, true_or, and_true, true_and, and_false, false_and, or_self, and_self, if_true, if_false, ite_true, ite_false, eq_self] at hK; exact hK)
    · skip
      refine wp_aload_n (q := 1) d_Rf_busTold_0 rfl rfl ?_
      refine wp_iload_n (q := 2) d_Rf_busTold_1 rfl rfl ?_
      refine wp_cv1 (q := 5) lk_Rf_167 (ro _ _ _) d_Rf_busTold_2 rfl (Nat.le_of_ble_eq_true rfl) (rfl) rfl (Nat.zero_le _) (Nat.zero_le _) ?_
      refine ok_Rf_isBus hnb h12 (fun b1 hb1 e => ?_) (fun hb1 => ?_)
      · subst e
        refine wp_if_ne_t (tgt := 11) d_Rf_busTold_5 (by decide) (by decide) ?_
        refine wp_iload_n (q := 12) d_Rf_busTold_11 rfl rfl ?_
        refine wp_tabIn (tgt := 135) d_Rf_busTold_12 (by decide) (by decide) rfl (by decide) ?_
        refine wp_aload_n (q := 136) d_Rf_busTold_135 rfl rfl ?_
        refine wp_get (q := 139) fl_Rf_7 d_Rf_busTold_136 rfl rfl rfl ?_
        refine wp_bipush (q := 141) d_Rf_busTold_139 rfl bp_120 ?_
        refine wp_iload_n (q := 142) d_Rf_busTold_141 rfl rfl ?_
        first | refine wp_iaddN (q := 143) d_Rf_busTold_142 rfl ?_ | refine wp_iadd (q := 143) d_Rf_busTold_142 rfl ?_
        refine wp_iald (q := 144) d_Rf_busTold_143 rfl (rfl) (by omega) (by decide) ?_
        refine wp_iret d_Rf_busTold_144 rfl (Nat.le_refl _) (Nat.le_refl _) ?_
        simp only [sp_busTold, inn, inb, inm, btw, inn_t (show 4 ≤ 11 by decide), tnl (show 4 ≤ 11 by decide), (show ¬ nI 4 = nI 0 by decide), (show ¬ nI 4 = nI 1 by decide), (show ¬ nI 4 = nI 2 by decide), (show ¬ nI 4 = nI 3 by decide), (show ¬ nI 4 = nI 5 by decide), (show ¬ nI 4 = nI 6 by decide), (show ¬ nI 4 = nI 7 by decide), (show ¬ nI 4 = nI 8 by decide), (show ¬ nI 4 = nI 9 by decide), (show ¬ nI 4 = nI 10 by decide), (show ¬ nI 4 = nI 11 by decide), inb_t hnb h12 hb1, tnt (Nat.lt_of_lt_of_le hb1 h12), not_true_eq_false, not_false_eq_true, or_false, false_or, or_true, true_or, and_true, true_and, and_false, false_and, or_self, and_self, if_true, if_false, ite_true, ite_false, eq_self] at hK
        first | exact hK | (simp (disch := omega) only [tput_eq, tput2, tput_ne, upd_eq, upd_ne, ne_eq, va_upeq, va_upne, va_up2, not_true_eq_false, not_false_eq_true, or_false, false_or, or_true, true_or, and_true, true_and, and_false, false_and, or_self, and_self, if_true, if_false, ite_true, ite_false, eq_self] at hK ⊢; exact hK) | (simp (disch := omega) only [tput_eq, tput2, tput_ne, upd_eq, upd_ne, ne_eq, va_upeq, va_upne, va_up2, not_true_eq_false, not_false_eq_true, or_false, false_or, or_true, true_or, and_true, true_and, and_false, false_and, or_self, and_self, if_true, if_false, ite_true, ite_false, eq_self]; exact hK) | (simp (disch := omega) only [tput_eq, tput2, tput_ne, upd_eq, upd_ne, ne_eq, va_upeq, va_upne, va_up2, not_true_eq_false, not_false_eq_true, or_false, false_or, or_true, true_or, and_true, true_and, and_false, false_and, or_self, and_self, if_true, if_false, ite_true, ite_false, eq_self] at hK; exact hK)
      · refine wp_if_ne_f (q := 8) (tgt := 11) d_Rf_busTold_5 (by decide) rfl (by decide) ?_
        refine wp_bipush (q := 10) d_Rf_busTold_8 rfl bp_m5 ?_
        refine wp_iret d_Rf_busTold_10 rfl (Nat.le_refl _) (Nat.le_refl _) ?_
        simp only [sp_busTold, inn, inb, inm, btw, inn_t (show 4 ≤ 11 by decide), tnl (show 4 ≤ 11 by decide), (show ¬ nI 4 = nI 0 by decide), (show ¬ nI 4 = nI 1 by decide), (show ¬ nI 4 = nI 2 by decide), (show ¬ nI 4 = nI 3 by decide), (show ¬ nI 4 = nI 5 by decide), (show ¬ nI 4 = nI 6 by decide), (show ¬ nI 4 = nI 7 by decide), (show ¬ nI 4 = nI 8 by decide), (show ¬ nI 4 = nI 9 by decide), (show ¬ nI 4 = nI 10 by decide), (show ¬ nI 4 = nI 11 by decide), hb1, not_true_eq_false, not_false_eq_true, or_false, false_or, or_true, true_or, and_true, true_and, and_false, false_and, or_self, and_self, if_true, if_false, ite_true, ite_false, eq_self] at hK
        first | exact hK | (simp (disch := omega) only [tput_eq, tput2, tput_ne, upd_eq, upd_ne, ne_eq, va_upeq, va_upne, va_up2, not_true_eq_false, not_false_eq_true, or_false, false_or, or_true, true_or, and_true, true_and, and_false, false_and, or_self, and_self, if_true, if_false, ite_true, ite_false, eq_self] at hK ⊢; exact hK) | (simp (disch := omega) only [tput_eq, tput2, tput_ne, upd_eq, upd_ne, ne_eq, va_upeq, va_upne, va_up2, not_true_eq_false, not_false_eq_true, or_false, false_or, or_true, true_or, and_true, true_and, and_false, false_and, or_self, and_self, if_true, if_false, ite_true, ite_false, eq_self]; exact hK) | (simp (disch := omega) only [tput_eq, tput2, tput_ne, upd_eq, upd_ne, ne_eq, va_upeq, va_upne, va_up2, not_true_eq_false, not_false_eq_true, or_false, false_or, or_true, true_or, and_true, true_and, and_false, false_and, or_self, and_self, if_true, if_false, ite_true, ite_false, eq_self] at hK; exact hK)
    · skip
      refine wp_aload_n (q := 1) d_Rf_busTold_0 rfl rfl ?_
      refine wp_iload_n (q := 2) d_Rf_busTold_1 rfl rfl ?_
      refine wp_cv1 (q := 5) lk_Rf_167 (ro _ _ _) d_Rf_busTold_2 rfl (Nat.le_of_ble_eq_true rfl) (rfl) rfl (Nat.zero_le _) (Nat.zero_le _) ?_
      refine ok_Rf_isBus hnb h12 (fun b1 hb1 e => ?_) (fun hb1 => ?_)
      · subst e
        refine wp_if_ne_t (tgt := 11) d_Rf_busTold_5 (by decide) (by decide) ?_
        refine wp_iload_n (q := 12) d_Rf_busTold_11 rfl rfl ?_
        refine wp_tabIn (tgt := 145) d_Rf_busTold_12 (by decide) (by decide) rfl (by decide) ?_
        refine wp_aload_n (q := 146) d_Rf_busTold_145 rfl rfl ?_
        refine wp_get (q := 149) fl_Rf_7 d_Rf_busTold_146 rfl rfl rfl ?_
        refine wp_sipush (q := 152) d_Rf_busTold_149 rfl sp_132 ?_
        refine wp_iload_n (q := 153) d_Rf_busTold_152 rfl rfl ?_
        first | refine wp_iaddN (q := 154) d_Rf_busTold_153 rfl ?_ | refine wp_iadd (q := 154) d_Rf_busTold_153 rfl ?_
        refine wp_iald (q := 155) d_Rf_busTold_154 rfl (rfl) (by omega) (by decide) ?_
        refine wp_iret d_Rf_busTold_155 rfl (Nat.le_refl _) (Nat.le_refl _) ?_
        simp only [sp_busTold, inn, inb, inm, btw, inn_t (show 5 ≤ 11 by decide), tnl (show 5 ≤ 11 by decide), (show ¬ nI 5 = nI 0 by decide), (show ¬ nI 5 = nI 1 by decide), (show ¬ nI 5 = nI 2 by decide), (show ¬ nI 5 = nI 3 by decide), (show ¬ nI 5 = nI 4 by decide), (show ¬ nI 5 = nI 6 by decide), (show ¬ nI 5 = nI 7 by decide), (show ¬ nI 5 = nI 8 by decide), (show ¬ nI 5 = nI 9 by decide), (show ¬ nI 5 = nI 10 by decide), (show ¬ nI 5 = nI 11 by decide), inb_t hnb h12 hb1, tnt (Nat.lt_of_lt_of_le hb1 h12), not_true_eq_false, not_false_eq_true, or_false, false_or, or_true, true_or, and_true, true_and, and_false, false_and, or_self, and_self, if_true, if_false, ite_true, ite_false, eq_self] at hK
        first | exact hK | (simp (disch := omega) only [tput_eq, tput2, tput_ne, upd_eq, upd_ne, ne_eq, va_upeq, va_upne, va_up2, not_true_eq_false, not_false_eq_true, or_false, false_or, or_true, true_or, and_true, true_and, and_false, false_and, or_self, and_self, if_true, if_false, ite_true, ite_false, eq_self] at hK ⊢; exact hK) | (simp (disch := omega) only [tput_eq, tput2, tput_ne, upd_eq, upd_ne, ne_eq, va_upeq, va_upne, va_up2, not_true_eq_false, not_false_eq_true, or_false, false_or, or_true, true_or, and_true, true_and, and_false, false_and, or_self, and_self, if_true, if_false, ite_true, ite_false, eq_self]; exact hK) | (simp (disch := omega) only [tput_eq, tput2, tput_ne, upd_eq, upd_ne, ne_eq, va_upeq, va_upne, va_up2, not_true_eq_false, not_false_eq_true, or_false, false_or, or_true, true_or, and_true, true_and, and_false, false_and, or_self, and_self, if_true, if_false, ite_true, ite_false, eq_self] at hK; exact hK)
      · refine wp_if_ne_f (q := 8) (tgt := 11) d_Rf_busTold_5 (by decide) rfl (by decide) ?_
        refine wp_bipush (q := 10) d_Rf_busTold_8 rfl bp_m5 ?_
        refine wp_iret d_Rf_busTold_10 rfl (Nat.le_refl _) (Nat.le_refl _) ?_
        simp only [sp_busTold, inn, inb, inm, btw, inn_t (show 5 ≤ 11 by decide), tnl (show 5 ≤ 11 by decide), (show ¬ nI 5 = nI 0 by decide), (show ¬ nI 5 = nI 1 by decide), (show ¬ nI 5 = nI 2 by decide), (show ¬ nI 5 = nI 3 by decide), (show ¬ nI 5 = nI 4 by decide), (show ¬ nI 5 = nI 6 by decide), (show ¬ nI 5 = nI 7 by decide), (show ¬ nI 5 = nI 8 by decide), (show ¬ nI 5 = nI 9 by decide), (show ¬ nI 5 = nI 10 by decide), (show ¬ nI 5 = nI 11 by decide), hb1, not_true_eq_false, not_false_eq_true, or_false, false_or, or_true, true_or, and_true, true_and, and_false, false_and, or_self, and_self, if_true, if_false, ite_true, ite_false, eq_self] at hK
        first | exact hK | (simp (disch := omega) only [tput_eq, tput2, tput_ne, upd_eq, upd_ne, ne_eq, va_upeq, va_upne, va_up2, not_true_eq_false, not_false_eq_true, or_false, false_or, or_true, true_or, and_true, true_and, and_false, false_and, or_self, and_self, if_true, if_false, ite_true, ite_false, eq_self] at hK ⊢; exact hK) | (simp (disch := omega) only [tput_eq, tput2, tput_ne, upd_eq, upd_ne, ne_eq, va_upeq, va_upne, va_up2, not_true_eq_false, not_false_eq_true, or_false, false_or, or_true, true_or, and_true, true_and, and_false, false_and, or_self, and_self, if_true, if_false, ite_true, ite_false, eq_self]; exact hK) | (simp (disch := omega) only [tput_eq, tput2, tput_ne, upd_eq, upd_ne, ne_eq, va_upeq, va_upne, va_up2, not_true_eq_false, not_false_eq_true, or_false, false_or, or_true, true_or, and_true, true_and, and_false, false_and, or_self, and_self, if_true, if_false, ite_true, ite_false, eq_self] at hK; exact hK)
    · skip
      refine wp_aload_n (q := 1) d_Rf_busTold_0 rfl rfl ?_
      refine wp_iload_n (q := 2) d_Rf_busTold_1 rfl rfl ?_
      refine wp_cv1 (q := 5) lk_Rf_167 (ro _ _ _) d_Rf_busTold_2 rfl (Nat.le_of_ble_eq_true rfl) (rfl) rfl (Nat.zero_le _) (Nat.zero_le _) ?_
      refine ok_Rf_isBus hnb h12 (fun b1 hb1 e => ?_) (fun hb1 => ?_)
      · subst e
        refine wp_if_ne_t (tgt := 11) d_Rf_busTold_5 (by decide) (by decide) ?_
        refine wp_iload_n (q := 12) d_Rf_busTold_11 rfl rfl ?_
        refine wp_tabIn (tgt := 156) d_Rf_busTold_12 (by decide) (by decide) rfl (by decide) ?_
        refine wp_aload_n (q := 157) d_Rf_busTold_156 rfl rfl ?_
        refine wp_get (q := 160) fl_Rf_7 d_Rf_busTold_157 rfl rfl rfl ?_
        refine wp_sipush (q := 163) d_Rf_busTold_160 rfl sp_168 ?_
        refine wp_bipush (q := 165) d_Rf_busTold_163 rfl bp_12 ?_
        refine wp_iload_n (q := 166) d_Rf_busTold_165 rfl rfl ?_
        refine wp_bipush (q := 168) d_Rf_busTold_166 rfl bp_6 ?_
        refine wp_isub (q := 169) d_Rf_busTold_168 rfl ?_
        rw [show nI 6 - nI 6 = nI 0 by decide]
        first | refine wp_imulC (q := 170) d_Rf_busTold_169 rfl ?_ | refine wp_imul (q := 170) d_Rf_busTold_169 rfl ?_
        first | refine wp_iaddN (q := 171) d_Rf_busTold_170 rfl ?_ | refine wp_iadd (q := 171) d_Rf_busTold_170 rfl ?_
        refine wp_iload_n (q := 172) d_Rf_busTold_171 rfl rfl ?_
        first | refine wp_iaddN (q := 173) d_Rf_busTold_172 rfl ?_ | refine wp_iadd (q := 173) d_Rf_busTold_172 rfl ?_
        refine wp_iald (q := 174) d_Rf_busTold_173 rfl (rfl) (by omega) (by decide) ?_
        refine wp_iret d_Rf_busTold_174 rfl (Nat.le_refl _) (Nat.le_refl _) ?_
        simp only [sp_busTold, inn, inb, inm, btw, inn_t (show 6 ≤ 11 by decide), tnl (show 6 ≤ 11 by decide), (show ¬ nI 6 = nI 0 by decide), (show ¬ nI 6 = nI 1 by decide), (show ¬ nI 6 = nI 2 by decide), (show ¬ nI 6 = nI 3 by decide), (show ¬ nI 6 = nI 4 by decide), (show ¬ nI 6 = nI 5 by decide), (show ¬ nI 6 = nI 7 by decide), (show ¬ nI 6 = nI 8 by decide), (show ¬ nI 6 = nI 9 by decide), (show ¬ nI 6 = nI 10 by decide), (show ¬ nI 6 = nI 11 by decide), inb_t hnb h12 hb1, tnt (Nat.lt_of_lt_of_le hb1 h12), not_true_eq_false, not_false_eq_true, or_false, false_or, or_true, true_or, and_true, true_and, and_false, false_and, or_self, and_self, if_true, if_false, ite_true, ite_false, eq_self] at hK
        first | exact hK | (simp (disch := omega) only [tput_eq, tput2, tput_ne, upd_eq, upd_ne, ne_eq, va_upeq, va_upne, va_up2, not_true_eq_false, not_false_eq_true, or_false, false_or, or_true, true_or, and_true, true_and, and_false, false_and, or_self, and_self, if_true, if_false, ite_true, ite_false, eq_self] at hK ⊢; exact hK) | (simp (disch := omega) only [tput_eq, tput2, tput_ne, upd_eq, upd_ne, ne_eq, va_upeq, va_upne, va_up2, not_true_eq_false, not_false_eq_true, or_false, false_or, or_true, true_or, and_true, true_and, and_false, false_and, or_self, and_self, if_true, if_false, ite_true, ite_false, eq_self]; exact hK) | (simp (disch := omega) only [tput_eq, tput2, tput_ne, upd_eq, upd_ne, ne_eq, va_upeq, va_upne, va_up2, not_true_eq_false, not_false_eq_true, or_false, false_or, or_true, true_or, and_true, true_and, and_false, false_and, or_self, and_self, if_true, if_false, ite_true, ite_false, eq_self] at hK; exact hK)
      · refine wp_if_ne_f (q := 8) (tgt := 11) d_Rf_busTold_5 (by decide) rfl (by decide) ?_
        refine wp_bipush (q := 10) d_Rf_busTold_8 rfl bp_m5 ?_
        refine wp_iret d_Rf_busTold_10 rfl (Nat.le_refl _) (Nat.le_refl _) ?_
        simp only [sp_busTold, inn, inb, inm, btw, inn_t (show 6 ≤ 11 by decide), tnl (show 6 ≤ 11 by decide), (show ¬ nI 6 = nI 0 by decide), (show ¬ nI 6 = nI 1 by decide), (show ¬ nI 6 = nI 2 by decide), (show ¬ nI 6 = nI 3 by decide), (show ¬ nI 6 = nI 4 by decide), (show ¬ nI 6 = nI 5 by decide), (show ¬ nI 6 = nI 7 by decide), (show ¬ nI 6 = nI 8 by decide), (show ¬ nI 6 = nI 9 by decide), (show ¬ nI 6 = nI 10 by decide), (show ¬ nI 6 = nI 11 by decide), hb1, not_true_eq_false, not_false_eq_true, or_false, false_or, or_true, true_or, and_true, true_and, and_false, false_and, or_self, and_self, if_true, if_false, ite_true, ite_false, eq_self] at hK
        first | exact hK | (simp (disch := omega) only [tput_eq, tput2, tput_ne, upd_eq, upd_ne, ne_eq, va_upeq, va_upne, va_up2, not_true_eq_false, not_false_eq_true, or_false, false_or, or_true, true_or, and_true, true_and, and_false, false_and, or_self, and_self, if_true, if_false, ite_true, ite_false, eq_self] at hK ⊢; exact hK) | (simp (disch := omega) only [tput_eq, tput2, tput_ne, upd_eq, upd_ne, ne_eq, va_upeq, va_upne, va_up2, not_true_eq_false, not_false_eq_true, or_false, false_or, or_true, true_or, and_true, true_and, and_false, false_and, or_self, and_self, if_true, if_false, ite_true, ite_false, eq_self]; exact hK) | (simp (disch := omega) only [tput_eq, tput2, tput_ne, upd_eq, upd_ne, ne_eq, va_upeq, va_upne, va_up2, not_true_eq_false, not_false_eq_true, or_false, false_or, or_true, true_or, and_true, true_and, and_false, false_and, or_self, and_self, if_true, if_false, ite_true, ite_false, eq_self] at hK; exact hK)
    · skip
      refine wp_aload_n (q := 1) d_Rf_busTold_0 rfl rfl ?_
      refine wp_iload_n (q := 2) d_Rf_busTold_1 rfl rfl ?_
      refine wp_cv1 (q := 5) lk_Rf_167 (ro _ _ _) d_Rf_busTold_2 rfl (Nat.le_of_ble_eq_true rfl) (rfl) rfl (Nat.zero_le _) (Nat.zero_le _) ?_
      refine ok_Rf_isBus hnb h12 (fun b1 hb1 e => ?_) (fun hb1 => ?_)
      · subst e
        refine wp_if_ne_t (tgt := 11) d_Rf_busTold_5 (by decide) (by decide) ?_
        refine wp_iload_n (q := 12) d_Rf_busTold_11 rfl rfl ?_
        refine wp_tabIn (tgt := 156) d_Rf_busTold_12 (by decide) (by decide) rfl (by decide) ?_
        refine wp_aload_n (q := 157) d_Rf_busTold_156 rfl rfl ?_
        refine wp_get (q := 160) fl_Rf_7 d_Rf_busTold_157 rfl rfl rfl ?_
        refine wp_sipush (q := 163) d_Rf_busTold_160 rfl sp_168 ?_
        refine wp_bipush (q := 165) d_Rf_busTold_163 rfl bp_12 ?_
        refine wp_iload_n (q := 166) d_Rf_busTold_165 rfl rfl ?_
        refine wp_bipush (q := 168) d_Rf_busTold_166 rfl bp_6 ?_
        refine wp_isub (q := 169) d_Rf_busTold_168 rfl ?_
        rw [show nI 7 - nI 6 = nI 1 by decide]
        first | refine wp_imulC (q := 170) d_Rf_busTold_169 rfl ?_ | refine wp_imul (q := 170) d_Rf_busTold_169 rfl ?_
        first | refine wp_iaddN (q := 171) d_Rf_busTold_170 rfl ?_ | refine wp_iadd (q := 171) d_Rf_busTold_170 rfl ?_
        refine wp_iload_n (q := 172) d_Rf_busTold_171 rfl rfl ?_
        first | refine wp_iaddN (q := 173) d_Rf_busTold_172 rfl ?_ | refine wp_iadd (q := 173) d_Rf_busTold_172 rfl ?_
        refine wp_iald (q := 174) d_Rf_busTold_173 rfl (rfl) (by omega) (by decide) ?_
        refine wp_iret d_Rf_busTold_174 rfl (Nat.le_refl _) (Nat.le_refl _) ?_
        simp only [sp_busTold, inn, inb, inm, btw, inn_t (show 7 ≤ 11 by decide), tnl (show 7 ≤ 11 by decide), (show ¬ nI 7 = nI 0 by decide), (show ¬ nI 7 = nI 1 by decide), (show ¬ nI 7 = nI 2 by decide), (show ¬ nI 7 = nI 3 by decide), (show ¬ nI 7 = nI 4 by decide), (show ¬ nI 7 = nI 5 by decide), (show ¬ nI 7 = nI 6 by decide), (show ¬ nI 7 = nI 8 by decide), (show ¬ nI 7 = nI 9 by decide), (show ¬ nI 7 = nI 10 by decide), (show ¬ nI 7 = nI 11 by decide), inb_t hnb h12 hb1, tnt (Nat.lt_of_lt_of_le hb1 h12), not_true_eq_false, not_false_eq_true, or_false, false_or, or_true, true_or, and_true, true_and, and_false, false_and, or_self, and_self, if_true, if_false, ite_true, ite_false, eq_self] at hK
        first | exact hK | (simp (disch := omega) only [tput_eq, tput2, tput_ne, upd_eq, upd_ne, ne_eq, va_upeq, va_upne, va_up2, not_true_eq_false, not_false_eq_true, or_false, false_or, or_true, true_or, and_true, true_and, and_false, false_and, or_self, and_self, if_true, if_false, ite_true, ite_false, eq_self] at hK ⊢; exact hK) | (simp (disch := omega) only [tput_eq, tput2, tput_ne, upd_eq, upd_ne, ne_eq, va_upeq, va_upne, va_up2, not_true_eq_false, not_false_eq_true, or_false, false_or, or_true, true_or, and_true, true_and, and_false, false_and, or_self, and_self, if_true, if_false, ite_true, ite_false, eq_self]; exact hK) | (simp (disch := omega) only [tput_eq, tput2, tput_ne, upd_eq, upd_ne, ne_eq, va_upeq, va_upne, va_up2, not_true_eq_false, not_false_eq_true, or_false, false_or, or_true, true_or, and_true, true_and, and_false, false_and, or_self, and_self, if_true, if_false, ite_true, ite_false, eq_self] at hK; exact hK)
      · refine wp_if_ne_f (q := 8) (tgt := 11) d_Rf_busTold_5 (by decide) rfl (by decide) ?_
        refine wp_bipush (q := 10) d_Rf_busTold_8 rfl bp_m5 ?_
        refine wp_iret d_Rf_busTold_10 rfl (Nat.le_refl _) (Nat.le_refl _) ?_
        simp only [sp_busTold, inn, inb, inm, btw, inn_t (show 7 ≤ 11 by decide), tnl (show 7 ≤ 11 by decide), (show ¬ nI 7 = nI 0 by decide), (show ¬ nI 7 = nI 1 by decide), (show ¬ nI 7 = nI 2 by decide), (show ¬ nI 7 = nI 3 by decide), (show ¬ nI 7 = nI 4 by decide), (show ¬ nI 7 = nI 5 by decide), (show ¬ nI 7 = nI 6 by decide), (show ¬ nI 7 = nI 8 by decide), (show ¬ nI 7 = nI 9 by decide), (show ¬ nI 7 = nI 10 by decide), (show ¬ nI 7 = nI 11 by decide), hb1, not_true_eq_false, not_false_eq_true, or_false, false_or, or_true, true_or, and_true, true_and, and_false, false_and, or_self, and_self, if_true, if_false, ite_true, ite_false, eq_self] at hK
        first | exact hK | (simp (disch := omega) only [tput_eq, tput2, tput_ne, upd_eq, upd_ne, ne_eq, va_upeq, va_upne, va_up2, not_true_eq_false, not_false_eq_true, or_false, false_or, or_true, true_or, and_true, true_and, and_false, false_and, or_self, and_self, if_true, if_false, ite_true, ite_false, eq_self] at hK ⊢; exact hK) | (simp (disch := omega) only [tput_eq, tput2, tput_ne, upd_eq, upd_ne, ne_eq, va_upeq, va_upne, va_up2, not_true_eq_false, not_false_eq_true, or_false, false_or, or_true, true_or, and_true, true_and, and_false, false_and, or_self, and_self, if_true, if_false, ite_true, ite_false, eq_self]; exact hK) | (simp (disch := omega) only [tput_eq, tput2, tput_ne, upd_eq, upd_ne, ne_eq, va_upeq, va_upne, va_up2, not_true_eq_false, not_false_eq_true, or_false, false_or, or_true, true_or, and_true, true_and, and_false, false_and, or_self, and_self, if_true, if_false, ite_true, ite_false, eq_self] at hK; exact hK)
    · skip
      refine wp_aload_n (q := 1) d_Rf_busTold_0 rfl rfl ?_
      refine wp_iload_n (q := 2) d_Rf_busTold_1 rfl rfl ?_
      refine wp_cv1 (q := 5) lk_Rf_167 (ro _ _ _) d_Rf_busTold_2 rfl (Nat.le_of_ble_eq_true rfl) (rfl) rfl (Nat.zero_le _) (Nat.zero_le _) ?_
      refine ok_Rf_isBus hnb h12 (fun b1 hb1 e => ?_) (fun hb1 => ?_)
      · subst e
        refine wp_if_ne_t (tgt := 11) d_Rf_busTold_5 (by decide) (by decide) ?_
        refine wp_iload_n (q := 12) d_Rf_busTold_11 rfl rfl ?_
        refine wp_tabIn (tgt := 156) d_Rf_busTold_12 (by decide) (by decide) rfl (by decide) ?_
        refine wp_aload_n (q := 157) d_Rf_busTold_156 rfl rfl ?_
        refine wp_get (q := 160) fl_Rf_7 d_Rf_busTold_157 rfl rfl rfl ?_
        refine wp_sipush (q := 163) d_Rf_busTold_160 rfl sp_168 ?_
        refine wp_bipush (q := 165) d_Rf_busTold_163 rfl bp_12 ?_
        refine wp_iload_n (q := 166) d_Rf_busTold_165 rfl rfl ?_
        refine wp_bipush (q := 168) d_Rf_busTold_166 rfl bp_6 ?_
        refine wp_isub (q := 169) d_Rf_busTold_168 rfl ?_
        rw [show nI 8 - nI 6 = nI 2 by decide]
        first | refine wp_imulC (q := 170) d_Rf_busTold_169 rfl ?_ | refine wp_imul (q := 170) d_Rf_busTold_169 rfl ?_
        first | refine wp_iaddN (q := 171) d_Rf_busTold_170 rfl ?_ | refine wp_iadd (q := 171) d_Rf_busTold_170 rfl ?_
        refine wp_iload_n (q := 172) d_Rf_busTold_171 rfl rfl ?_
        first | refine wp_iaddN (q := 173) d_Rf_busTold_172 rfl ?_ | refine wp_iadd (q := 173) d_Rf_busTold_172 rfl ?_
        refine wp_iald (q := 174) d_Rf_busTold_173 rfl (rfl) (by omega) (by decide) ?_
        refine wp_iret d_Rf_busTold_174 rfl (Nat.le_refl _) (Nat.le_refl _) ?_
        simp only [sp_busTold, inn, inb, inm, btw, inn_t (show 8 ≤ 11 by decide), tnl (show 8 ≤ 11 by decide), (show ¬ nI 8 = nI 0 by decide), (show ¬ nI 8 = nI 1 by decide), (show ¬ nI 8 = nI 2 by decide), (show ¬ nI 8 = nI 3 by decide), (show ¬ nI 8 = nI 4 by decide), (show ¬ nI 8 = nI 5 by decide), (show ¬ nI 8 = nI 6 by decide), (show ¬ nI 8 = nI 7 by decide), (show ¬ nI 8 = nI 9 by decide), (show ¬ nI 8 = nI 10 by decide), (show ¬ nI 8 = nI 11 by decide), inb_t hnb h12 hb1, tnt (Nat.lt_of_lt_of_le hb1 h12), not_true_eq_false, not_false_eq_true, or_false, false_or, or_true, true_or, and_true, true_and, and_false, false_and, or_self, and_self, if_true, if_false, ite_true, ite_false, eq_self] at hK
        first | exact hK | (simp (disch := omega) only [tput_eq, tput2, tput_ne, upd_eq, upd_ne, ne_eq, va_upeq, va_upne, va_up2, not_true_eq_false, not_false_eq_true, or_false, false_or, or_true, true_or, and_true, true_and, and_false, false_and, or_self, and_self, if_true, if_false, ite_true, ite_false, eq_self] at hK ⊢; exact hK) | (simp (disch := omega) only [tput_eq, tput2, tput_ne, upd_eq, upd_ne, ne_eq, va_upeq, va_upne, va_up2, not_true_eq_false, not_false_eq_true, or_false, false_or, or_true, true_or, and_true, true_and, and_false, false_and, or_self, and_self, if_true, if_false, ite_true, ite_false, eq_self]; exact hK) | (simp (disch := omega) only [tput_eq, tput2, tput_ne, upd_eq, upd_ne, ne_eq, va_upeq, va_upne, va_up2, not_true_eq_false, not_false_eq_true, or_false, false_or, or_true, true_or, and_true, true_and, and_false, false_and, or_self, and_self, if_true, if_false, ite_true, ite_false, eq_self] at hK; exact hK)
      · refine wp_if_ne_f (q := 8) (tgt := 11) d_Rf_busTold_5 (by decide) rfl (by decide) ?_
        refine wp_bipush (q := 10) d_Rf_busTold_8 rfl bp_m5 ?_
        refine wp_iret d_Rf_busTold_10 rfl (Nat.le_refl _) (Nat.le_refl _) ?_
        simp only [sp_busTold, inn, inb, inm, btw, inn_t (show 8 ≤ 11 by decide), tnl (show 8 ≤ 11 by decide), (show ¬ nI 8 = nI 0 by decide), (show ¬ nI 8 = nI 1 by decide), (show ¬ nI 8 = nI 2 by decide), (show ¬ nI 8 = nI 3 by decide), (show ¬ nI 8 = nI 4 by decide), (show ¬ nI 8 = nI 5 by decide), (show ¬ nI 8 = nI 6 by decide), (show ¬ nI 8 = nI 7 by decide), (show ¬ nI 8 = nI 9 by decide), (show ¬ nI 8 = nI 10 by decide), (show ¬ nI 8 = nI 11 by decide), hb1, not_true_eq_false, not_false_eq_true, or_false, false_or, or_true, true_or, and_true, true_and, and_false, false_and, or_self, and_self, if_true, if_false, ite_true, ite_false, eq_self] at hK
        first | exact hK | (simp (disch := omega) only [tput_eq, tput2, tput_ne, upd_eq, upd_ne, ne_eq, va_upeq, va_upne, va_up2, not_true_eq_false, not_false_eq_true, or_false, false_or, or_true, true_or, and_true, true_and, and_false, false_and, or_self, and_self, if_true, if_false, ite_true, ite_false, eq_self] at hK ⊢; exact hK) | (simp (disch := omega) only [tput_eq, tput2, tput_ne, upd_eq, upd_ne, ne_eq, va_upeq, va_upne, va_up2, not_true_eq_false, not_false_eq_true, or_false, false_or, or_true, true_or, and_true, true_and, and_false, false_and, or_self, and_self, if_true, if_false, ite_true, ite_false, eq_self]; exact hK) | (simp (disch := omega) only [tput_eq, tput2, tput_ne, upd_eq, upd_ne, ne_eq, va_upeq, va_upne, va_up2, not_true_eq_false, not_false_eq_true, or_false, false_or, or_true, true_or, and_true, true_and, and_false, false_and, or_self, and_self, if_true, if_false, ite_true, ite_false, eq_self] at hK; exact hK)
    · skip
      refine wp_aload_n (q := 1) d_Rf_busTold_0 rfl rfl ?_
      refine wp_iload_n (q := 2) d_Rf_busTold_1 rfl rfl ?_
      refine wp_cv1 (q := 5) lk_Rf_167 (ro _ _ _) d_Rf_busTold_2 rfl (Nat.le_of_ble_eq_true rfl) (rfl) rfl (Nat.zero_le _) (Nat.zero_le _) ?_
      refine ok_Rf_isBus hnb h12 (fun b1 hb1 e => ?_) (fun hb1 => ?_)
      · subst e
        refine wp_if_ne_t (tgt := 11) d_Rf_busTold_5 (by decide) (by decide) ?_
        refine wp_iload_n (q := 12) d_Rf_busTold_11 rfl rfl ?_
        refine wp_tabIn (tgt := 156) d_Rf_busTold_12 (by decide) (by decide) rfl (by decide) ?_
        refine wp_aload_n (q := 157) d_Rf_busTold_156 rfl rfl ?_
        refine wp_get (q := 160) fl_Rf_7 d_Rf_busTold_157 rfl rfl rfl ?_
        refine wp_sipush (q := 163) d_Rf_busTold_160 rfl sp_168 ?_
        refine wp_bipush (q := 165) d_Rf_busTold_163 rfl bp_12 ?_
        refine wp_iload_n (q := 166) d_Rf_busTold_165 rfl rfl ?_
        refine wp_bipush (q := 168) d_Rf_busTold_166 rfl bp_6 ?_
        refine wp_isub (q := 169) d_Rf_busTold_168 rfl ?_
        rw [show nI 9 - nI 6 = nI 3 by decide]
        first | refine wp_imulC (q := 170) d_Rf_busTold_169 rfl ?_ | refine wp_imul (q := 170) d_Rf_busTold_169 rfl ?_
        first | refine wp_iaddN (q := 171) d_Rf_busTold_170 rfl ?_ | refine wp_iadd (q := 171) d_Rf_busTold_170 rfl ?_
        refine wp_iload_n (q := 172) d_Rf_busTold_171 rfl rfl ?_
        first | refine wp_iaddN (q := 173) d_Rf_busTold_172 rfl ?_ | refine wp_iadd (q := 173) d_Rf_busTold_172 rfl ?_
        refine wp_iald (q := 174) d_Rf_busTold_173 rfl (rfl) (by omega) (by decide) ?_
        refine wp_iret d_Rf_busTold_174 rfl (Nat.le_refl _) (Nat.le_refl _) ?_
        simp only [sp_busTold, inn, inb, inm, btw, inn_t (show 9 ≤ 11 by decide), tnl (show 9 ≤ 11 by decide), (show ¬ nI 9 = nI 0 by decide), (show ¬ nI 9 = nI 1 by decide), (show ¬ nI 9 = nI 2 by decide), (show ¬ nI 9 = nI 3 by decide), (show ¬ nI 9 = nI 4 by decide), (show ¬ nI 9 = nI 5 by decide), (show ¬ nI 9 = nI 6 by decide), (show ¬ nI 9 = nI 7 by decide), (show ¬ nI 9 = nI 8 by decide), (show ¬ nI 9 = nI 10 by decide), (show ¬ nI 9 = nI 11 by decide), inb_t hnb h12 hb1, tnt (Nat.lt_of_lt_of_le hb1 h12), not_true_eq_false, not_false_eq_true, or_false, false_or, or_true, true_or, and_true, true_and, and_false, false_and, or_self, and_self, if_true, if_false, ite_true, ite_false, eq_self] at hK
        first | exact hK | (simp (disch := omega) only [tput_eq, tput2, tput_ne, upd_eq, upd_ne, ne_eq, va_upeq, va_upne, va_up2, not_true_eq_false, not_false_eq_true, or_false, false_or, or_true, true_or, and_true, true_and, and_false, false_and, or_self, and_self, if_true, if_false, ite_true, ite_false, eq_self] at hK ⊢; exact hK) | (simp (disch := omega) only [tput_eq, tput2, tput_ne, upd_eq, upd_ne, ne_eq, va_upeq, va_upne, va_up2, not_true_eq_false, not_false_eq_true, or_false, false_or, or_true, true_or, and_true, true_and, and_false, false_and, or_self, and_self, if_true, if_false, ite_true, ite_false, eq_self]; exact hK) | (simp (disch := omega) only [tput_eq, tput2, tput_ne, upd_eq, upd_ne, ne_eq, va_upeq, va_upne, va_up2, not_true_eq_false, not_false_eq_true, or_false, false_or, or_true, true_or, and_true, true_and, and_false, false_and, or_self, and_self, if_true, if_false, ite_true, ite_false, eq_self] at hK; exact hK)
      · refine wp_if_ne_f (q := 8) (tgt := 11) d_Rf_busTold_5 (by decide) rfl (by decide) ?_
        refine wp_bipush (q := 10) d_Rf_busTold_8 rfl bp_m5 ?_
        refine wp_iret d_Rf_busTold_10 rfl (Nat.le_refl _) (Nat.le_refl _) ?_
        simp only [sp_busTold, inn, inb, inm, btw, inn_t (show 9 ≤ 11 by decide), tnl (show 9 ≤ 11 by decide), (show ¬ nI 9 = nI 0 by decide), (show ¬ nI 9 = nI 1 by decide), (show ¬ nI 9 = nI 2 by decide), (show ¬ nI 9 = nI 3 by decide), (show ¬ nI 9 = nI 4 by decide), (show ¬ nI 9 = nI 5 by decide), (show ¬ nI 9 = nI 6 by decide), (show ¬ nI 9 = nI 7 by decide), (show ¬ nI 9 = nI 8 by decide), (show ¬ nI 9 = nI 10 by decide), (show ¬ nI 9 = nI 11 by decide), hb1, not_true_eq_false, not_false_eq_true, or_false, false_or, or_true, true_or, and_true, true_and, and_false, false_and, or_self, and_self, if_true, if_false, ite_true, ite_false, eq_self] at hK
        first | exact hK | (simp (disch := omega) only [tput_eq, tput2, tput_ne, upd_eq, upd_ne, ne_eq, va_upeq, va_upne, va_up2, not_true_eq_false, not_false_eq_true, or_false, false_or, or_true, true_or, and_true, true_and, and_false, false_and, or_self, and_self, if_true, if_false, ite_true, ite_false, eq_self] at hK ⊢; exact hK) | (simp (disch := omega) only [tput_eq, tput2, tput_ne, upd_eq, upd_ne, ne_eq, va_upeq, va_upne, va_up2, not_true_eq_false, not_false_eq_true, or_false, false_or, or_true, true_or, and_true, true_and, and_false, false_and, or_self, and_self, if_true, if_false, ite_true, ite_false, eq_self]; exact hK) | (simp (disch := omega) only [tput_eq, tput2, tput_ne, upd_eq, upd_ne, ne_eq, va_upeq, va_upne, va_up2, not_true_eq_false, not_false_eq_true, or_false, false_or, or_true, true_or, and_true, true_and, and_false, false_and, or_self, and_self, if_true, if_false, ite_true, ite_false, eq_self] at hK; exact hK)
    · skip
      refine wp_aload_n (q := 1) d_Rf_busTold_0 rfl rfl ?_
      refine wp_iload_n (q := 2) d_Rf_busTold_1 rfl rfl ?_
      refine wp_cv1 (q := 5) lk_Rf_167 (ro _ _ _) d_Rf_busTold_2 rfl (Nat.le_of_ble_eq_true rfl) (rfl) rfl (Nat.zero_le _) (Nat.zero_le _) ?_
      refine ok_Rf_isBus hnb h12 (fun b1 hb1 e => ?_) (fun hb1 => ?_)
      · subst e
        refine wp_if_ne_t (tgt := 11) d_Rf_busTold_5 (by decide) (by decide) ?_
        refine wp_iload_n (q := 12) d_Rf_busTold_11 rfl rfl ?_
        refine wp_tabIn (tgt := 156) d_Rf_busTold_12 (by decide) (by decide) rfl (by decide) ?_
        refine wp_aload_n (q := 157) d_Rf_busTold_156 rfl rfl ?_
        refine wp_get (q := 160) fl_Rf_7 d_Rf_busTold_157 rfl rfl rfl ?_
        refine wp_sipush (q := 163) d_Rf_busTold_160 rfl sp_168 ?_
        refine wp_bipush (q := 165) d_Rf_busTold_163 rfl bp_12 ?_
        refine wp_iload_n (q := 166) d_Rf_busTold_165 rfl rfl ?_
        refine wp_bipush (q := 168) d_Rf_busTold_166 rfl bp_6 ?_
        refine wp_isub (q := 169) d_Rf_busTold_168 rfl ?_
        rw [show nI 10 - nI 6 = nI 4 by decide]
        first | refine wp_imulC (q := 170) d_Rf_busTold_169 rfl ?_ | refine wp_imul (q := 170) d_Rf_busTold_169 rfl ?_
        first | refine wp_iaddN (q := 171) d_Rf_busTold_170 rfl ?_ | refine wp_iadd (q := 171) d_Rf_busTold_170 rfl ?_
        refine wp_iload_n (q := 172) d_Rf_busTold_171 rfl rfl ?_
        first | refine wp_iaddN (q := 173) d_Rf_busTold_172 rfl ?_ | refine wp_iadd (q := 173) d_Rf_busTold_172 rfl ?_
        refine wp_iald (q := 174) d_Rf_busTold_173 rfl (rfl) (by omega) (by decide) ?_
        refine wp_iret d_Rf_busTold_174 rfl (Nat.le_refl _) (Nat.le_refl _) ?_
        simp only [sp_busTold, inn, inb, inm, btw, inn_t (show 10 ≤ 11 by decide), tnl (show 10 ≤ 11 by decide), (show ¬ nI 10 = nI 0 by decide), (show ¬ nI 10 = nI 1 by decide), (show ¬ nI 10 = nI 2 by decide), (show ¬ nI 10 = nI 3 by decide), (show ¬ nI 10 = nI 4 by decide), (show ¬ nI 10 = nI 5 by decide), (show ¬ nI 10 = nI 6 by decide), (show ¬ nI 10 = nI 7 by decide), (show ¬ nI 10 = nI 8 by decide), (show ¬ nI 10 = nI 9 by decide), (show ¬ nI 10 = nI 11 by decide), inb_t hnb h12 hb1, tnt (Nat.lt_of_lt_of_le hb1 h12), not_true_eq_false, not_false_eq_true, or_false, false_or, or_true, true_or, and_true, true_and, and_false, false_and, or_self, and_self, if_true, if_false, ite_true, ite_false, eq_self] at hK
        first | exact hK | (simp (disch := omega) only [tput_eq, tput2, tput_ne, upd_eq, upd_ne, ne_eq, va_upeq, va_upne, va_up2, not_true_eq_false, not_false_eq_true, or_false, false_or, or_true, true_or, and_true, true_and, and_false, false_and, or_self, and_self, if_true, if_false, ite_true, ite_false, eq_self] at hK ⊢; exact hK) | (simp (disch := omega) only [tput_eq, tput2, tput_ne, upd_eq, upd_ne, ne_eq, va_upeq, va_upne, va_up2, not_true_eq_false, not_false_eq_true, or_false, false_or, or_true, true_or, and_true, true_and, and_false, false_and, or_self, and_self, if_true, if_false, ite_true, ite_false, eq_self]; exact hK) | (simp (disch := omega) only [tput_eq, tput2, tput_ne, upd_eq, upd_ne, ne_eq, va_upeq, va_upne, va_up2, not_true_eq_false, not_false_eq_true, or_false, false_or, or_true, true_or, and_true, true_and, and_false, false_and, or_self, and_self, if_true, if_false, ite_true, ite_false, eq_self] at hK; exact hK)
      · refine wp_if_ne_f (q := 8) (tgt := 11) d_Rf_busTold_5 (by decide) rfl (by decide) ?_
        refine wp_bipush (q := 10) d_Rf_busTold_8 rfl bp_m5 ?_
        refine wp_iret d_Rf_busTold_10 rfl (Nat.le_refl _) (Nat.le_refl _) ?_
        simp only [sp_busTold, inn, inb, inm, btw, inn_t (show 10 ≤ 11 by decide), tnl (show 10 ≤ 11 by decide), (show ¬ nI 10 = nI 0 by decide), (show ¬ nI 10 = nI 1 by decide), (show ¬ nI 10 = nI 2 by decide), (show ¬ nI 10 = nI 3 by decide), (show ¬ nI 10 = nI 4 by decide), (show ¬ nI 10 = nI 5 by decide), (show ¬ nI 10 = nI 6 by decide), (show ¬ nI 10 = nI 7 by decide), (show ¬ nI 10 = nI 8 by decide), (show ¬ nI 10 = nI 9 by decide), (show ¬ nI 10 = nI 11 by decide), hb1, not_true_eq_false, not_false_eq_true, or_false, false_or, or_true, true_or, and_true, true_and, and_false, false_and, or_self, and_self, if_true, if_false, ite_true, ite_false, eq_self] at hK
        first | exact hK | (simp (disch := omega) only [tput_eq, tput2, tput_ne, upd_eq, upd_ne, ne_eq, va_upeq, va_upne, va_up2, not_true_eq_false, not_false_eq_true, or_false, false_or, or_true, true_or, and_true, true_and, and_false, false_and, or_self, and_self, if_true, if_false, ite_true, ite_false, eq_self] at hK ⊢; exact hK) | (simp (disch := omega) only [tput_eq, tput2, tput_ne, upd_eq, upd_ne, ne_eq, va_upeq, va_upne, va_up2, not_true_eq_false, not_false_eq_true, or_false, false_or, or_true, true_or, and_true, true_and, and_false, false_and, or_self, and_self, if_true, if_false, ite_true, ite_false, eq_self]; exact hK) | (simp (disch := omega) only [tput_eq, tput2, tput_ne, upd_eq, upd_ne, ne_eq, va_upeq, va_upne, va_up2, not_true_eq_false, not_false_eq_true, or_false, false_or, or_true, true_or, and_true, true_and, and_false, false_and, or_self, and_self, if_true, if_false, ite_true, ite_false, eq_self] at hK; exact hK)
    · skip
      refine wp_aload_n (q := 1) d_Rf_busTold_0 rfl rfl ?_
      refine wp_iload_n (q := 2) d_Rf_busTold_1 rfl rfl ?_
      refine wp_cv1 (q := 5) lk_Rf_167 (ro _ _ _) d_Rf_busTold_2 rfl (Nat.le_of_ble_eq_true rfl) (rfl) rfl (Nat.zero_le _) (Nat.zero_le _) ?_
      refine ok_Rf_isBus hnb h12 (fun b1 hb1 e => ?_) (fun hb1 => ?_)
      · subst e
        refine wp_if_ne_t (tgt := 11) d_Rf_busTold_5 (by decide) (by decide) ?_
        refine wp_iload_n (q := 12) d_Rf_busTold_11 rfl rfl ?_
        refine wp_tabIn (tgt := 175) d_Rf_busTold_12 (by decide) (by decide) rfl (by decide) ?_
        refine wp_aload_n (q := 176) d_Rf_busTold_175 rfl rfl ?_
        refine wp_get (q := 179) fl_Rf_7 d_Rf_busTold_176 rfl rfl rfl ?_
        refine wp_sipush (q := 182) d_Rf_busTold_179 rfl sp_156 ?_
        refine wp_iload_n (q := 183) d_Rf_busTold_182 rfl rfl ?_
        first | refine wp_iaddN (q := 184) d_Rf_busTold_183 rfl ?_ | refine wp_iadd (q := 184) d_Rf_busTold_183 rfl ?_
        refine wp_iald (q := 185) d_Rf_busTold_184 rfl (rfl) (by omega) (by decide) ?_
        refine wp_iret d_Rf_busTold_185 rfl (Nat.le_refl _) (Nat.le_refl _) ?_
        simp only [sp_busTold, inn, inb, inm, btw, inn_t (show 11 ≤ 11 by decide), tnl (show 11 ≤ 11 by decide), (show ¬ nI 11 = nI 0 by decide), (show ¬ nI 11 = nI 1 by decide), (show ¬ nI 11 = nI 2 by decide), (show ¬ nI 11 = nI 3 by decide), (show ¬ nI 11 = nI 4 by decide), (show ¬ nI 11 = nI 5 by decide), (show ¬ nI 11 = nI 6 by decide), (show ¬ nI 11 = nI 7 by decide), (show ¬ nI 11 = nI 8 by decide), (show ¬ nI 11 = nI 9 by decide), (show ¬ nI 11 = nI 10 by decide), inb_t hnb h12 hb1, tnt (Nat.lt_of_lt_of_le hb1 h12), not_true_eq_false, not_false_eq_true, or_false, false_or, or_true, true_or, and_true, true_and, and_false, false_and, or_self, and_self, if_true, if_false, ite_true, ite_false, eq_self] at hK
        first | exact hK | (simp (disch := omega) only [tput_eq, tput2, tput_ne, upd_eq, upd_ne, ne_eq, va_upeq, va_upne, va_up2, not_true_eq_false, not_false_eq_true, or_false, false_or, or_true, true_or, and_true, true_and, and_false, false_and, or_self, and_self, if_true, if_false, ite_true, ite_false, eq_self] at hK ⊢; exact hK) | (simp (disch := omega) only [tput_eq, tput2, tput_ne, upd_eq, upd_ne, ne_eq, va_upeq, va_upne, va_up2, not_true_eq_false, not_false_eq_true, or_false, false_or, or_true, true_or, and_true, true_and, and_false, false_and, or_self, and_self, if_true, if_false, ite_true, ite_false, eq_self]; exact hK) | (simp (disch := omega) only [tput_eq, tput2, tput_ne, upd_eq, upd_ne, ne_eq, va_upeq, va_upne, va_up2, not_true_eq_false, not_false_eq_true, or_false, false_or, or_true, true_or, and_true, true_and, and_false, false_and, or_self, and_self, if_true, if_false, ite_true, ite_false, eq_self] at hK; exact hK)
      · refine wp_if_ne_f (q := 8) (tgt := 11) d_Rf_busTold_5 (by decide) rfl (by decide) ?_
        refine wp_bipush (q := 10) d_Rf_busTold_8 rfl bp_m5 ?_
        refine wp_iret d_Rf_busTold_10 rfl (Nat.le_refl _) (Nat.le_refl _) ?_
        simp only [sp_busTold, inn, inb, inm, btw, inn_t (show 11 ≤ 11 by decide), tnl (show 11 ≤ 11 by decide), (show ¬ nI 11 = nI 0 by decide), (show ¬ nI 11 = nI 1 by decide), (show ¬ nI 11 = nI 2 by decide), (show ¬ nI 11 = nI 3 by decide), (show ¬ nI 11 = nI 4 by decide), (show ¬ nI 11 = nI 5 by decide), (show ¬ nI 11 = nI 6 by decide), (show ¬ nI 11 = nI 7 by decide), (show ¬ nI 11 = nI 8 by decide), (show ¬ nI 11 = nI 9 by decide), (show ¬ nI 11 = nI 10 by decide), hb1, not_true_eq_false, not_false_eq_true, or_false, false_or, or_true, true_or, and_true, true_and, and_false, false_and, or_self, and_self, if_true, if_false, ite_true, ite_false, eq_self] at hK
        first | exact hK | (simp (disch := omega) only [tput_eq, tput2, tput_ne, upd_eq, upd_ne, ne_eq, va_upeq, va_upne, va_up2, not_true_eq_false, not_false_eq_true, or_false, false_or, or_true, true_or, and_true, true_and, and_false, false_and, or_self, and_self, if_true, if_false, ite_true, ite_false, eq_self] at hK ⊢; exact hK) | (simp (disch := omega) only [tput_eq, tput2, tput_ne, upd_eq, upd_ne, ne_eq, va_upeq, va_upne, va_up2, not_true_eq_false, not_false_eq_true, or_false, false_or, or_true, true_or, and_true, true_and, and_false, false_and, or_self, and_self, if_true, if_false, ite_true, ite_false, eq_self]; exact hK) | (simp (disch := omega) only [tput_eq, tput2, tput_ne, upd_eq, upd_ne, ne_eq, va_upeq, va_upne, va_up2, not_true_eq_false, not_false_eq_true, or_false, false_or, or_true, true_or, and_true, true_and, and_false, false_and, or_self, and_self, if_true, if_false, ite_true, ite_false, eq_self] at hK; exact hK)
  · skip
    refine wp_aload_n (q := 1) d_Rf_busTold_0 rfl rfl ?_
    refine wp_iload_n (q := 2) d_Rf_busTold_1 rfl rfl ?_
    refine wp_cv1 (q := 5) lk_Rf_167 (ro _ _ _) d_Rf_busTold_2 rfl (Nat.le_of_ble_eq_true rfl) (rfl) rfl (Nat.zero_le _) (Nat.zero_le _) ?_
    refine ok_Rf_isBus hnb h12 (fun b1 hb1 e => ?_) (fun hb1 => ?_)
    · subst e
      refine wp_if_ne_t (tgt := 11) d_Rf_busTold_5 (by decide) (by decide) ?_
      refine wp_iload_n (q := 12) d_Rf_busTold_11 rfl rfl ?_
      refine wp_tabOut (tgt := 186) d_Rf_busTold_12 ho_sw (by decide) ?_
      refine wp_bipush (q := 188) d_Rf_busTold_186 rfl bp_m7 ?_
      refine wp_iret d_Rf_busTold_188 rfl (Nat.le_refl _) (Nat.le_refl _) ?_
      simp only [sp_busTold, inn, inb, inm, btw, hn_sw, inb_t hnb h12 hb1, tnt (Nat.lt_of_lt_of_le hb1 h12), not_true_eq_false, not_false_eq_true, or_false, false_or, or_true, true_or, and_true, true_and, and_false, false_and, or_self, and_self, if_true, if_false, ite_true, ite_false, eq_self] at hK
      first | exact hK | (simp (disch := omega) only [tput_eq, tput2, tput_ne, upd_eq, upd_ne, ne_eq, va_upeq, va_upne, va_up2, not_true_eq_false, not_false_eq_true, or_false, false_or, or_true, true_or, and_true, true_and, and_false, false_and, or_self, and_self, if_true, if_false, ite_true, ite_false, eq_self] at hK ⊢; exact hK) | (simp (disch := omega) only [tput_eq, tput2, tput_ne, upd_eq, upd_ne, ne_eq, va_upeq, va_upne, va_up2, not_true_eq_false, not_false_eq_true, or_false, false_or, or_true, true_or, and_true, true_and, and_false, false_and, or_self, and_self, if_true, if_false, ite_true, ite_false, eq_self]; exact hK) | (simp (disch := omega) only [tput_eq, tput2, tput_ne, upd_eq, upd_ne, ne_eq, va_upeq, va_upne, va_up2, not_true_eq_false, not_false_eq_true, or_false, false_or, or_true, true_or, and_true, true_and, and_false, false_and, or_self, and_self, if_true, if_false, ite_true, ite_false, eq_self] at hK; exact hK)
    · refine wp_if_ne_f (q := 8) (tgt := 11) d_Rf_busTold_5 (by decide) rfl (by decide) ?_
      refine wp_bipush (q := 10) d_Rf_busTold_8 rfl bp_m5 ?_
      refine wp_iret d_Rf_busTold_10 rfl (Nat.le_refl _) (Nat.le_refl _) ?_
      simp only [sp_busTold, inn, inb, inm, btw, hn_sw, hb1, not_true_eq_false, not_false_eq_true, or_false, false_or, or_true, true_or, and_true, true_and, and_false, false_and, or_self, and_self, if_true, if_false, ite_true, ite_false, eq_self] at hK
      first | exact hK | (simp (disch := omega) only [tput_eq, tput2, tput_ne, upd_eq, upd_ne, ne_eq, va_upeq, va_upne, va_up2, not_true_eq_false, not_false_eq_true, or_false, false_or, or_true, true_or, and_true, true_and, and_false, false_and, or_self, and_self, if_true, if_false, ite_true, ite_false, eq_self] at hK ⊢; exact hK) | (simp (disch := omega) only [tput_eq, tput2, tput_ne, upd_eq, upd_ne, ne_eq, va_upeq, va_upne, va_up2, not_true_eq_false, not_false_eq_true, or_false, false_or, or_true, true_or, and_true, true_and, and_false, false_and, or_self, and_self, if_true, if_false, ite_true, ite_false, eq_self]; exact hK) | (simp (disch := omega) only [tput_eq, tput2, tput_ne, upd_eq, upd_ne, ne_eq, va_upeq, va_upne, va_up2, not_true_eq_false, not_false_eq_true, or_false, false_or, or_true, true_or, and_true, true_and, and_false, false_and, or_self, and_self, if_true, if_false, ite_true, ite_false, eq_self] at hK; exact hK)
def sp_stageTold (c : T2) (P : Nat → Int32) (nb : Nat) (s w : Int32) : Int32 := if ¬ inn s 5 then -5 else if ¬ inn w 3 then -7 else if w = nI 0 then nI (qc P (tn s) nb) else if w = nI 1 then ov (ff P (tn s) nb) else if w = nI 2 then ov (lf P (tn s) nb) else ov (am c P (tn s) 6)
theorem d_FG_stageTold_0 : decode M_FG_stageTold.2.1 0 = .ok (.iload_n 1, 1) := by decide +kernel
theorem d_FG_stageTold_1 : decode M_FG_stageTold.2.1 1 = .ok (.invokestatic 57, 3) := by decide +kernel
theorem d_FG_stageTold_4 : decode M_FG_stageTold.2.1 4 = .ok (.ifCond .ne 6, 3) := by decide +kernel
theorem d_FG_stageTold_7 : decode M_FG_stageTold.2.1 7 = .ok (.bipush (-5), 2) := by decide +kernel
theorem d_FG_stageTold_9 : decode M_FG_stageTold.2.1 9 = .ok (.ireturn, 1) := by decide +kernel
theorem d_FG_stageTold_10 : decode M_FG_stageTold.2.1 10 = .ok (.iload_n 2, 1) := by decide +kernel
theorem d_FG_stageTold_11 : decode M_FG_stageTold.2.1 11 = .ok (.tableswitch 69 0 3 #[29, 38, 47, 56], 29) := by decide +kernel
theorem d_FG_stageTold_40 : decode M_FG_stageTold.2.1 40 = .ok (.aload_n 0, 1) := by decide +kernel
theorem d_FG_stageTold_41 : decode M_FG_stageTold.2.1 41 = .ok (.getfield 19, 3) := by decide +kernel
theorem d_FG_stageTold_44 : decode M_FG_stageTold.2.1 44 = .ok (.iload_n 1, 1) := by decide +kernel
theorem d_FG_stageTold_45 : decode M_FG_stageTold.2.1 45 = .ok (.invokevirtual 196, 3) := by decide +kernel
theorem d_FG_stageTold_48 : decode M_FG_stageTold.2.1 48 = .ok (.ireturn, 1) := by decide +kernel
theorem d_FG_stageTold_49 : decode M_FG_stageTold.2.1 49 = .ok (.aload_n 0, 1) := by decide +kernel
theorem d_FG_stageTold_50 : decode M_FG_stageTold.2.1 50 = .ok (.getfield 19, 3) := by decide +kernel
theorem d_FG_stageTold_53 : decode M_FG_stageTold.2.1 53 = .ok (.iload_n 1, 1) := by decide +kernel
theorem d_FG_stageTold_54 : decode M_FG_stageTold.2.1 54 = .ok (.invokevirtual 101, 3) := by decide +kernel
theorem d_FG_stageTold_57 : decode M_FG_stageTold.2.1 57 = .ok (.ireturn, 1) := by decide +kernel
theorem d_FG_stageTold_58 : decode M_FG_stageTold.2.1 58 = .ok (.aload_n 0, 1) := by decide +kernel
theorem d_FG_stageTold_59 : decode M_FG_stageTold.2.1 59 = .ok (.getfield 19, 3) := by decide +kernel
theorem d_FG_stageTold_62 : decode M_FG_stageTold.2.1 62 = .ok (.iload_n 1, 1) := by decide +kernel
theorem d_FG_stageTold_63 : decode M_FG_stageTold.2.1 63 = .ok (.invokevirtual 199, 3) := by decide +kernel
theorem d_FG_stageTold_66 : decode M_FG_stageTold.2.1 66 = .ok (.ireturn, 1) := by decide +kernel
theorem d_FG_stageTold_67 : decode M_FG_stageTold.2.1 67 = .ok (.aload_n 0, 1) := by decide +kernel
theorem d_FG_stageTold_68 : decode M_FG_stageTold.2.1 68 = .ok (.getfield 10, 3) := by decide +kernel
theorem d_FG_stageTold_71 : decode M_FG_stageTold.2.1 71 = .ok (.aload_n 0, 1) := by decide +kernel
theorem d_FG_stageTold_72 : decode M_FG_stageTold.2.1 72 = .ok (.getfield 19, 3) := by decide +kernel
theorem d_FG_stageTold_75 : decode M_FG_stageTold.2.1 75 = .ok (.iload_n 1, 1) := by decide +kernel
theorem d_FG_stageTold_76 : decode M_FG_stageTold.2.1 76 = .ok (.invokevirtual 202, 3) := by decide +kernel
theorem d_FG_stageTold_79 : decode M_FG_stageTold.2.1 79 = .ok (.ireturn, 1) := by decide +kernel
theorem d_FG_stageTold_80 : decode M_FG_stageTold.2.1 80 = .ok (.bipush (-7), 2) := by decide +kernel
theorem d_FG_stageTold_82 : decode M_FG_stageTold.2.1 82 = .ok (.ireturn, 1) := by decide +kernel
set_option maxHeartbeats 4000000 in
set_option maxRecDepth 100000 in
theorem ok_FG_stageTold {D : xD} {N : Nat} {l : Launch} {d : Nat} {c x V : T2} {P : Nat → Int32} {ln df : Nat → Option Nat} {rest : List va_E} {K : Option Value → List va_E → Prop} {s : Int32} {w : Int32} {nb : Nat} (hnb : c 32 1 = nI nb) (h12 : nb ≤ 12) (hz : ∀ b, nb ≤ b → b < 12 → P (72 + b) = nI 0) (hr0 : ∀ i, i < 36 → (0 < c 2 i ↔ ¬ c 2 i = 0)) (hK : K (some (.int (sp_stageTold c P nb s w))) (encC D N c x (va_up V 0 P) ln df ++ rest)) : Ok D N l (d + 2) M_FG_stageTold [.ref (N + 0), .int s, .int w] (encC D N c x (va_up V 0 P) ln df ++ rest) 0 0 K := by
  refine ok_of (L := [(0, _), (1, _), (2, _)]) (by decide) (Nat.le_of_ble_eq_true rfl) rfl ?_
  refine wp_iload_n (q := 1) d_FG_stageTold_0 rfl rfl ?_
  refine wp_cs1 (q := 4) lk_FG_57 (ro _ _ _) d_FG_stageTold_1 rfl (Nat.le_of_ble_eq_true rfl) (Nat.zero_le _) (Nat.zero_le _) ?_
  refine ok_FG_isStage (fun s1 hs1 e => ?_) (fun hs1 => ?_)
  · subst e
    refine wp_if_ne_t (tgt := 10) d_FG_stageTold_4 (by decide) (by decide) ?_
    refine wp_iload_n (q := 11) d_FG_stageTold_10 rfl rfl ?_
    rcases sw w 3 (by decide) with ⟨k_11, hk_11, e_11⟩ | ⟨hn_11, ho_11⟩
    · subst e_11
      rcases (show k_11 = 0 ∨ k_11 = 1 ∨ k_11 = 2 ∨ k_11 = 3 by omega) with rfl | rfl | rfl | rfl
      · refine wp_tabIn (tgt := 40) d_FG_stageTold_11 (by decide) (by decide) rfl (by decide) ?_
        refine wp_aload_n (q := 41) d_FG_stageTold_40 rfl rfl ?_
        refine wp_get (q := 44) fl_FG_19 d_FG_stageTold_41 rfl rfl rfl ?_
        refine wp_iload_n (q := 45) d_FG_stageTold_44 rfl rfl ?_
        refine wp_cv1 (q := 48) lk_FG_196 (ro _ _ _) d_FG_stageTold_45 rfl (Nat.le_of_ble_eq_true rfl) (rdO (w := 0) (by decide)) rfl (Nat.zero_le _) (Nat.zero_le _) ?_
        refine ok_Wd_inLine (w := 0) (by decide) (by omega) ?_
        rw [qc_12 hz 12 h12 (Nat.le_refl _)]
        refine wp_iret d_FG_stageTold_48 rfl (Nat.le_refl _) (Nat.le_refl _) ?_
        simp only [sp_stageTold, inn, inb, inm, btw, inn_t hs1, tnl hs1, inn_t (show 0 ≤ 3 by decide), tnl (show 0 ≤ 3 by decide), (show ¬ nI 0 = nI 1 by decide), (show ¬ nI 0 = nI 2 by decide), (show ¬ nI 0 = nI 3 by decide), not_true_eq_false, not_false_eq_true, or_false, false_or, or_true, true_or, and_true, true_and, and_false, false_and, or_self, and_self, if_true, if_false, ite_true, ite_false, eq_self] at hK
        first | exact hK | (simp (disch := omega) only [tput_eq, tput2, tput_ne, upd_eq, upd_ne, ne_eq, va_upeq, va_upne, va_up2, not_true_eq_false, not_false_eq_true, or_false, false_or, or_true, true_or, and_true, true_and, and_false, false_and, or_self, and_self, if_true, if_false, ite_true, ite_false, eq_self] at hK ⊢; exact hK) | (simp (disch := omega) only [tput_eq, tput2, tput_ne, upd_eq, upd_ne, ne_eq, va_upeq, va_upne, va_up2, not_true_eq_false, not_false_eq_true, or_false, false_or, or_true, true_or, and_true, true_and, and_false, false_and, or_self, and_self, if_true, if_false, ite_true, ite_false, eq_self]; exact hK) | (simp (disch := omega) only [tput_eq, tput2, tput_ne, upd_eq, upd_ne, ne_eq, va_upeq, va_upne, va_up2, not_true_eq_false, not_false_eq_true, or_false, false_or, or_true, true_or, and_true, true_and, and_false, false_and, or_self, and_self, if_true, if_false, ite_true, ite_false, eq_self] at hK; exact hK)
      · refine wp_tabIn (tgt := 49) d_FG_stageTold_11 (by decide) (by decide) rfl (by decide) ?_
        refine wp_aload_n (q := 50) d_FG_stageTold_49 rfl rfl ?_
        refine wp_get (q := 53) fl_FG_19 d_FG_stageTold_50 rfl rfl rfl ?_
        refine wp_iload_n (q := 54) d_FG_stageTold_53 rfl rfl ?_
        refine wp_cv1 (q := 57) lk_FG_101 (ro _ _ _) d_FG_stageTold_54 rfl (Nat.le_of_ble_eq_true rfl) (rdO (w := 0) (by decide)) rfl (Nat.zero_le _) (Nat.zero_le _) ?_
        refine ok_Wd_firstInLine (w := 0) (by decide) (by omega) ?_
        rw [ff_12 hz 12 h12 (Nat.le_refl _)]
        refine wp_iret d_FG_stageTold_57 rfl (Nat.le_refl _) (Nat.le_refl _) ?_
        simp only [sp_stageTold, inn, inb, inm, btw, inn_t hs1, tnl hs1, inn_t (show 1 ≤ 3 by decide), tnl (show 1 ≤ 3 by decide), (show ¬ nI 1 = nI 0 by decide), (show ¬ nI 1 = nI 2 by decide), (show ¬ nI 1 = nI 3 by decide), not_true_eq_false, not_false_eq_true, or_false, false_or, or_true, true_or, and_true, true_and, and_false, false_and, or_self, and_self, if_true, if_false, ite_true, ite_false, eq_self] at hK
        first | exact hK | (simp (disch := omega) only [tput_eq, tput2, tput_ne, upd_eq, upd_ne, ne_eq, va_upeq, va_upne, va_up2, not_true_eq_false, not_false_eq_true, or_false, false_or, or_true, true_or, and_true, true_and, and_false, false_and, or_self, and_self, if_true, if_false, ite_true, ite_false, eq_self] at hK ⊢; exact hK) | (simp (disch := omega) only [tput_eq, tput2, tput_ne, upd_eq, upd_ne, ne_eq, va_upeq, va_upne, va_up2, not_true_eq_false, not_false_eq_true, or_false, false_or, or_true, true_or, and_true, true_and, and_false, false_and, or_self, and_self, if_true, if_false, ite_true, ite_false, eq_self]; exact hK) | (simp (disch := omega) only [tput_eq, tput2, tput_ne, upd_eq, upd_ne, ne_eq, va_upeq, va_upne, va_up2, not_true_eq_false, not_false_eq_true, or_false, false_or, or_true, true_or, and_true, true_and, and_false, false_and, or_self, and_self, if_true, if_false, ite_true, ite_false, eq_self] at hK; exact hK)
      · refine wp_tabIn (tgt := 58) d_FG_stageTold_11 (by decide) (by decide) rfl (by decide) ?_
        refine wp_aload_n (q := 59) d_FG_stageTold_58 rfl rfl ?_
        refine wp_get (q := 62) fl_FG_19 d_FG_stageTold_59 rfl rfl rfl ?_
        refine wp_iload_n (q := 63) d_FG_stageTold_62 rfl rfl ?_
        refine wp_cv1 (q := 66) lk_FG_199 (ro _ _ _) d_FG_stageTold_63 rfl (Nat.le_of_ble_eq_true rfl) (rdO (w := 0) (by decide)) rfl (Nat.zero_le _) (Nat.zero_le _) ?_
        refine ok_Wd_loadingAt (w := 0) (by decide) (by omega) ?_
        rw [lf_12 hz 12 h12 (Nat.le_refl _)]
        refine wp_iret d_FG_stageTold_66 rfl (Nat.le_refl _) (Nat.le_refl _) ?_
        simp only [sp_stageTold, inn, inb, inm, btw, inn_t hs1, tnl hs1, inn_t (show 2 ≤ 3 by decide), tnl (show 2 ≤ 3 by decide), (show ¬ nI 2 = nI 0 by decide), (show ¬ nI 2 = nI 1 by decide), (show ¬ nI 2 = nI 3 by decide), not_true_eq_false, not_false_eq_true, or_false, false_or, or_true, true_or, and_true, true_and, and_false, false_and, or_self, and_self, if_true, if_false, ite_true, ite_false, eq_self] at hK
        first | exact hK | (simp (disch := omega) only [tput_eq, tput2, tput_ne, upd_eq, upd_ne, ne_eq, va_upeq, va_upne, va_up2, not_true_eq_false, not_false_eq_true, or_false, false_or, or_true, true_or, and_true, true_and, and_false, false_and, or_self, and_self, if_true, if_false, ite_true, ite_false, eq_self] at hK ⊢; exact hK) | (simp (disch := omega) only [tput_eq, tput2, tput_ne, upd_eq, upd_ne, ne_eq, va_upeq, va_upne, va_up2, not_true_eq_false, not_false_eq_true, or_false, false_or, or_true, true_or, and_true, true_and, and_false, false_and, or_self, and_self, if_true, if_false, ite_true, ite_false, eq_self]; exact hK) | (simp (disch := omega) only [tput_eq, tput2, tput_ne, upd_eq, upd_ne, ne_eq, va_upeq, va_upne, va_up2, not_true_eq_false, not_false_eq_true, or_false, false_or, or_true, true_or, and_true, true_and, and_false, false_and, or_self, and_self, if_true, if_false, ite_true, ite_false, eq_self] at hK; exact hK)
      · refine wp_tabIn (tgt := 67) d_FG_stageTold_11 (by decide) (by decide) rfl (by decide) ?_
        refine wp_aload_n (q := 68) d_FG_stageTold_67 rfl rfl ?_
        refine wp_get (q := 71) fl_FG_10 d_FG_stageTold_68 rfl rfl rfl ?_
        refine wp_aload_n (q := 72) d_FG_stageTold_71 rfl rfl ?_
        refine wp_get (q := 75) fl_FG_19 d_FG_stageTold_72 rfl rfl rfl ?_
        refine wp_iload_n (q := 76) d_FG_stageTold_75 rfl rfl ?_
        refine wp_cv2 (q := 79) lk_FG_202 (ro _ _ _) d_FG_stageTold_76 rfl (Nat.le_of_ble_eq_true rfl) (rfl) rfl (Nat.zero_le _) (Nat.zero_le _) ?_
        refine ok_Tn_mostWanted (w := 0) (by decide) hr0 (by omega) ?_
        refine wp_iret d_FG_stageTold_79 rfl (Nat.le_refl _) (Nat.le_refl _) ?_
        simp only [sp_stageTold, inn, inb, inm, btw, inn_t hs1, tnl hs1, inn_t (show 3 ≤ 3 by decide), tnl (show 3 ≤ 3 by decide), (show ¬ nI 3 = nI 0 by decide), (show ¬ nI 3 = nI 1 by decide), (show ¬ nI 3 = nI 2 by decide), not_true_eq_false, not_false_eq_true, or_false, false_or, or_true, true_or, and_true, true_and, and_false, false_and, or_self, and_self, if_true, if_false, ite_true, ite_false, eq_self] at hK
        first | exact hK | (simp (disch := omega) only [tput_eq, tput2, tput_ne, upd_eq, upd_ne, ne_eq, va_upeq, va_upne, va_up2, not_true_eq_false, not_false_eq_true, or_false, false_or, or_true, true_or, and_true, true_and, and_false, false_and, or_self, and_self, if_true, if_false, ite_true, ite_false, eq_self] at hK ⊢; exact hK) | (simp (disch := omega) only [tput_eq, tput2, tput_ne, upd_eq, upd_ne, ne_eq, va_upeq, va_upne, va_up2, not_true_eq_false, not_false_eq_true, or_false, false_or, or_true, true_or, and_true, true_and, and_false, false_and, or_self, and_self, if_true, if_false, ite_true, ite_false, eq_self]; exact hK) | (simp (disch := omega) only [tput_eq, tput2, tput_ne, upd_eq, upd_ne, ne_eq, va_upeq, va_upne, va_up2, not_true_eq_false, not_false_eq_true, or_false, false_or, or_true, true_or, and_true, true_and, and_false, false_and, or_self, and_self, if_true, if_false, ite_true, ite_false, eq_self] at hK; exact hK)
    · refine wp_tabOut (tgt := 80) d_FG_stageTold_11 ho_11 (by decide) ?_
      refine wp_bipush (q := 82) d_FG_stageTold_80 rfl bp_m7 ?_
      refine wp_iret d_FG_stageTold_82 rfl (Nat.le_refl _) (Nat.le_refl _) ?_
      simp only [sp_stageTold, inn, inb, inm, btw, inn_t hs1, tnl hs1, hn_11, not_true_eq_false, not_false_eq_true, or_false, false_or, or_true, true_or, and_true, true_and, and_false, false_and, or_self, and_self, if_true, if_false, ite_true, ite_false, eq_self] at hK
      first | exact hK | (simp (disch := omega) only [tput_eq, tput2, tput_ne, upd_eq, upd_ne, ne_eq, va_upeq, va_upne, va_up2, not_true_eq_false, not_false_eq_true, or_false, false_or, or_true, true_or, and_true, true_and, and_false, false_and, or_self, and_self, if_true, if_false, ite_true, ite_false, eq_self] at hK ⊢; exact hK) | (simp (disch := omega) only [tput_eq, tput2, tput_ne, upd_eq, upd_ne, ne_eq, va_upeq, va_upne, va_up2, not_true_eq_false, not_false_eq_true, or_false, false_or, or_true, true_or, and_true, true_and, and_false, false_and, or_self, and_self, if_true, if_false, ite_true, ite_false, eq_self]; exact hK) | (simp (disch := omega) only [tput_eq, tput2, tput_ne, upd_eq, upd_ne, ne_eq, va_upeq, va_upne, va_up2, not_true_eq_false, not_false_eq_true, or_false, false_or, or_true, true_or, and_true, true_and, and_false, false_and, or_self, and_self, if_true, if_false, ite_true, ite_false, eq_self] at hK; exact hK)
  · refine wp_if_ne_f (q := 7) (tgt := 10) d_FG_stageTold_4 (by decide) rfl (by decide) ?_
    refine wp_bipush (q := 9) d_FG_stageTold_7 rfl bp_m5 ?_
    refine wp_iret d_FG_stageTold_9 rfl (Nat.le_refl _) (Nat.le_refl _) ?_
    simp only [sp_stageTold, inn, inb, inm, btw, hs1, not_true_eq_false, not_false_eq_true, or_false, false_or, or_true, true_or, and_true, true_and, and_false, false_and, or_self, and_self, if_true, if_false, ite_true, ite_false, eq_self] at hK
    first | exact hK | (simp (disch := omega) only [tput_eq, tput2, tput_ne, upd_eq, upd_ne, ne_eq, va_upeq, va_upne, va_up2, not_true_eq_false, not_false_eq_true, or_false, false_or, or_true, true_or, and_true, true_and, and_false, false_and, or_self, and_self, if_true, if_false, ite_true, ite_false, eq_self] at hK ⊢; exact hK) | (simp (disch := omega) only [tput_eq, tput2, tput_ne, upd_eq, upd_ne, ne_eq, va_upeq, va_upne, va_up2, not_true_eq_false, not_false_eq_true, or_false, false_or, or_true, true_or, and_true, true_and, and_false, false_and, or_self, and_self, if_true, if_false, ite_true, ite_false, eq_self]; exact hK) | (simp (disch := omega) only [tput_eq, tput2, tput_ne, upd_eq, upd_ne, ne_eq, va_upeq, va_upne, va_up2, not_true_eq_false, not_false_eq_true, or_false, false_or, or_true, true_or, and_true, true_and, and_false, false_and, or_self, and_self, if_true, if_false, ite_true, ite_false, eq_self] at hK; exact hK)
theorem d_Rf_stageTold_0 : decode M_Rf_stageTold.2.1 0 = .ok (.iload_n 1, 1) := by decide +kernel
theorem d_Rf_stageTold_1 : decode M_Rf_stageTold.2.1 1 = .ok (.invokestatic 163, 3) := by decide +kernel
theorem d_Rf_stageTold_4 : decode M_Rf_stageTold.2.1 4 = .ok (.ifCond .ne 6, 3) := by decide +kernel
theorem d_Rf_stageTold_7 : decode M_Rf_stageTold.2.1 7 = .ok (.bipush (-5), 2) := by decide +kernel
theorem d_Rf_stageTold_9 : decode M_Rf_stageTold.2.1 9 = .ok (.ireturn, 1) := by decide +kernel
theorem d_Rf_stageTold_10 : decode M_Rf_stageTold.2.1 10 = .ok (.iload_n 2, 1) := by decide +kernel
theorem d_Rf_stageTold_11 : decode M_Rf_stageTold.2.1 11 = .ok (.ifCond .ne 11, 3) := by decide +kernel
theorem d_Rf_stageTold_14 : decode M_Rf_stageTold.2.1 14 = .ok (.aload_n 0, 1) := by decide +kernel
theorem d_Rf_stageTold_15 : decode M_Rf_stageTold.2.1 15 = .ok (.iload_n 1, 1) := by decide +kernel
theorem d_Rf_stageTold_16 : decode M_Rf_stageTold.2.1 16 = .ok (.invokevirtual 217, 3) := by decide +kernel
theorem d_Rf_stageTold_19 : decode M_Rf_stageTold.2.1 19 = .ok (.goto 44, 3) := by decide +kernel
theorem d_Rf_stageTold_22 : decode M_Rf_stageTold.2.1 22 = .ok (.iload_n 2, 1) := by decide +kernel
theorem d_Rf_stageTold_23 : decode M_Rf_stageTold.2.1 23 = .ok (.iconst 1, 1) := by decide +kernel
theorem d_Rf_stageTold_24 : decode M_Rf_stageTold.2.1 24 = .ok (.if_icmp .ne 11, 3) := by decide +kernel
theorem d_Rf_stageTold_27 : decode M_Rf_stageTold.2.1 27 = .ok (.aload_n 0, 1) := by decide +kernel
theorem d_Rf_stageTold_28 : decode M_Rf_stageTold.2.1 28 = .ok (.iload_n 1, 1) := by decide +kernel
theorem d_Rf_stageTold_29 : decode M_Rf_stageTold.2.1 29 = .ok (.invokevirtual 174, 3) := by decide +kernel
theorem d_Rf_stageTold_32 : decode M_Rf_stageTold.2.1 32 = .ok (.goto 31, 3) := by decide +kernel
theorem d_Rf_stageTold_35 : decode M_Rf_stageTold.2.1 35 = .ok (.iload_n 2, 1) := by decide +kernel
theorem d_Rf_stageTold_36 : decode M_Rf_stageTold.2.1 36 = .ok (.iconst 2, 1) := by decide +kernel
theorem d_Rf_stageTold_37 : decode M_Rf_stageTold.2.1 37 = .ok (.if_icmp .ne 11, 3) := by decide +kernel
theorem d_Rf_stageTold_40 : decode M_Rf_stageTold.2.1 40 = .ok (.aload_n 0, 1) := by decide +kernel
theorem d_Rf_stageTold_41 : decode M_Rf_stageTold.2.1 41 = .ok (.iload_n 1, 1) := by decide +kernel
theorem d_Rf_stageTold_42 : decode M_Rf_stageTold.2.1 42 = .ok (.invokevirtual 233, 3) := by decide +kernel
theorem d_Rf_stageTold_45 : decode M_Rf_stageTold.2.1 45 = .ok (.goto 18, 3) := by decide +kernel
theorem d_Rf_stageTold_48 : decode M_Rf_stageTold.2.1 48 = .ok (.iload_n 2, 1) := by decide +kernel
theorem d_Rf_stageTold_49 : decode M_Rf_stageTold.2.1 49 = .ok (.iconst 3, 1) := by decide +kernel
theorem d_Rf_stageTold_50 : decode M_Rf_stageTold.2.1 50 = .ok (.if_icmp .ne 11, 3) := by decide +kernel
theorem d_Rf_stageTold_53 : decode M_Rf_stageTold.2.1 53 = .ok (.aload_n 0, 1) := by decide +kernel
theorem d_Rf_stageTold_54 : decode M_Rf_stageTold.2.1 54 = .ok (.iload_n 1, 1) := by decide +kernel
theorem d_Rf_stageTold_55 : decode M_Rf_stageTold.2.1 55 = .ok (.invokevirtual 236, 3) := by decide +kernel
theorem d_Rf_stageTold_58 : decode M_Rf_stageTold.2.1 58 = .ok (.goto 5, 3) := by decide +kernel
theorem d_Rf_stageTold_61 : decode M_Rf_stageTold.2.1 61 = .ok (.bipush (-7), 2) := by decide +kernel
theorem d_Rf_stageTold_63 : decode M_Rf_stageTold.2.1 63 = .ok (.ireturn, 1) := by decide +kernel
set_option maxHeartbeats 4000000 in
set_option maxRecDepth 100000 in
theorem ok_Rf_stageTold {D : xD} {N : Nat} {l : Launch} {d : Nat} {c z : T2} {P Q : Nat → Int32} {rest : List va_E} {K : Option Value → List va_E → Prop} {s : Int32} {w : Int32} {nb : Nat} (hnb : c 32 1 = nI nb) (h12 : nb ≤ 12)  (hK : K (some (.int (sp_stageTold c P nb s w))) (encR D N c z P Q ++ rest)) : Ok D N l (d + 2) M_Rf_stageTold [.ref (N + 0), .int s, .int w] (encR D N c z P Q ++ rest) 0 0 K := by
  refine ok_of (L := [(0, _), (1, _), (2, _)]) (by decide) (Nat.le_of_ble_eq_true rfl) rfl ?_
  rcases sw w 3 (by decide) with ⟨k_sw, hk_sw, rfl⟩ | ⟨hn_sw, ho_sw⟩
  · rcases (show k_sw = 0 ∨ k_sw = 1 ∨ k_sw = 2 ∨ k_sw = 3 by omega) with rfl | rfl | rfl | rfl
    · skip
      refine wp_iload_n (q := 1) d_Rf_stageTold_0 rfl rfl ?_
      refine wp_cs1 (q := 4) lk_Rf_163 (ro _ _ _) d_Rf_stageTold_1 rfl (Nat.le_of_ble_eq_true rfl) (Nat.zero_le _) (Nat.zero_le _) ?_
      refine ok_Rf_isStage (fun s1 hs1 e => ?_) (fun hs1 => ?_)
      · subst e
        refine wp_if_ne_t (tgt := 10) d_Rf_stageTold_4 (by decide) (by decide) ?_
        refine wp_iload_n (q := 11) d_Rf_stageTold_10 rfl rfl ?_
        refine wp_if_ne_f (q := 14) (tgt := 22) d_Rf_stageTold_11 (by decide) rfl (by decide) ?_
        refine wp_aload_n (q := 15) d_Rf_stageTold_14 rfl rfl ?_
        refine wp_iload_n (q := 16) d_Rf_stageTold_15 rfl rfl ?_
        refine wp_cv1 (q := 19) lk_Rf_217 (ro _ _ _) d_Rf_stageTold_16 rfl (Nat.le_of_ble_eq_true rfl) (rfl) rfl (Nat.zero_le _) (Nat.zero_le _) ?_
        refine ok_Rf_queueAt hnb h12 (by omega) ?_
        refine wp_goto (tgt := 63) d_Rf_stageTold_19 (by decide) ?_
        refine wp_iret d_Rf_stageTold_63 rfl (Nat.le_refl _) (Nat.le_refl _) ?_
        simp only [sp_stageTold, inn, inb, inm, btw, inn_t (show 0 ≤ 3 by decide), tnl (show 0 ≤ 3 by decide), (show ¬ nI 0 = nI 1 by decide), (show ¬ nI 0 = nI 2 by decide), (show ¬ nI 0 = nI 3 by decide), inn_t hs1, tnl hs1, not_true_eq_false, not_false_eq_true, or_false, false_or, or_true, true_or, and_true, true_and, and_false, false_and, or_self, and_self, if_true, if_false, ite_true, ite_false, eq_self] at hK
        first | exact hK | (simp (disch := omega) only [tput_eq, tput2, tput_ne, upd_eq, upd_ne, ne_eq, va_upeq, va_upne, va_up2, not_true_eq_false, not_false_eq_true, or_false, false_or, or_true, true_or, and_true, true_and, and_false, false_and, or_self, and_self, if_true, if_false, ite_true, ite_false, eq_self] at hK ⊢; exact hK) | (simp (disch := omega) only [tput_eq, tput2, tput_ne, upd_eq, upd_ne, ne_eq, va_upeq, va_upne, va_up2, not_true_eq_false, not_false_eq_true, or_false, false_or, or_true, true_or, and_true, true_and, and_false, false_and, or_self, and_self, if_true, if_false, ite_true, ite_false, eq_self]; exact hK) | (simp (disch := omega) only [tput_eq, tput2, tput_ne, upd_eq, upd_ne, ne_eq, va_upeq, va_upne, va_up2, not_true_eq_false, not_false_eq_true, or_false, false_or, or_true, true_or, and_true, true_and, and_false, false_and, or_self, and_self, if_true, if_false, ite_true, ite_false, eq_self] at hK; exact hK)
      · refine wp_if_ne_f (q := 7) (tgt := 10) d_Rf_stageTold_4 (by decide) rfl (by decide) ?_
        refine wp_bipush (q := 9) d_Rf_stageTold_7 rfl bp_m5 ?_
        refine wp_iret d_Rf_stageTold_9 rfl (Nat.le_refl _) (Nat.le_refl _) ?_
        simp only [sp_stageTold, inn, inb, inm, btw, inn_t (show 0 ≤ 3 by decide), tnl (show 0 ≤ 3 by decide), (show ¬ nI 0 = nI 1 by decide), (show ¬ nI 0 = nI 2 by decide), (show ¬ nI 0 = nI 3 by decide), hs1, not_true_eq_false, not_false_eq_true, or_false, false_or, or_true, true_or, and_true, true_and, and_false, false_and, or_self, and_self, if_true, if_false, ite_true, ite_false, eq_self] at hK
        first | exact hK | (simp (disch := omega) only [tput_eq, tput2, tput_ne, upd_eq, upd_ne, ne_eq, va_upeq, va_upne, va_up2, not_true_eq_false, not_false_eq_true, or_false, false_or, or_true, true_or, and_true, true_and, and_false, false_and, or_self, and_self, if_true, if_false, ite_true, ite_false, eq_self] at hK ⊢; exact hK) | (simp (disch := omega) only [tput_eq, tput2, tput_ne, upd_eq, upd_ne, ne_eq, va_upeq, va_upne, va_up2, not_true_eq_false, not_false_eq_true, or_false, false_or, or_true, true_or, and_true, true_and, and_false, false_and, or_self, and_self, if_true, if_false, ite_true, ite_false, eq_self]; exact hK) | (simp (disch := omega) only [tput_eq, tput2, tput_ne, upd_eq, upd_ne, ne_eq, va_upeq, va_upne, va_up2, not_true_eq_false, not_false_eq_true, or_false, false_or, or_true, true_or, and_true, true_and, and_false, false_and, or_self, and_self, if_true, if_false, ite_true, ite_false, eq_self] at hK; exact hK)
    · skip
      refine wp_iload_n (q := 1) d_Rf_stageTold_0 rfl rfl ?_
      refine wp_cs1 (q := 4) lk_Rf_163 (ro _ _ _) d_Rf_stageTold_1 rfl (Nat.le_of_ble_eq_true rfl) (Nat.zero_le _) (Nat.zero_le _) ?_
      refine ok_Rf_isStage (fun s1 hs1 e => ?_) (fun hs1 => ?_)
      · subst e
        refine wp_if_ne_t (tgt := 10) d_Rf_stageTold_4 (by decide) (by decide) ?_
        refine wp_iload_n (q := 11) d_Rf_stageTold_10 rfl rfl ?_
        refine wp_if_ne_t (tgt := 22) d_Rf_stageTold_11 (by decide) (by decide) ?_
        refine wp_iload_n (q := 23) d_Rf_stageTold_22 rfl rfl ?_
        refine wp_iconst (q := 24) d_Rf_stageTold_23 rfl ic_1 ?_
        refine wp_icmp_ne_f (q := 27) (tgt := 35) d_Rf_stageTold_24 (by decide) rfl (by decide) ?_
        refine wp_aload_n (q := 28) d_Rf_stageTold_27 rfl rfl ?_
        refine wp_iload_n (q := 29) d_Rf_stageTold_28 rfl rfl ?_
        refine wp_cv1 (q := 32) lk_Rf_174 (ro _ _ _) d_Rf_stageTold_29 rfl (Nat.le_of_ble_eq_true rfl) (rfl) rfl (Nat.zero_le _) (Nat.zero_le _) ?_
        refine ok_Rf_firstAt hnb h12 (by omega) ?_
        refine wp_goto (tgt := 63) d_Rf_stageTold_32 (by decide) ?_
        refine wp_iret d_Rf_stageTold_63 rfl (Nat.le_refl _) (Nat.le_refl _) ?_
        simp only [sp_stageTold, inn, inb, inm, btw, inn_t (show 1 ≤ 3 by decide), tnl (show 1 ≤ 3 by decide), (show ¬ nI 1 = nI 0 by decide), (show ¬ nI 1 = nI 2 by decide), (show ¬ nI 1 = nI 3 by decide), inn_t hs1, tnl hs1, not_true_eq_false, not_false_eq_true, or_false, false_or, or_true, true_or, and_true, true_and, and_false, false_and, or_self, and_self, if_true, if_false, ite_true, ite_false, eq_self] at hK
        first | exact hK | (simp (disch := omega) only [tput_eq, tput2, tput_ne, upd_eq, upd_ne, ne_eq, va_upeq, va_upne, va_up2, not_true_eq_false, not_false_eq_true, or_false, false_or, or_true, true_or, and_true, true_and, and_false, false_and, or_self, and_self, if_true, if_false, ite_true, ite_false, eq_self] at hK ⊢; exact hK) | (simp (disch := omega) only [tput_eq, tput2, tput_ne, upd_eq, upd_ne, ne_eq, va_upeq, va_upne, va_up2, not_true_eq_false, not_false_eq_true, or_false, false_or, or_true, true_or, and_true, true_and, and_false, false_and, or_self, and_self, if_true, if_false, ite_true, ite_false, eq_self]; exact hK) | (simp (disch := omega) only [tput_eq, tput2, tput_ne, upd_eq, upd_ne, ne_eq, va_upeq, va_upne, va_up2, not_true_eq_false, not_false_eq_true, or_false, false_or, or_true, true_or, and_true, true_and, and_false, false_and, or_self, and_self, if_true, if_false, ite_true, ite_false, eq_self] at hK; exact hK)
      · refine wp_if_ne_f (q := 7) (tgt := 10) d_Rf_stageTold_4 (by decide) rfl (by decide) ?_
        refine wp_bipush (q := 9) d_Rf_stageTold_7 rfl bp_m5 ?_
        refine wp_iret d_Rf_stageTold_9 rfl (Nat.le_refl _) (Nat.le_refl _) ?_
        simp only [sp_stageTold, inn, inb, inm, btw, inn_t (show 1 ≤ 3 by decide), tnl (show 1 ≤ 3 by decide), (show ¬ nI 1 = nI 0 by decide), (show ¬ nI 1 = nI 2 by decide), (show ¬ nI 1 = nI 3 by decide), hs1, not_true_eq_false, not_false_eq_true, or_false, false_or, or_true, true_or, and_true, true_and, and_false, false_and, or_self, and_self, if_true, if_false, ite_true, ite_false, eq_self] at hK
        first | exact hK | (simp (disch := omega) only [tput_eq, tput2, tput_ne, upd_eq, upd_ne, ne_eq, va_upeq, va_upne, va_up2, not_true_eq_false, not_false_eq_true, or_false, false_or, or_true, true_or, and_true, true_and, and_false, false_and, or_self, and_self, if_true, if_false, ite_true, ite_false, eq_self] at hK ⊢; exact hK) | (simp (disch := omega) only [tput_eq, tput2, tput_ne, upd_eq, upd_ne, ne_eq, va_upeq, va_upne, va_up2, not_true_eq_false, not_false_eq_true, or_false, false_or, or_true, true_or, and_true, true_and, and_false, false_and, or_self, and_self, if_true, if_false, ite_true, ite_false, eq_self]; exact hK) | (simp (disch := omega) only [tput_eq, tput2, tput_ne, upd_eq, upd_ne, ne_eq, va_upeq, va_upne, va_up2, not_true_eq_false, not_false_eq_true, or_false, false_or, or_true, true_or, and_true, true_and, and_false, false_and, or_self, and_self, if_true, if_false, ite_true, ite_false, eq_self] at hK; exact hK)
    · skip
      refine wp_iload_n (q := 1) d_Rf_stageTold_0 rfl rfl ?_
      refine wp_cs1 (q := 4) lk_Rf_163 (ro _ _ _) d_Rf_stageTold_1 rfl (Nat.le_of_ble_eq_true rfl) (Nat.zero_le _) (Nat.zero_le _) ?_
      refine ok_Rf_isStage (fun s1 hs1 e => ?_) (fun hs1 => ?_)
      · subst e
        refine wp_if_ne_t (tgt := 10) d_Rf_stageTold_4 (by decide) (by decide) ?_
        refine wp_iload_n (q := 11) d_Rf_stageTold_10 rfl rfl ?_
        refine wp_if_ne_t (tgt := 22) d_Rf_stageTold_11 (by decide) (by decide) ?_
        refine wp_iload_n (q := 23) d_Rf_stageTold_22 rfl rfl ?_
        refine wp_iconst (q := 24) d_Rf_stageTold_23 rfl ic_1 ?_
        refine wp_icmp_ne_t (tgt := 35) d_Rf_stageTold_24 (by decide) (by decide) ?_
        refine wp_iload_n (q := 36) d_Rf_stageTold_35 rfl rfl ?_
        refine wp_iconst (q := 37) d_Rf_stageTold_36 rfl ic_2 ?_
        refine wp_icmp_ne_f (q := 40) (tgt := 48) d_Rf_stageTold_37 (by decide) rfl (by decide) ?_
        refine wp_aload_n (q := 41) d_Rf_stageTold_40 rfl rfl ?_
        refine wp_iload_n (q := 42) d_Rf_stageTold_41 rfl rfl ?_
        refine wp_cv1 (q := 45) lk_Rf_233 (ro _ _ _) d_Rf_stageTold_42 rfl (Nat.le_of_ble_eq_true rfl) (rfl) rfl (Nat.zero_le _) (Nat.zero_le _) ?_
        refine ok_Rf_loadsAt hnb h12 (by omega) ?_
        refine wp_goto (tgt := 63) d_Rf_stageTold_45 (by decide) ?_
        refine wp_iret d_Rf_stageTold_63 rfl (Nat.le_refl _) (Nat.le_refl _) ?_
        simp only [sp_stageTold, inn, inb, inm, btw, inn_t (show 2 ≤ 3 by decide), tnl (show 2 ≤ 3 by decide), (show ¬ nI 2 = nI 0 by decide), (show ¬ nI 2 = nI 1 by decide), (show ¬ nI 2 = nI 3 by decide), inn_t hs1, tnl hs1, not_true_eq_false, not_false_eq_true, or_false, false_or, or_true, true_or, and_true, true_and, and_false, false_and, or_self, and_self, if_true, if_false, ite_true, ite_false, eq_self] at hK
        first | exact hK | (simp (disch := omega) only [tput_eq, tput2, tput_ne, upd_eq, upd_ne, ne_eq, va_upeq, va_upne, va_up2, not_true_eq_false, not_false_eq_true, or_false, false_or, or_true, true_or, and_true, true_and, and_false, false_and, or_self, and_self, if_true, if_false, ite_true, ite_false, eq_self] at hK ⊢; exact hK) | (simp (disch := omega) only [tput_eq, tput2, tput_ne, upd_eq, upd_ne, ne_eq, va_upeq, va_upne, va_up2, not_true_eq_false, not_false_eq_true, or_false, false_or, or_true, true_or, and_true, true_and, and_false, false_and, or_self, and_self, if_true, if_false, ite_true, ite_false, eq_self]; exact hK) | (simp (disch := omega) only [tput_eq, tput2, tput_ne, upd_eq, upd_ne, ne_eq, va_upeq, va_upne, va_up2, not_true_eq_false, not_false_eq_true, or_false, false_or, or_true, true_or, and_true, true_and, and_false, false_and, or_self, and_self, if_true, if_false, ite_true, ite_false, eq_self] at hK; exact hK)
      · refine wp_if_ne_f (q := 7) (tgt := 10) d_Rf_stageTold_4 (by decide) rfl (by decide) ?_
        refine wp_bipush (q := 9) d_Rf_stageTold_7 rfl bp_m5 ?_
        refine wp_iret d_Rf_stageTold_9 rfl (Nat.le_refl _) (Nat.le_refl _) ?_
        simp only [sp_stageTold, inn, inb, inm, btw, inn_t (show 2 ≤ 3 by decide), tnl (show 2 ≤ 3 by decide), (show ¬ nI 2 = nI 0 by decide), (show ¬ nI 2 = nI 1 by decide), (show ¬ nI 2 = nI 3 by decide), hs1, not_true_eq_false, not_false_eq_true, or_false, false_or, or_true, true_or, and_true, true_and, and_false, false_and, or_self, and_self, if_true, if_false, ite_true, ite_false, eq_self] at hK
        first | exact hK | (simp (disch := omega) only [tput_eq, tput2, tput_ne, upd_eq, upd_ne, ne_eq, va_upeq, va_upne, va_up2, not_true_eq_false, not_false_eq_true, or_false, false_or, or_true, true_or, and_true, true_and, and_false, false_and, or_self, and_self, if_true, if_false, ite_true, ite_false, eq_self] at hK ⊢; exact hK) | (simp (disch := omega) only [tput_eq, tput2, tput_ne, upd_eq, upd_ne, ne_eq, va_upeq, va_upne, va_up2, not_true_eq_false, not_false_eq_true, or_false, false_or, or_true, true_or, and_true, true_and, and_false, false_and, or_self, and_self, if_true, if_false, ite_true, ite_false, eq_self]; exact hK) | (simp (disch := omega) only [tput_eq, tput2, tput_ne, upd_eq, upd_ne, ne_eq, va_upeq, va_upne, va_up2, not_true_eq_false, not_false_eq_true, or_false, false_or, or_true, true_or, and_true, true_and, and_false, false_and, or_self, and_self, if_true, if_false, ite_true, ite_false, eq_self] at hK; exact hK)
    · skip
      refine wp_iload_n (q := 1) d_Rf_stageTold_0 rfl rfl ?_
      refine wp_cs1 (q := 4) lk_Rf_163 (ro _ _ _) d_Rf_stageTold_1 rfl (Nat.le_of_ble_eq_true rfl) (Nat.zero_le _) (Nat.zero_le _) ?_
      refine ok_Rf_isStage (fun s1 hs1 e => ?_) (fun hs1 => ?_)
      · subst e
        refine wp_if_ne_t (tgt := 10) d_Rf_stageTold_4 (by decide) (by decide) ?_
        refine wp_iload_n (q := 11) d_Rf_stageTold_10 rfl rfl ?_
        refine wp_if_ne_t (tgt := 22) d_Rf_stageTold_11 (by decide) (by decide) ?_
        refine wp_iload_n (q := 23) d_Rf_stageTold_22 rfl rfl ?_
        refine wp_iconst (q := 24) d_Rf_stageTold_23 rfl ic_1 ?_
        refine wp_icmp_ne_t (tgt := 35) d_Rf_stageTold_24 (by decide) (by decide) ?_
        refine wp_iload_n (q := 36) d_Rf_stageTold_35 rfl rfl ?_
        refine wp_iconst (q := 37) d_Rf_stageTold_36 rfl ic_2 ?_
        refine wp_icmp_ne_t (tgt := 48) d_Rf_stageTold_37 (by decide) (by decide) ?_
        refine wp_iload_n (q := 49) d_Rf_stageTold_48 rfl rfl ?_
        refine wp_iconst (q := 50) d_Rf_stageTold_49 rfl ic_3 ?_
        refine wp_icmp_ne_f (q := 53) (tgt := 61) d_Rf_stageTold_50 (by decide) rfl (by decide) ?_
        refine wp_aload_n (q := 54) d_Rf_stageTold_53 rfl rfl ?_
        refine wp_iload_n (q := 55) d_Rf_stageTold_54 rfl rfl ?_
        refine wp_cv1 (q := 58) lk_Rf_236 (ro _ _ _) d_Rf_stageTold_55 rfl (Nat.le_of_ble_eq_true rfl) (rfl) rfl (Nat.zero_le _) (Nat.zero_le _) ?_
        refine ok_Rf_aimOf (by omega) ?_
        refine wp_goto (tgt := 63) d_Rf_stageTold_58 (by decide) ?_
        refine wp_iret d_Rf_stageTold_63 rfl (Nat.le_refl _) (Nat.le_refl _) ?_
        simp only [sp_stageTold, inn, inb, inm, btw, inn_t (show 3 ≤ 3 by decide), tnl (show 3 ≤ 3 by decide), (show ¬ nI 3 = nI 0 by decide), (show ¬ nI 3 = nI 1 by decide), (show ¬ nI 3 = nI 2 by decide), inn_t hs1, tnl hs1, not_true_eq_false, not_false_eq_true, or_false, false_or, or_true, true_or, and_true, true_and, and_false, false_and, or_self, and_self, if_true, if_false, ite_true, ite_false, eq_self] at hK
        first | exact hK | (simp (disch := omega) only [tput_eq, tput2, tput_ne, upd_eq, upd_ne, ne_eq, va_upeq, va_upne, va_up2, not_true_eq_false, not_false_eq_true, or_false, false_or, or_true, true_or, and_true, true_and, and_false, false_and, or_self, and_self, if_true, if_false, ite_true, ite_false, eq_self] at hK ⊢; exact hK) | (simp (disch := omega) only [tput_eq, tput2, tput_ne, upd_eq, upd_ne, ne_eq, va_upeq, va_upne, va_up2, not_true_eq_false, not_false_eq_true, or_false, false_or, or_true, true_or, and_true, true_and, and_false, false_and, or_self, and_self, if_true, if_false, ite_true, ite_false, eq_self]; exact hK) | (simp (disch := omega) only [tput_eq, tput2, tput_ne, upd_eq, upd_ne, ne_eq, va_upeq, va_upne, va_up2, not_true_eq_false, not_false_eq_true, or_false, false_or, or_true, true_or, and_true, true_and, and_false, false_and, or_self, and_self, if_true, if_false, ite_true, ite_false, eq_self] at hK; exact hK)
      · refine wp_if_ne_f (q := 7) (tgt := 10) d_Rf_stageTold_4 (by decide) rfl (by decide) ?_
        refine wp_bipush (q := 9) d_Rf_stageTold_7 rfl bp_m5 ?_
        refine wp_iret d_Rf_stageTold_9 rfl (Nat.le_refl _) (Nat.le_refl _) ?_
        simp only [sp_stageTold, inn, inb, inm, btw, inn_t (show 3 ≤ 3 by decide), tnl (show 3 ≤ 3 by decide), (show ¬ nI 3 = nI 0 by decide), (show ¬ nI 3 = nI 1 by decide), (show ¬ nI 3 = nI 2 by decide), hs1, not_true_eq_false, not_false_eq_true, or_false, false_or, or_true, true_or, and_true, true_and, and_false, false_and, or_self, and_self, if_true, if_false, ite_true, ite_false, eq_self] at hK
        first | exact hK | (simp (disch := omega) only [tput_eq, tput2, tput_ne, upd_eq, upd_ne, ne_eq, va_upeq, va_upne, va_up2, not_true_eq_false, not_false_eq_true, or_false, false_or, or_true, true_or, and_true, true_and, and_false, false_and, or_self, and_self, if_true, if_false, ite_true, ite_false, eq_self] at hK ⊢; exact hK) | (simp (disch := omega) only [tput_eq, tput2, tput_ne, upd_eq, upd_ne, ne_eq, va_upeq, va_upne, va_up2, not_true_eq_false, not_false_eq_true, or_false, false_or, or_true, true_or, and_true, true_and, and_false, false_and, or_self, and_self, if_true, if_false, ite_true, ite_false, eq_self]; exact hK) | (simp (disch := omega) only [tput_eq, tput2, tput_ne, upd_eq, upd_ne, ne_eq, va_upeq, va_upne, va_up2, not_true_eq_false, not_false_eq_true, or_false, false_or, or_true, true_or, and_true, true_and, and_false, false_and, or_self, and_self, if_true, if_false, ite_true, ite_false, eq_self] at hK; exact hK)
  · skip
    refine wp_iload_n (q := 1) d_Rf_stageTold_0 rfl rfl ?_
    refine wp_cs1 (q := 4) lk_Rf_163 (ro _ _ _) d_Rf_stageTold_1 rfl (Nat.le_of_ble_eq_true rfl) (Nat.zero_le _) (Nat.zero_le _) ?_
    refine ok_Rf_isStage (fun s1 hs1 e => ?_) (fun hs1 => ?_)
    · subst e
      refine wp_if_ne_t (tgt := 10) d_Rf_stageTold_4 (by decide) (by decide) ?_
      refine wp_iload_n (q := 11) d_Rf_stageTold_10 rfl rfl ?_
      refine wp_if_ne_t (tgt := 22) d_Rf_stageTold_11 (by decide) (fun e => hn_sw (by rw [e]; decide)) ?_
      refine wp_iload_n (q := 23) d_Rf_stageTold_22 rfl rfl ?_
      refine wp_iconst (q := 24) d_Rf_stageTold_23 rfl ic_1 ?_
      refine wp_icmp_ne_t (tgt := 35) d_Rf_stageTold_24 (by decide) (fun e => hn_sw (by rw [e]; decide)) ?_
      refine wp_iload_n (q := 36) d_Rf_stageTold_35 rfl rfl ?_
      refine wp_iconst (q := 37) d_Rf_stageTold_36 rfl ic_2 ?_
      refine wp_icmp_ne_t (tgt := 48) d_Rf_stageTold_37 (by decide) (fun e => hn_sw (by rw [e]; decide)) ?_
      refine wp_iload_n (q := 49) d_Rf_stageTold_48 rfl rfl ?_
      refine wp_iconst (q := 50) d_Rf_stageTold_49 rfl ic_3 ?_
      refine wp_icmp_ne_t (tgt := 61) d_Rf_stageTold_50 (by decide) (fun e => hn_sw (by rw [e]; decide)) ?_
      refine wp_bipush (q := 63) d_Rf_stageTold_61 rfl bp_m7 ?_
      refine wp_iret d_Rf_stageTold_63 rfl (Nat.le_refl _) (Nat.le_refl _) ?_
      simp only [sp_stageTold, inn, inb, inm, btw, hn_sw, inn_t hs1, tnl hs1, not_true_eq_false, not_false_eq_true, or_false, false_or, or_true, true_or, and_true, true_and, and_false, false_and, or_self, and_self, if_true, if_false, ite_true, ite_false, eq_self] at hK
      first | exact hK | (simp (disch := omega) only [tput_eq, tput2, tput_ne, upd_eq, upd_ne, ne_eq, va_upeq, va_upne, va_up2, not_true_eq_false, not_false_eq_true, or_false, false_or, or_true, true_or, and_true, true_and, and_false, false_and, or_self, and_self, if_true, if_false, ite_true, ite_false, eq_self] at hK ⊢; exact hK) | (simp (disch := omega) only [tput_eq, tput2, tput_ne, upd_eq, upd_ne, ne_eq, va_upeq, va_upne, va_up2, not_true_eq_false, not_false_eq_true, or_false, false_or, or_true, true_or, and_true, true_and, and_false, false_and, or_self, and_self, if_true, if_false, ite_true, ite_false, eq_self]; exact hK) | (simp (disch := omega) only [tput_eq, tput2, tput_ne, upd_eq, upd_ne, ne_eq, va_upeq, va_upne, va_up2, not_true_eq_false, not_false_eq_true, or_false, false_or, or_true, true_or, and_true, true_and, and_false, false_and, or_self, and_self, if_true, if_false, ite_true, ite_false, eq_self] at hK; exact hK)
    · refine wp_if_ne_f (q := 7) (tgt := 10) d_Rf_stageTold_4 (by decide) rfl (by decide) ?_
      refine wp_bipush (q := 9) d_Rf_stageTold_7 rfl bp_m5 ?_
      refine wp_iret d_Rf_stageTold_9 rfl (Nat.le_refl _) (Nat.le_refl _) ?_
      simp only [sp_stageTold, inn, inb, inm, btw, hn_sw, hs1, not_true_eq_false, not_false_eq_true, or_false, false_or, or_true, true_or, and_true, true_and, and_false, false_and, or_self, and_self, if_true, if_false, ite_true, ite_false, eq_self] at hK
      first | exact hK | (simp (disch := omega) only [tput_eq, tput2, tput_ne, upd_eq, upd_ne, ne_eq, va_upeq, va_upne, va_up2, not_true_eq_false, not_false_eq_true, or_false, false_or, or_true, true_or, and_true, true_and, and_false, false_and, or_self, and_self, if_true, if_false, ite_true, ite_false, eq_self] at hK ⊢; exact hK) | (simp (disch := omega) only [tput_eq, tput2, tput_ne, upd_eq, upd_ne, ne_eq, va_upeq, va_upne, va_up2, not_true_eq_false, not_false_eq_true, or_false, false_or, or_true, true_or, and_true, true_and, and_false, false_and, or_self, and_self, if_true, if_false, ite_true, ite_false, eq_self]; exact hK) | (simp (disch := omega) only [tput_eq, tput2, tput_ne, upd_eq, upd_ne, ne_eq, va_upeq, va_upne, va_up2, not_true_eq_false, not_false_eq_true, or_false, false_or, or_true, true_or, and_true, true_and, and_false, false_and, or_self, and_self, if_true, if_false, ite_true, ite_false, eq_self] at hK; exact hK)
def sp_kindTold (k w v : Int32) : Int32 := if ¬ inn k 5 ∨ ¬ inn v 999 then -2 else if ¬ inn w 3 then -2 else if w = nI 0 then kNeed (tn k) v else if w = nI 1 then kFare (tn k) v else if w = nI 2 then kMin (tn k) v else kFuel (tn k) v
theorem d_FG_kindTold_0 : decode M_FG_kindTold.2.1 0 = .ok (.iload_n 1, 1) := by decide +kernel
theorem d_FG_kindTold_1 : decode M_FG_kindTold.2.1 1 = .ok (.invokestatic 120, 3) := by decide +kernel
theorem d_FG_kindTold_4 : decode M_FG_kindTold.2.1 4 = .ok (.ifCond .eq 14, 3) := by decide +kernel
theorem d_FG_kindTold_7 : decode M_FG_kindTold.2.1 7 = .ok (.iload_n 3, 1) := by decide +kernel
theorem d_FG_kindTold_8 : decode M_FG_kindTold.2.1 8 = .ok (.iconst 0, 1) := by decide +kernel
theorem d_FG_kindTold_9 : decode M_FG_kindTold.2.1 9 = .ok (.sipush 999, 3) := by decide +kernel
theorem d_FG_kindTold_12 : decode M_FG_kindTold.2.1 12 = .ok (.invokestatic 61, 3) := by decide +kernel
theorem d_FG_kindTold_15 : decode M_FG_kindTold.2.1 15 = .ok (.ifCond .ne 6, 3) := by decide +kernel
theorem d_FG_kindTold_18 : decode M_FG_kindTold.2.1 18 = .ok (.bipush (-2), 2) := by decide +kernel
theorem d_FG_kindTold_20 : decode M_FG_kindTold.2.1 20 = .ok (.ireturn, 1) := by decide +kernel
theorem d_FG_kindTold_21 : decode M_FG_kindTold.2.1 21 = .ok (.aload_n 0, 1) := by decide +kernel
theorem d_FG_kindTold_22 : decode M_FG_kindTold.2.1 22 = .ok (.getfield 10, 3) := by decide +kernel
theorem d_FG_kindTold_25 : decode M_FG_kindTold.2.1 25 = .ok (.getfield 206, 3) := by decide +kernel
theorem d_FG_kindTold_28 : decode M_FG_kindTold.2.1 28 = .ok (.iload_n 1, 1) := by decide +kernel
theorem d_FG_kindTold_29 : decode M_FG_kindTold.2.1 29 = .ok (.aaload, 1) := by decide +kernel
theorem d_FG_kindTold_30 : decode M_FG_kindTold.2.1 30 = .ok (.astore 4, 2) := by decide +kernel
theorem d_FG_kindTold_32 : decode M_FG_kindTold.2.1 32 = .ok (.iload_n 2, 1) := by decide +kernel
theorem d_FG_kindTold_33 : decode M_FG_kindTold.2.1 33 = .ok (.tableswitch 59 0 3 #[31, 38, 45, 52], 31) := by decide +kernel
theorem d_FG_kindTold_64 : decode M_FG_kindTold.2.1 64 = .ok (.aload 4, 2) := by decide +kernel
theorem d_FG_kindTold_66 : decode M_FG_kindTold.2.1 66 = .ok (.iload_n 3, 1) := by decide +kernel
theorem d_FG_kindTold_67 : decode M_FG_kindTold.2.1 67 = .ok (.invokevirtual 210, 3) := by decide +kernel
theorem d_FG_kindTold_70 : decode M_FG_kindTold.2.1 70 = .ok (.ireturn, 1) := by decide +kernel
theorem d_FG_kindTold_71 : decode M_FG_kindTold.2.1 71 = .ok (.aload 4, 2) := by decide +kernel
theorem d_FG_kindTold_73 : decode M_FG_kindTold.2.1 73 = .ok (.iload_n 3, 1) := by decide +kernel
theorem d_FG_kindTold_74 : decode M_FG_kindTold.2.1 74 = .ok (.invokevirtual 215, 3) := by decide +kernel
theorem d_FG_kindTold_77 : decode M_FG_kindTold.2.1 77 = .ok (.ireturn, 1) := by decide +kernel
theorem d_FG_kindTold_78 : decode M_FG_kindTold.2.1 78 = .ok (.aload 4, 2) := by decide +kernel
theorem d_FG_kindTold_80 : decode M_FG_kindTold.2.1 80 = .ok (.iload_n 3, 1) := by decide +kernel
theorem d_FG_kindTold_81 : decode M_FG_kindTold.2.1 81 = .ok (.invokevirtual 218, 3) := by decide +kernel
theorem d_FG_kindTold_84 : decode M_FG_kindTold.2.1 84 = .ok (.ireturn, 1) := by decide +kernel
theorem d_FG_kindTold_85 : decode M_FG_kindTold.2.1 85 = .ok (.aload 4, 2) := by decide +kernel
theorem d_FG_kindTold_87 : decode M_FG_kindTold.2.1 87 = .ok (.iload_n 3, 1) := by decide +kernel
theorem d_FG_kindTold_88 : decode M_FG_kindTold.2.1 88 = .ok (.invokevirtual 221, 3) := by decide +kernel
theorem d_FG_kindTold_91 : decode M_FG_kindTold.2.1 91 = .ok (.ireturn, 1) := by decide +kernel
theorem d_FG_kindTold_92 : decode M_FG_kindTold.2.1 92 = .ok (.bipush (-2), 2) := by decide +kernel
theorem d_FG_kindTold_94 : decode M_FG_kindTold.2.1 94 = .ok (.ireturn, 1) := by decide +kernel
set_option maxHeartbeats 4000000 in
set_option maxRecDepth 100000 in
theorem ok_FG_kindTold {D : xD} {N : Nat} {l : Launch} {d : Nat} {c x V : T2} {P : Nat → Int32} {ln df : Nat → Option Nat} {rest : List va_E} {K : Option Value → List va_E → Prop} {k : Int32} {w : Int32} {v : Int32}   (hK : K (some (.int (sp_kindTold  k w v))) (encC D N c x (va_up V 0 P) ln df ++ rest)) : Ok D N l (d + 4) M_FG_kindTold [.ref (N + 0), .int k, .int w, .int v] (encC D N c x (va_up V 0 P) ln df ++ rest) 0 0 K := by
  refine ok_of (L := [(0, _), (1, _), (2, _), (3, _)]) (by decide) (Nat.le_of_ble_eq_true rfl) rfl ?_
  refine wp_iload_n (q := 1) d_FG_kindTold_0 rfl rfl ?_
  refine wp_cs1 (q := 4) lk_FG_120 (ro _ _ _) d_FG_kindTold_1 rfl (Nat.le_of_ble_eq_true rfl) (Nat.zero_le _) (Nat.zero_le _) ?_
  refine ok_FG_isKind (fun k1 hk1 e => ?_) (fun hk1 => ?_)
  · subst e
    refine wp_if_eq_f (q := 7) (tgt := 18) d_FG_kindTold_4 (by decide) rfl (by decide) ?_
    refine wp_iload_n (q := 8) d_FG_kindTold_7 rfl rfl ?_
    refine wp_iconst (q := 9) d_FG_kindTold_8 rfl ic_0 ?_
    refine wp_sipush (q := 12) d_FG_kindTold_9 rfl sp_999 ?_
    refine wp_cs3 (q := 15) lk_FG_61 (ro _ _ _) d_FG_kindTold_12 rfl (Nat.le_of_ble_eq_true rfl) (Nat.zero_le _) (Nat.zero_le _) ?_
    refine ok_FG_within0 (b := 999) (by decide) (fun v1 hv1 e => ?_) (fun hv1 => ?_)
    · subst e
      refine wp_if_ne_t (tgt := 21) d_FG_kindTold_15 (by decide) (by decide) ?_
      refine wp_aload_n (q := 22) d_FG_kindTold_21 rfl rfl ?_
      refine wp_get (q := 25) fl_FG_10 d_FG_kindTold_22 rfl rfl rfl ?_
      refine wp_get (q := 28) fl_FG_206 d_FG_kindTold_25 rfl rfl rfl ?_
      refine wp_iload_n (q := 29) d_FG_kindTold_28 rfl rfl ?_
      refine wp_aldK (q := 30) d_FG_kindTold_29 rfl (rfl) (by omega) (by decide) (rows_at (by omega)) ?_
      refine wp_astore (q := 32) (L2 := [(4, _), (0, _), (1, _), (2, _), (3, _)]) d_FG_kindTold_30 rfl (by decide) rfl ?_
      refine wp_iload_n (q := 33) d_FG_kindTold_32 rfl rfl ?_
      rcases sw w 3 (by decide) with ⟨k_33, hk_33, e_33⟩ | ⟨hn_33, ho_33⟩
      · subst e_33
        rcases (show k_33 = 0 ∨ k_33 = 1 ∨ k_33 = 2 ∨ k_33 = 3 by omega) with rfl | rfl | rfl | rfl
        · refine wp_tabIn (tgt := 64) d_FG_kindTold_33 (by decide) (by decide) rfl (by decide) ?_
          refine wp_aload (q := 66) d_FG_kindTold_64 rfl rfl ?_
          refine wp_iload_n (q := 67) d_FG_kindTold_66 rfl rfl ?_
          refine wp_v_needOf lm_FG_210 (ro _ _ _) d_FG_kindTold_67 rfl (Nat.le_of_ble_eq_true rfl) (show k1 < 6 by omega) (rdK (by omega)) (Nat.zero_le _) (Nat.zero_le _) ?_
          refine wp_iret d_FG_kindTold_70 rfl (Nat.le_refl _) (Nat.le_refl _) ?_
          simp only [sp_kindTold, inn, inb, inm, btw, inn_t hk1, tnl hk1, inn_t hv1, tnl hv1, inn_t (show 0 ≤ 3 by decide), tnl (show 0 ≤ 3 by decide), (show ¬ nI 0 = nI 1 by decide), (show ¬ nI 0 = nI 2 by decide), (show ¬ nI 0 = nI 3 by decide), not_true_eq_false, not_false_eq_true, or_false, false_or, or_true, true_or, and_true, true_and, and_false, false_and, or_self, and_self, if_true, if_false, ite_true, ite_false, eq_self] at hK
          first | exact hK | (simp (disch := omega) only [tput_eq, tput2, tput_ne, upd_eq, upd_ne, ne_eq, va_upeq, va_upne, va_up2, not_true_eq_false, not_false_eq_true, or_false, false_or, or_true, true_or, and_true, true_and, and_false, false_and, or_self, and_self, if_true, if_false, ite_true, ite_false, eq_self] at hK ⊢; exact hK) | (simp (disch := omega) only [tput_eq, tput2, tput_ne, upd_eq, upd_ne, ne_eq, va_upeq, va_upne, va_up2, not_true_eq_false, not_false_eq_true, or_false, false_or, or_true, true_or, and_true, true_and, and_false, false_and, or_self, and_self, if_true, if_false, ite_true, ite_false, eq_self]; exact hK) | (simp (disch := omega) only [tput_eq, tput2, tput_ne, upd_eq, upd_ne, ne_eq, va_upeq, va_upne, va_up2, not_true_eq_false, not_false_eq_true, or_false, false_or, or_true, true_or, and_true, true_and, and_false, false_and, or_self, and_self, if_true, if_false, ite_true, ite_false, eq_self] at hK; exact hK)
        · refine wp_tabIn (tgt := 71) d_FG_kindTold_33 (by decide) (by decide) rfl (by decide) ?_
          refine wp_aload (q := 73) d_FG_kindTold_71 rfl rfl ?_
          refine wp_iload_n (q := 74) d_FG_kindTold_73 rfl rfl ?_
          refine wp_v_fareOf lm_FG_215 (ro _ _ _) d_FG_kindTold_74 rfl (Nat.le_of_ble_eq_true rfl) (show k1 < 6 by omega) (rdK (by omega)) (Nat.zero_le _) (Nat.zero_le _) ?_
          refine wp_iret d_FG_kindTold_77 rfl (Nat.le_refl _) (Nat.le_refl _) ?_
          simp only [sp_kindTold, inn, inb, inm, btw, inn_t hk1, tnl hk1, inn_t hv1, tnl hv1, inn_t (show 1 ≤ 3 by decide), tnl (show 1 ≤ 3 by decide), (show ¬ nI 1 = nI 0 by decide), (show ¬ nI 1 = nI 2 by decide), (show ¬ nI 1 = nI 3 by decide), not_true_eq_false, not_false_eq_true, or_false, false_or, or_true, true_or, and_true, true_and, and_false, false_and, or_self, and_self, if_true, if_false, ite_true, ite_false, eq_self] at hK
          first | exact hK | (simp (disch := omega) only [tput_eq, tput2, tput_ne, upd_eq, upd_ne, ne_eq, va_upeq, va_upne, va_up2, not_true_eq_false, not_false_eq_true, or_false, false_or, or_true, true_or, and_true, true_and, and_false, false_and, or_self, and_self, if_true, if_false, ite_true, ite_false, eq_self] at hK ⊢; exact hK) | (simp (disch := omega) only [tput_eq, tput2, tput_ne, upd_eq, upd_ne, ne_eq, va_upeq, va_upne, va_up2, not_true_eq_false, not_false_eq_true, or_false, false_or, or_true, true_or, and_true, true_and, and_false, false_and, or_self, and_self, if_true, if_false, ite_true, ite_false, eq_self]; exact hK) | (simp (disch := omega) only [tput_eq, tput2, tput_ne, upd_eq, upd_ne, ne_eq, va_upeq, va_upne, va_up2, not_true_eq_false, not_false_eq_true, or_false, false_or, or_true, true_or, and_true, true_and, and_false, false_and, or_self, and_self, if_true, if_false, ite_true, ite_false, eq_self] at hK; exact hK)
        · refine wp_tabIn (tgt := 78) d_FG_kindTold_33 (by decide) (by decide) rfl (by decide) ?_
          refine wp_aload (q := 80) d_FG_kindTold_78 rfl rfl ?_
          refine wp_iload_n (q := 81) d_FG_kindTold_80 rfl rfl ?_
          refine wp_v_minutesOf lm_FG_218 (ro _ _ _) d_FG_kindTold_81 rfl (Nat.le_of_ble_eq_true rfl) (show k1 < 6 by omega) (rdK (by omega)) (Nat.zero_le _) (Nat.zero_le _) ?_
          refine wp_iret d_FG_kindTold_84 rfl (Nat.le_refl _) (Nat.le_refl _) ?_
          simp only [sp_kindTold, inn, inb, inm, btw, inn_t hk1, tnl hk1, inn_t hv1, tnl hv1, inn_t (show 2 ≤ 3 by decide), tnl (show 2 ≤ 3 by decide), (show ¬ nI 2 = nI 0 by decide), (show ¬ nI 2 = nI 1 by decide), (show ¬ nI 2 = nI 3 by decide), not_true_eq_false, not_false_eq_true, or_false, false_or, or_true, true_or, and_true, true_and, and_false, false_and, or_self, and_self, if_true, if_false, ite_true, ite_false, eq_self] at hK
          first | exact hK | (simp (disch := omega) only [tput_eq, tput2, tput_ne, upd_eq, upd_ne, ne_eq, va_upeq, va_upne, va_up2, not_true_eq_false, not_false_eq_true, or_false, false_or, or_true, true_or, and_true, true_and, and_false, false_and, or_self, and_self, if_true, if_false, ite_true, ite_false, eq_self] at hK ⊢; exact hK) | (simp (disch := omega) only [tput_eq, tput2, tput_ne, upd_eq, upd_ne, ne_eq, va_upeq, va_upne, va_up2, not_true_eq_false, not_false_eq_true, or_false, false_or, or_true, true_or, and_true, true_and, and_false, false_and, or_self, and_self, if_true, if_false, ite_true, ite_false, eq_self]; exact hK) | (simp (disch := omega) only [tput_eq, tput2, tput_ne, upd_eq, upd_ne, ne_eq, va_upeq, va_upne, va_up2, not_true_eq_false, not_false_eq_true, or_false, false_or, or_true, true_or, and_true, true_and, and_false, false_and, or_self, and_self, if_true, if_false, ite_true, ite_false, eq_self] at hK; exact hK)
        · refine wp_tabIn (tgt := 85) d_FG_kindTold_33 (by decide) (by decide) rfl (by decide) ?_
          refine wp_aload (q := 87) d_FG_kindTold_85 rfl rfl ?_
          refine wp_iload_n (q := 88) d_FG_kindTold_87 rfl rfl ?_
          refine wp_v_fuelOf lm_FG_221 (ro _ _ _) d_FG_kindTold_88 rfl (Nat.le_of_ble_eq_true rfl) (show k1 < 6 by omega) (rdK (by omega)) (Nat.zero_le _) (Nat.zero_le _) ?_
          refine wp_iret d_FG_kindTold_91 rfl (Nat.le_refl _) (Nat.le_refl _) ?_
          simp only [sp_kindTold, inn, inb, inm, btw, inn_t hk1, tnl hk1, inn_t hv1, tnl hv1, inn_t (show 3 ≤ 3 by decide), tnl (show 3 ≤ 3 by decide), (show ¬ nI 3 = nI 0 by decide), (show ¬ nI 3 = nI 1 by decide), (show ¬ nI 3 = nI 2 by decide), not_true_eq_false, not_false_eq_true, or_false, false_or, or_true, true_or, and_true, true_and, and_false, false_and, or_self, and_self, if_true, if_false, ite_true, ite_false, eq_self] at hK
          first | exact hK | (simp (disch := omega) only [tput_eq, tput2, tput_ne, upd_eq, upd_ne, ne_eq, va_upeq, va_upne, va_up2, not_true_eq_false, not_false_eq_true, or_false, false_or, or_true, true_or, and_true, true_and, and_false, false_and, or_self, and_self, if_true, if_false, ite_true, ite_false, eq_self] at hK ⊢; exact hK) | (simp (disch := omega) only [tput_eq, tput2, tput_ne, upd_eq, upd_ne, ne_eq, va_upeq, va_upne, va_up2, not_true_eq_false, not_false_eq_true, or_false, false_or, or_true, true_or, and_true, true_and, and_false, false_and, or_self, and_self, if_true, if_false, ite_true, ite_false, eq_self]; exact hK) | (simp (disch := omega) only [tput_eq, tput2, tput_ne, upd_eq, upd_ne, ne_eq, va_upeq, va_upne, va_up2, not_true_eq_false, not_false_eq_true, or_false, false_or, or_true, true_or, and_true, true_and, and_false, false_and, or_self, and_self, if_true, if_false, ite_true, ite_false, eq_self] at hK; exact hK)
      · refine wp_tabOut (tgt := 92) d_FG_kindTold_33 ho_33 (by decide) ?_
        refine wp_bipush (q := 94) d_FG_kindTold_92 rfl bp_m2 ?_
        refine wp_iret d_FG_kindTold_94 rfl (Nat.le_refl _) (Nat.le_refl _) ?_
        simp only [sp_kindTold, inn, inb, inm, btw, inn_t hk1, tnl hk1, inn_t hv1, tnl hv1, hn_33, not_true_eq_false, not_false_eq_true, or_false, false_or, or_true, true_or, and_true, true_and, and_false, false_and, or_self, and_self, if_true, if_false, ite_true, ite_false, eq_self] at hK
        first | exact hK | (simp (disch := omega) only [tput_eq, tput2, tput_ne, upd_eq, upd_ne, ne_eq, va_upeq, va_upne, va_up2, not_true_eq_false, not_false_eq_true, or_false, false_or, or_true, true_or, and_true, true_and, and_false, false_and, or_self, and_self, if_true, if_false, ite_true, ite_false, eq_self] at hK ⊢; exact hK) | (simp (disch := omega) only [tput_eq, tput2, tput_ne, upd_eq, upd_ne, ne_eq, va_upeq, va_upne, va_up2, not_true_eq_false, not_false_eq_true, or_false, false_or, or_true, true_or, and_true, true_and, and_false, false_and, or_self, and_self, if_true, if_false, ite_true, ite_false, eq_self]; exact hK) | (simp (disch := omega) only [tput_eq, tput2, tput_ne, upd_eq, upd_ne, ne_eq, va_upeq, va_upne, va_up2, not_true_eq_false, not_false_eq_true, or_false, false_or, or_true, true_or, and_true, true_and, and_false, false_and, or_self, and_self, if_true, if_false, ite_true, ite_false, eq_self] at hK; exact hK)
    · refine wp_if_ne_f (q := 18) (tgt := 21) d_FG_kindTold_15 (by decide) rfl (by decide) ?_
      refine wp_bipush (q := 20) d_FG_kindTold_18 rfl bp_m2 ?_
      refine wp_iret d_FG_kindTold_20 rfl (Nat.le_refl _) (Nat.le_refl _) ?_
      simp only [sp_kindTold, inn, inb, inm, btw, inn_t hk1, tnl hk1, hv1, not_true_eq_false, not_false_eq_true, or_false, false_or, or_true, true_or, and_true, true_and, and_false, false_and, or_self, and_self, if_true, if_false, ite_true, ite_false, eq_self] at hK
      first | exact hK | (simp (disch := omega) only [tput_eq, tput2, tput_ne, upd_eq, upd_ne, ne_eq, va_upeq, va_upne, va_up2, not_true_eq_false, not_false_eq_true, or_false, false_or, or_true, true_or, and_true, true_and, and_false, false_and, or_self, and_self, if_true, if_false, ite_true, ite_false, eq_self] at hK ⊢; exact hK) | (simp (disch := omega) only [tput_eq, tput2, tput_ne, upd_eq, upd_ne, ne_eq, va_upeq, va_upne, va_up2, not_true_eq_false, not_false_eq_true, or_false, false_or, or_true, true_or, and_true, true_and, and_false, false_and, or_self, and_self, if_true, if_false, ite_true, ite_false, eq_self]; exact hK) | (simp (disch := omega) only [tput_eq, tput2, tput_ne, upd_eq, upd_ne, ne_eq, va_upeq, va_upne, va_up2, not_true_eq_false, not_false_eq_true, or_false, false_or, or_true, true_or, and_true, true_and, and_false, false_and, or_self, and_self, if_true, if_false, ite_true, ite_false, eq_self] at hK; exact hK)
  · refine wp_if_eq_t (tgt := 18) d_FG_kindTold_4 (by decide) (by decide) ?_
    refine wp_bipush (q := 20) d_FG_kindTold_18 rfl bp_m2 ?_
    refine wp_iret d_FG_kindTold_20 rfl (Nat.le_refl _) (Nat.le_refl _) ?_
    simp only [sp_kindTold, inn, inb, inm, btw, hk1, not_true_eq_false, not_false_eq_true, or_false, false_or, or_true, true_or, and_true, true_and, and_false, false_and, or_self, and_self, if_true, if_false, ite_true, ite_false, eq_self] at hK
    first | exact hK | (simp (disch := omega) only [tput_eq, tput2, tput_ne, upd_eq, upd_ne, ne_eq, va_upeq, va_upne, va_up2, not_true_eq_false, not_false_eq_true, or_false, false_or, or_true, true_or, and_true, true_and, and_false, false_and, or_self, and_self, if_true, if_false, ite_true, ite_false, eq_self] at hK ⊢; exact hK) | (simp (disch := omega) only [tput_eq, tput2, tput_ne, upd_eq, upd_ne, ne_eq, va_upeq, va_upne, va_up2, not_true_eq_false, not_false_eq_true, or_false, false_or, or_true, true_or, and_true, true_and, and_false, false_and, or_self, and_self, if_true, if_false, ite_true, ite_false, eq_self]; exact hK) | (simp (disch := omega) only [tput_eq, tput2, tput_ne, upd_eq, upd_ne, ne_eq, va_upeq, va_upne, va_up2, not_true_eq_false, not_false_eq_true, or_false, false_or, or_true, true_or, and_true, true_and, and_false, false_and, or_self, and_self, if_true, if_false, ite_true, ite_false, eq_self] at hK; exact hK)
theorem d_Rf_kindTold_0 : decode M_Rf_kindTold.2.1 0 = .ok (.iload_n 1, 1) := by decide +kernel
theorem d_Rf_kindTold_1 : decode M_Rf_kindTold.2.1 1 = .ok (.iconst 0, 1) := by decide +kernel
theorem d_Rf_kindTold_2 : decode M_Rf_kindTold.2.1 2 = .ok (.iconst 5, 1) := by decide +kernel
theorem d_Rf_kindTold_3 : decode M_Rf_kindTold.2.1 3 = .ok (.invokestatic 151, 3) := by decide +kernel
theorem d_Rf_kindTold_6 : decode M_Rf_kindTold.2.1 6 = .ok (.ifCond .eq 23, 3) := by decide +kernel
theorem d_Rf_kindTold_9 : decode M_Rf_kindTold.2.1 9 = .ok (.iload_n 2, 1) := by decide +kernel
theorem d_Rf_kindTold_10 : decode M_Rf_kindTold.2.1 10 = .ok (.iconst 0, 1) := by decide +kernel
theorem d_Rf_kindTold_11 : decode M_Rf_kindTold.2.1 11 = .ok (.iconst 3, 1) := by decide +kernel
theorem d_Rf_kindTold_12 : decode M_Rf_kindTold.2.1 12 = .ok (.invokestatic 151, 3) := by decide +kernel
theorem d_Rf_kindTold_15 : decode M_Rf_kindTold.2.1 15 = .ok (.ifCond .eq 14, 3) := by decide +kernel
theorem d_Rf_kindTold_18 : decode M_Rf_kindTold.2.1 18 = .ok (.iload_n 3, 1) := by decide +kernel
theorem d_Rf_kindTold_19 : decode M_Rf_kindTold.2.1 19 = .ok (.iconst 0, 1) := by decide +kernel
theorem d_Rf_kindTold_20 : decode M_Rf_kindTold.2.1 20 = .ok (.sipush 999, 3) := by decide +kernel
theorem d_Rf_kindTold_23 : decode M_Rf_kindTold.2.1 23 = .ok (.invokestatic 151, 3) := by decide +kernel
theorem d_Rf_kindTold_26 : decode M_Rf_kindTold.2.1 26 = .ok (.ifCond .ne 6, 3) := by decide +kernel
theorem d_Rf_kindTold_29 : decode M_Rf_kindTold.2.1 29 = .ok (.bipush (-2), 2) := by decide +kernel
theorem d_Rf_kindTold_31 : decode M_Rf_kindTold.2.1 31 = .ok (.ireturn, 1) := by decide +kernel
theorem d_Rf_kindTold_32 : decode M_Rf_kindTold.2.1 32 = .ok (.iload_n 2, 1) := by decide +kernel
theorem d_Rf_kindTold_33 : decode M_Rf_kindTold.2.1 33 = .ok (.ifCond .ne 11, 3) := by decide +kernel
theorem d_Rf_kindTold_36 : decode M_Rf_kindTold.2.1 36 = .ok (.iload_n 1, 1) := by decide +kernel
theorem d_Rf_kindTold_37 : decode M_Rf_kindTold.2.1 37 = .ok (.iload_n 3, 1) := by decide +kernel
theorem d_Rf_kindTold_38 : decode M_Rf_kindTold.2.1 38 = .ok (.invokestatic 178, 3) := by decide +kernel
theorem d_Rf_kindTold_41 : decode M_Rf_kindTold.2.1 41 = .ok (.goto 34, 3) := by decide +kernel
theorem d_Rf_kindTold_44 : decode M_Rf_kindTold.2.1 44 = .ok (.iload_n 2, 1) := by decide +kernel
theorem d_Rf_kindTold_45 : decode M_Rf_kindTold.2.1 45 = .ok (.iconst 1, 1) := by decide +kernel
theorem d_Rf_kindTold_46 : decode M_Rf_kindTold.2.1 46 = .ok (.if_icmp .ne 11, 3) := by decide +kernel
theorem d_Rf_kindTold_49 : decode M_Rf_kindTold.2.1 49 = .ok (.iload_n 1, 1) := by decide +kernel
theorem d_Rf_kindTold_50 : decode M_Rf_kindTold.2.1 50 = .ok (.iload_n 3, 1) := by decide +kernel
theorem d_Rf_kindTold_51 : decode M_Rf_kindTold.2.1 51 = .ok (.invokestatic 182, 3) := by decide +kernel
theorem d_Rf_kindTold_54 : decode M_Rf_kindTold.2.1 54 = .ok (.goto 21, 3) := by decide +kernel
theorem d_Rf_kindTold_57 : decode M_Rf_kindTold.2.1 57 = .ok (.iload_n 2, 1) := by decide +kernel
theorem d_Rf_kindTold_58 : decode M_Rf_kindTold.2.1 58 = .ok (.iconst 2, 1) := by decide +kernel
theorem d_Rf_kindTold_59 : decode M_Rf_kindTold.2.1 59 = .ok (.if_icmp .ne 11, 3) := by decide +kernel
theorem d_Rf_kindTold_62 : decode M_Rf_kindTold.2.1 62 = .ok (.iload_n 1, 1) := by decide +kernel
theorem d_Rf_kindTold_63 : decode M_Rf_kindTold.2.1 63 = .ok (.iload_n 3, 1) := by decide +kernel
theorem d_Rf_kindTold_64 : decode M_Rf_kindTold.2.1 64 = .ok (.invokestatic 185, 3) := by decide +kernel
theorem d_Rf_kindTold_67 : decode M_Rf_kindTold.2.1 67 = .ok (.goto 8, 3) := by decide +kernel
theorem d_Rf_kindTold_70 : decode M_Rf_kindTold.2.1 70 = .ok (.iload_n 1, 1) := by decide +kernel
theorem d_Rf_kindTold_71 : decode M_Rf_kindTold.2.1 71 = .ok (.iload_n 3, 1) := by decide +kernel
theorem d_Rf_kindTold_72 : decode M_Rf_kindTold.2.1 72 = .ok (.invokestatic 188, 3) := by decide +kernel
theorem d_Rf_kindTold_75 : decode M_Rf_kindTold.2.1 75 = .ok (.ireturn, 1) := by decide +kernel
set_option maxHeartbeats 4000000 in
set_option maxRecDepth 100000 in
theorem ok_Rf_kindTold {D : xD} {N : Nat} {l : Launch} {d : Nat} {c z : T2} {P Q : Nat → Int32} {rest : List va_E} {K : Option Value → List va_E → Prop} {k : Int32} {w : Int32} {v : Int32}   (hK : K (some (.int (sp_kindTold  k w v))) (encR D N c z P Q ++ rest)) : Ok D N l (d + 4) M_Rf_kindTold [.ref (N + 0), .int k, .int w, .int v] (encR D N c z P Q ++ rest) 0 0 K := by
  refine ok_of (L := [(0, _), (1, _), (2, _), (3, _)]) (by decide) (Nat.le_of_ble_eq_true rfl) rfl ?_
  rcases sw w 3 (by decide) with ⟨k_sw, hk_sw, rfl⟩ | ⟨hn_sw, ho_sw⟩
  · rcases (show k_sw = 0 ∨ k_sw = 1 ∨ k_sw = 2 ∨ k_sw = 3 by omega) with rfl | rfl | rfl | rfl
    · skip
      refine wp_iload_n (q := 1) d_Rf_kindTold_0 rfl rfl ?_
      refine wp_iconst (q := 2) d_Rf_kindTold_1 rfl ic_0 ?_
      refine wp_iconst (q := 3) d_Rf_kindTold_2 rfl ic_5 ?_
      refine wp_cs3 (q := 6) lk_Rf_151 (ro _ _ _) d_Rf_kindTold_3 rfl (Nat.le_of_ble_eq_true rfl) (Nat.zero_le _) (Nat.zero_le _) ?_
      refine ok_Rf_in0 (b := 5) (by decide) (fun k1 hk1 e => ?_) (fun hk1 => ?_)
      · subst e
        refine wp_if_eq_f (q := 9) (tgt := 29) d_Rf_kindTold_6 (by decide) rfl (by decide) ?_
        refine wp_iload_n (q := 10) d_Rf_kindTold_9 rfl rfl ?_
        refine wp_iconst (q := 11) d_Rf_kindTold_10 rfl ic_0 ?_
        refine wp_iconst (q := 12) d_Rf_kindTold_11 rfl ic_3 ?_
        refine wp_cs3 (q := 15) lk_Rf_151 (ro _ _ _) d_Rf_kindTold_12 rfl (Nat.le_of_ble_eq_true rfl) (Nat.zero_le _) (Nat.zero_le _) ?_
        refine ok_Rf_in (fun _ _ => ?_) (fun hw1 => absurd (inn_t (show 0 ≤ 3 by decide)) hw1)
        refine wp_if_eq_f (q := 18) (tgt := 29) d_Rf_kindTold_15 (by decide) rfl (by decide) ?_
        refine wp_iload_n (q := 19) d_Rf_kindTold_18 rfl rfl ?_
        refine wp_iconst (q := 20) d_Rf_kindTold_19 rfl ic_0 ?_
        refine wp_sipush (q := 23) d_Rf_kindTold_20 rfl sp_999 ?_
        refine wp_cs3 (q := 26) lk_Rf_151 (ro _ _ _) d_Rf_kindTold_23 rfl (Nat.le_of_ble_eq_true rfl) (Nat.zero_le _) (Nat.zero_le _) ?_
        refine ok_Rf_in0 (b := 999) (by decide) (fun v1 hv1 e => ?_) (fun hv1 => ?_)
        · subst e
          refine wp_if_ne_t (tgt := 32) d_Rf_kindTold_26 (by decide) (by decide) ?_
          refine wp_iload_n (q := 33) d_Rf_kindTold_32 rfl rfl ?_
          refine wp_if_ne_f (q := 36) (tgt := 44) d_Rf_kindTold_33 (by decide) rfl (by decide) ?_
          refine wp_iload_n (q := 37) d_Rf_kindTold_36 rfl rfl ?_
          refine wp_iload_n (q := 38) d_Rf_kindTold_37 rfl rfl ?_
          refine wp_cs2 (q := 41) lk_Rf_178 (ro _ _ _) d_Rf_kindTold_38 rfl (Nat.le_of_ble_eq_true rfl) (Nat.zero_le _) (Nat.zero_le _) ?_
          refine ok_Rf_needOf (show k1 < 6 by omega) ?_
          refine wp_goto (tgt := 75) d_Rf_kindTold_41 (by decide) ?_
          refine wp_iret d_Rf_kindTold_75 rfl (Nat.le_refl _) (Nat.le_refl _) ?_
          simp only [sp_kindTold, inn, inb, inm, btw, inn_t (show 0 ≤ 3 by decide), tnl (show 0 ≤ 3 by decide), (show ¬ nI 0 = nI 1 by decide), (show ¬ nI 0 = nI 2 by decide), (show ¬ nI 0 = nI 3 by decide), inn_t hk1, tnl hk1, inn_t hv1, tnl hv1, not_true_eq_false, not_false_eq_true, or_false, false_or, or_true, true_or, and_true, true_and, and_false, false_and, or_self, and_self, if_true, if_false, ite_true, ite_false, eq_self] at hK
          first | exact hK | (simp (disch := omega) only [tput_eq, tput2, tput_ne, upd_eq, upd_ne, ne_eq, va_upeq, va_upne, va_up2, not_true_eq_false, not_false_eq_true, or_false, false_or, or_true, true_or, and_true, true_and, and_false, false_and, or_self, and_self, if_true, if_false, ite_true, ite_false, eq_self] at hK ⊢; exact hK) | (simp (disch := omega) only [tput_eq, tput2, tput_ne, upd_eq, upd_ne, ne_eq, va_upeq, va_upne, va_up2, not_true_eq_false, not_false_eq_true, or_false, false_or, or_true, true_or, and_true, true_and, and_false, false_and, or_self, and_self, if_true, if_false, ite_true, ite_false, eq_self]; exact hK) | (simp (disch := omega) only [tput_eq, tput2, tput_ne, upd_eq, upd_ne, ne_eq, va_upeq, va_upne, va_up2, not_true_eq_false, not_false_eq_true, or_false, false_or, or_true, true_or, and_true, true_and, and_false, false_and, or_self, and_self, if_true, if_false, ite_true, ite_false, eq_self] at hK; exact hK)
        · refine wp_if_ne_f (q := 29) (tgt := 32) d_Rf_kindTold_26 (by decide) rfl (by decide) ?_
          refine wp_bipush (q := 31) d_Rf_kindTold_29 rfl bp_m2 ?_
          refine wp_iret d_Rf_kindTold_31 rfl (Nat.le_refl _) (Nat.le_refl _) ?_
          simp only [sp_kindTold, inn, inb, inm, btw, inn_t (show 0 ≤ 3 by decide), tnl (show 0 ≤ 3 by decide), (show ¬ nI 0 = nI 1 by decide), (show ¬ nI 0 = nI 2 by decide), (show ¬ nI 0 = nI 3 by decide), inn_t hk1, tnl hk1, hv1, not_true_eq_false, not_false_eq_true, or_false, false_or, or_true, true_or, and_true, true_and, and_false, false_and, or_self, and_self, if_true, if_false, ite_true, ite_false, eq_self] at hK
          first | exact hK | (simp (disch := omega) only [tput_eq, tput2, tput_ne, upd_eq, upd_ne, ne_eq, va_upeq, va_upne, va_up2, not_true_eq_false, not_false_eq_true, or_false, false_or, or_true, true_or, and_true, true_and, and_false, false_and, or_self, and_self, if_true, if_false, ite_true, ite_false, eq_self] at hK ⊢; exact hK) | (simp (disch := omega) only [tput_eq, tput2, tput_ne, upd_eq, upd_ne, ne_eq, va_upeq, va_upne, va_up2, not_true_eq_false, not_false_eq_true, or_false, false_or, or_true, true_or, and_true, true_and, and_false, false_and, or_self, and_self, if_true, if_false, ite_true, ite_false, eq_self]; exact hK) | (simp (disch := omega) only [tput_eq, tput2, tput_ne, upd_eq, upd_ne, ne_eq, va_upeq, va_upne, va_up2, not_true_eq_false, not_false_eq_true, or_false, false_or, or_true, true_or, and_true, true_and, and_false, false_and, or_self, and_self, if_true, if_false, ite_true, ite_false, eq_self] at hK; exact hK)
      · refine wp_if_eq_t (tgt := 29) d_Rf_kindTold_6 (by decide) (by decide) ?_
        refine wp_bipush (q := 31) d_Rf_kindTold_29 rfl bp_m2 ?_
        refine wp_iret d_Rf_kindTold_31 rfl (Nat.le_refl _) (Nat.le_refl _) ?_
        simp only [sp_kindTold, inn, inb, inm, btw, inn_t (show 0 ≤ 3 by decide), tnl (show 0 ≤ 3 by decide), (show ¬ nI 0 = nI 1 by decide), (show ¬ nI 0 = nI 2 by decide), (show ¬ nI 0 = nI 3 by decide), hk1, not_true_eq_false, not_false_eq_true, or_false, false_or, or_true, true_or, and_true, true_and, and_false, false_and, or_self, and_self, if_true, if_false, ite_true, ite_false, eq_self] at hK
        first | exact hK | (simp (disch := omega) only [tput_eq, tput2, tput_ne, upd_eq, upd_ne, ne_eq, va_upeq, va_upne, va_up2, not_true_eq_false, not_false_eq_true, or_false, false_or, or_true, true_or, and_true, true_and, and_false, false_and, or_self, and_self, if_true, if_false, ite_true, ite_false, eq_self] at hK ⊢; exact hK) | (simp (disch := omega) only [tput_eq, tput2, tput_ne, upd_eq, upd_ne, ne_eq, va_upeq, va_upne, va_up2, not_true_eq_false, not_false_eq_true, or_false, false_or, or_true, true_or, and_true, true_and, and_false, false_and, or_self, and_self, if_true, if_false, ite_true, ite_false, eq_self]; exact hK) | (simp (disch := omega) only [tput_eq, tput2, tput_ne, upd_eq, upd_ne, ne_eq, va_upeq, va_upne, va_up2, not_true_eq_false, not_false_eq_true, or_false, false_or, or_true, true_or, and_true, true_and, and_false, false_and, or_self, and_self, if_true, if_false, ite_true, ite_false, eq_self] at hK; exact hK)
    · skip
      refine wp_iload_n (q := 1) d_Rf_kindTold_0 rfl rfl ?_
      refine wp_iconst (q := 2) d_Rf_kindTold_1 rfl ic_0 ?_
      refine wp_iconst (q := 3) d_Rf_kindTold_2 rfl ic_5 ?_
      refine wp_cs3 (q := 6) lk_Rf_151 (ro _ _ _) d_Rf_kindTold_3 rfl (Nat.le_of_ble_eq_true rfl) (Nat.zero_le _) (Nat.zero_le _) ?_
      refine ok_Rf_in0 (b := 5) (by decide) (fun k1 hk1 e => ?_) (fun hk1 => ?_)
      · subst e
        refine wp_if_eq_f (q := 9) (tgt := 29) d_Rf_kindTold_6 (by decide) rfl (by decide) ?_
        refine wp_iload_n (q := 10) d_Rf_kindTold_9 rfl rfl ?_
        refine wp_iconst (q := 11) d_Rf_kindTold_10 rfl ic_0 ?_
        refine wp_iconst (q := 12) d_Rf_kindTold_11 rfl ic_3 ?_
        refine wp_cs3 (q := 15) lk_Rf_151 (ro _ _ _) d_Rf_kindTold_12 rfl (Nat.le_of_ble_eq_true rfl) (Nat.zero_le _) (Nat.zero_le _) ?_
        refine ok_Rf_in (fun _ _ => ?_) (fun hw1 => absurd (inn_t (show 1 ≤ 3 by decide)) hw1)
        refine wp_if_eq_f (q := 18) (tgt := 29) d_Rf_kindTold_15 (by decide) rfl (by decide) ?_
        refine wp_iload_n (q := 19) d_Rf_kindTold_18 rfl rfl ?_
        refine wp_iconst (q := 20) d_Rf_kindTold_19 rfl ic_0 ?_
        refine wp_sipush (q := 23) d_Rf_kindTold_20 rfl sp_999 ?_
        refine wp_cs3 (q := 26) lk_Rf_151 (ro _ _ _) d_Rf_kindTold_23 rfl (Nat.le_of_ble_eq_true rfl) (Nat.zero_le _) (Nat.zero_le _) ?_
        refine ok_Rf_in0 (b := 999) (by decide) (fun v1 hv1 e => ?_) (fun hv1 => ?_)
        · subst e
          refine wp_if_ne_t (tgt := 32) d_Rf_kindTold_26 (by decide) (by decide) ?_
          refine wp_iload_n (q := 33) d_Rf_kindTold_32 rfl rfl ?_
          refine wp_if_ne_t (tgt := 44) d_Rf_kindTold_33 (by decide) (by decide) ?_
          refine wp_iload_n (q := 45) d_Rf_kindTold_44 rfl rfl ?_
          refine wp_iconst (q := 46) d_Rf_kindTold_45 rfl ic_1 ?_
          refine wp_icmp_ne_f (q := 49) (tgt := 57) d_Rf_kindTold_46 (by decide) rfl (by decide) ?_
          refine wp_iload_n (q := 50) d_Rf_kindTold_49 rfl rfl ?_
          refine wp_iload_n (q := 51) d_Rf_kindTold_50 rfl rfl ?_
          refine wp_cs2 (q := 54) lk_Rf_182 (ro _ _ _) d_Rf_kindTold_51 rfl (Nat.le_of_ble_eq_true rfl) (Nat.zero_le _) (Nat.zero_le _) ?_
          refine ok_Rf_fareOf (show k1 < 6 by omega) ?_
          refine wp_goto (tgt := 75) d_Rf_kindTold_54 (by decide) ?_
          refine wp_iret d_Rf_kindTold_75 rfl (Nat.le_refl _) (Nat.le_refl _) ?_
          simp only [sp_kindTold, inn, inb, inm, btw, inn_t (show 1 ≤ 3 by decide), tnl (show 1 ≤ 3 by decide), (show ¬ nI 1 = nI 0 by decide), (show ¬ nI 1 = nI 2 by decide), (show ¬ nI 1 = nI 3 by decide), inn_t hk1, tnl hk1, inn_t hv1, tnl hv1, not_true_eq_false, not_false_eq_true, or_false, false_or, or_true, true_or, and_true, true_and, and_false, false_and, or_self, and_self, if_true, if_false, ite_true, ite_false, eq_self] at hK
          first | exact hK | (simp (disch := omega) only [tput_eq, tput2, tput_ne, upd_eq, upd_ne, ne_eq, va_upeq, va_upne, va_up2, not_true_eq_false, not_false_eq_true, or_false, false_or, or_true, true_or, and_true, true_and, and_false, false_and, or_self, and_self, if_true, if_false, ite_true, ite_false, eq_self] at hK ⊢; exact hK) | (simp (disch := omega) only [tput_eq, tput2, tput_ne, upd_eq, upd_ne, ne_eq, va_upeq, va_upne, va_up2, not_true_eq_false, not_false_eq_true, or_false, false_or, or_true, true_or, and_true, true_and, and_false, false_and, or_self, and_self, if_true, if_false, ite_true, ite_false, eq_self]; exact hK) | (simp (disch := omega) only [tput_eq, tput2, tput_ne, upd_eq, upd_ne, ne_eq, va_upeq, va_upne, va_up2, not_true_eq_false, not_false_eq_true, or_false, false_or, or_true, true_or, and_true, true_and, and_false, false_and, or_self, and_self, if_true, if_false, ite_true, ite_false, eq_self] at hK; exact hK)
        · refine wp_if_ne_f (q := 29) (tgt := 32) d_Rf_kindTold_26 (by decide) rfl (by decide) ?_
          refine wp_bipush (q := 31) d_Rf_kindTold_29 rfl bp_m2 ?_
          refine wp_iret d_Rf_kindTold_31 rfl (Nat.le_refl _) (Nat.le_refl _) ?_
          simp only [sp_kindTold, inn, inb, inm, btw, inn_t (show 1 ≤ 3 by decide), tnl (show 1 ≤ 3 by decide), (show ¬ nI 1 = nI 0 by decide), (show ¬ nI 1 = nI 2 by decide), (show ¬ nI 1 = nI 3 by decide), inn_t hk1, tnl hk1, hv1, not_true_eq_false, not_false_eq_true, or_false, false_or, or_true, true_or, and_true, true_and, and_false, false_and, or_self, and_self, if_true, if_false, ite_true, ite_false, eq_self] at hK
          first | exact hK | (simp (disch := omega) only [tput_eq, tput2, tput_ne, upd_eq, upd_ne, ne_eq, va_upeq, va_upne, va_up2, not_true_eq_false, not_false_eq_true, or_false, false_or, or_true, true_or, and_true, true_and, and_false, false_and, or_self, and_self, if_true, if_false, ite_true, ite_false, eq_self] at hK ⊢; exact hK) | (simp (disch := omega) only [tput_eq, tput2, tput_ne, upd_eq, upd_ne, ne_eq, va_upeq, va_upne, va_up2, not_true_eq_false, not_false_eq_true, or_false, false_or, or_true, true_or, and_true, true_and, and_false, false_and, or_self, and_self, if_true, if_false, ite_true, ite_false, eq_self]; exact hK) | (simp (disch := omega) only [tput_eq, tput2, tput_ne, upd_eq, upd_ne, ne_eq, va_upeq, va_upne, va_up2, not_true_eq_false, not_false_eq_true, or_false, false_or, or_true, true_or, and_true, true_and, and_false, false_and, or_self, and_self, if_true, if_false, ite_true, ite_false, eq_self] at hK; exact hK)
      · refine wp_if_eq_t (tgt := 29) d_Rf_kindTold_6 (by decide) (by decide) ?_
        refine wp_bipush (q := 31) d_Rf_kindTold_29 rfl bp_m2 ?_
        refine wp_iret d_Rf_kindTold_31 rfl (Nat.le_refl _) (Nat.le_refl _) ?_
        simp only [sp_kindTold, inn, inb, inm, btw, inn_t (show 1 ≤ 3 by decide), tnl (show 1 ≤ 3 by decide), (show ¬ nI 1 = nI 0 by decide), (show ¬ nI 1 = nI 2 by decide), (show ¬ nI 1 = nI 3 by decide), hk1, not_true_eq_false, not_false_eq_true, or_false, false_or, or_true, true_or, and_true, true_and, and_false, false_and, or_self, and_self, if_true, if_false, ite_true, ite_false, eq_self] at hK
        first | exact hK | (simp (disch := omega) only [tput_eq, tput2, tput_ne, upd_eq, upd_ne, ne_eq, va_upeq, va_upne, va_up2, not_true_eq_false, not_false_eq_true, or_false, false_or, or_true, true_or, and_true, true_and, and_false, false_and, or_self, and_self, if_true, if_false, ite_true, ite_false, eq_self] at hK ⊢; exact hK) | (simp (disch := omega) only [tput_eq, tput2, tput_ne, upd_eq, upd_ne, ne_eq, va_upeq, va_upne, va_up2, not_true_eq_false, not_false_eq_true, or_false, false_or, or_true, true_or, and_true, true_and, and_false, false_and, or_self, and_self, if_true, if_false, ite_true, ite_false, eq_self]; exact hK) | (simp (disch := omega) only [tput_eq, tput2, tput_ne, upd_eq, upd_ne, ne_eq, va_upeq, va_upne, va_up2, not_true_eq_false, not_false_eq_true, or_false, false_or, or_true, true_or, and_true, true_and, and_false, false_and, or_self, and_self, if_true, if_false, ite_true, ite_false, eq_self] at hK; exact hK)
    · skip
      refine wp_iload_n (q := 1) d_Rf_kindTold_0 rfl rfl ?_
      refine wp_iconst (q := 2) d_Rf_kindTold_1 rfl ic_0 ?_
      refine wp_iconst (q := 3) d_Rf_kindTold_2 rfl ic_5 ?_
      refine wp_cs3 (q := 6) lk_Rf_151 (ro _ _ _) d_Rf_kindTold_3 rfl (Nat.le_of_ble_eq_true rfl) (Nat.zero_le _) (Nat.zero_le _) ?_
      refine ok_Rf_in0 (b := 5) (by decide) (fun k1 hk1 e => ?_) (fun hk1 => ?_)
      · subst e
        refine wp_if_eq_f (q := 9) (tgt := 29) d_Rf_kindTold_6 (by decide) rfl (by decide) ?_
        refine wp_iload_n (q := 10) d_Rf_kindTold_9 rfl rfl ?_
        refine wp_iconst (q := 11) d_Rf_kindTold_10 rfl ic_0 ?_
        refine wp_iconst (q := 12) d_Rf_kindTold_11 rfl ic_3 ?_
        refine wp_cs3 (q := 15) lk_Rf_151 (ro _ _ _) d_Rf_kindTold_12 rfl (Nat.le_of_ble_eq_true rfl) (Nat.zero_le _) (Nat.zero_le _) ?_
        refine ok_Rf_in (fun _ _ => ?_) (fun hw1 => absurd (inn_t (show 2 ≤ 3 by decide)) hw1)
        refine wp_if_eq_f (q := 18) (tgt := 29) d_Rf_kindTold_15 (by decide) rfl (by decide) ?_
        refine wp_iload_n (q := 19) d_Rf_kindTold_18 rfl rfl ?_
        refine wp_iconst (q := 20) d_Rf_kindTold_19 rfl ic_0 ?_
        refine wp_sipush (q := 23) d_Rf_kindTold_20 rfl sp_999 ?_
        refine wp_cs3 (q := 26) lk_Rf_151 (ro _ _ _) d_Rf_kindTold_23 rfl (Nat.le_of_ble_eq_true rfl) (Nat.zero_le _) (Nat.zero_le _) ?_
        refine ok_Rf_in0 (b := 999) (by decide) (fun v1 hv1 e => ?_) (fun hv1 => ?_)
        · subst e
          refine wp_if_ne_t (tgt := 32) d_Rf_kindTold_26 (by decide) (by decide) ?_
          refine wp_iload_n (q := 33) d_Rf_kindTold_32 rfl rfl ?_
          refine wp_if_ne_t (tgt := 44) d_Rf_kindTold_33 (by decide) (by decide) ?_
          refine wp_iload_n (q := 45) d_Rf_kindTold_44 rfl rfl ?_
          refine wp_iconst (q := 46) d_Rf_kindTold_45 rfl ic_1 ?_
          refine wp_icmp_ne_t (tgt := 57) d_Rf_kindTold_46 (by decide) (by decide) ?_
          refine wp_iload_n (q := 58) d_Rf_kindTold_57 rfl rfl ?_
          refine wp_iconst (q := 59) d_Rf_kindTold_58 rfl ic_2 ?_
          refine wp_icmp_ne_f (q := 62) (tgt := 70) d_Rf_kindTold_59 (by decide) rfl (by decide) ?_
          refine wp_iload_n (q := 63) d_Rf_kindTold_62 rfl rfl ?_
          refine wp_iload_n (q := 64) d_Rf_kindTold_63 rfl rfl ?_
          refine wp_cs2 (q := 67) lk_Rf_185 (ro _ _ _) d_Rf_kindTold_64 rfl (Nat.le_of_ble_eq_true rfl) (Nat.zero_le _) (Nat.zero_le _) ?_
          refine ok_Rf_minutesOf (show k1 < 6 by omega) ?_
          refine wp_goto (tgt := 75) d_Rf_kindTold_67 (by decide) ?_
          refine wp_iret d_Rf_kindTold_75 rfl (Nat.le_refl _) (Nat.le_refl _) ?_
          simp only [sp_kindTold, inn, inb, inm, btw, inn_t (show 2 ≤ 3 by decide), tnl (show 2 ≤ 3 by decide), (show ¬ nI 2 = nI 0 by decide), (show ¬ nI 2 = nI 1 by decide), (show ¬ nI 2 = nI 3 by decide), inn_t hk1, tnl hk1, inn_t hv1, tnl hv1, not_true_eq_false, not_false_eq_true, or_false, false_or, or_true, true_or, and_true, true_and, and_false, false_and, or_self, and_self, if_true, if_false, ite_true, ite_false, eq_self] at hK
          first | exact hK | (simp (disch := omega) only [tput_eq, tput2, tput_ne, upd_eq, upd_ne, ne_eq, va_upeq, va_upne, va_up2, not_true_eq_false, not_false_eq_true, or_false, false_or, or_true, true_or, and_true, true_and, and_false, false_and, or_self, and_self, if_true, if_false, ite_true, ite_false, eq_self] at hK ⊢; exact hK) | (simp (disch := omega) only [tput_eq, tput2, tput_ne, upd_eq, upd_ne, ne_eq, va_upeq, va_upne, va_up2, not_true_eq_false, not_false_eq_true, or_false, false_or, or_true, true_or, and_true, true_and, and_false, false_and, or_self, and_self, if_true, if_false, ite_true, ite_false, eq_self]; exact hK) | (simp (disch := omega) only [tput_eq, tput2, tput_ne, upd_eq, upd_ne, ne_eq, va_upeq, va_upne, va_up2, not_true_eq_false, not_false_eq_true, or_false, false_or, or_true, true_or, and_true, true_and, and_false, false_and, or_self, and_self, if_true, if_false, ite_true, ite_false, eq_self] at hK; exact hK)
        · refine wp_if_ne_f (q := 29) (tgt := 32) d_Rf_kindTold_26 (by decide) rfl (by decide) ?_
          refine wp_bipush (q := 31) d_Rf_kindTold_29 rfl bp_m2 ?_
          refine wp_iret d_Rf_kindTold_31 rfl (Nat.le_refl _) (Nat.le_refl _) ?_
          simp only [sp_kindTold, inn, inb, inm, btw, inn_t (show 2 ≤ 3 by decide), tnl (show 2 ≤ 3 by decide), (show ¬ nI 2 = nI 0 by decide), (show ¬ nI 2 = nI 1 by decide), (show ¬ nI 2 = nI 3 by decide), inn_t hk1, tnl hk1, hv1, not_true_eq_false, not_false_eq_true, or_false, false_or, or_true, true_or, and_true, true_and, and_false, false_and, or_self, and_self, if_true, if_false, ite_true, ite_false, eq_self] at hK
          first | exact hK | (simp (disch := omega) only [tput_eq, tput2, tput_ne, upd_eq, upd_ne, ne_eq, va_upeq, va_upne, va_up2, not_true_eq_false, not_false_eq_true, or_false, false_or, or_true, true_or, and_true, true_and, and_false, false_and, or_self, and_self, if_true, if_false, ite_true, ite_false, eq_self] at hK ⊢; exact hK) | (simp (disch := omega) only [tput_eq, tput2, tput_ne, upd_eq, upd_ne, ne_eq, va_upeq, va_upne, va_up2, not_true_eq_false, not_false_eq_true, or_false, false_or, or_true, true_or, and_true, true_and, and_false, false_and, or_self, and_self, if_true, if_false, ite_true, ite_false, eq_self]; exact hK) | (simp (disch := omega) only [tput_eq, tput2, tput_ne, upd_eq, upd_ne, ne_eq, va_upeq, va_upne, va_up2, not_true_eq_false, not_false_eq_true, or_false, false_or, or_true, true_or, and_true, true_and, and_false, false_and, or_self, and_self, if_true, if_false, ite_true, ite_false, eq_self] at hK; exact hK)
      · refine wp_if_eq_t (tgt := 29) d_Rf_kindTold_6 (by decide) (by decide) ?_
        refine wp_bipush (q := 31) d_Rf_kindTold_29 rfl bp_m2 ?_
        refine wp_iret d_Rf_kindTold_31 rfl (Nat.le_refl _) (Nat.le_refl _) ?_
        simp only [sp_kindTold, inn, inb, inm, btw, inn_t (show 2 ≤ 3 by decide), tnl (show 2 ≤ 3 by decide), (show ¬ nI 2 = nI 0 by decide), (show ¬ nI 2 = nI 1 by decide), (show ¬ nI 2 = nI 3 by decide), hk1, not_true_eq_false, not_false_eq_true, or_false, false_or, or_true, true_or, and_true, true_and, and_false, false_and, or_self, and_self, if_true, if_false, ite_true, ite_false, eq_self] at hK
        first | exact hK | (simp (disch := omega) only [tput_eq, tput2, tput_ne, upd_eq, upd_ne, ne_eq, va_upeq, va_upne, va_up2, not_true_eq_false, not_false_eq_true, or_false, false_or, or_true, true_or, and_true, true_and, and_false, false_and, or_self, and_self, if_true, if_false, ite_true, ite_false, eq_self] at hK ⊢; exact hK) | (simp (disch := omega) only [tput_eq, tput2, tput_ne, upd_eq, upd_ne, ne_eq, va_upeq, va_upne, va_up2, not_true_eq_false, not_false_eq_true, or_false, false_or, or_true, true_or, and_true, true_and, and_false, false_and, or_self, and_self, if_true, if_false, ite_true, ite_false, eq_self]; exact hK) | (simp (disch := omega) only [tput_eq, tput2, tput_ne, upd_eq, upd_ne, ne_eq, va_upeq, va_upne, va_up2, not_true_eq_false, not_false_eq_true, or_false, false_or, or_true, true_or, and_true, true_and, and_false, false_and, or_self, and_self, if_true, if_false, ite_true, ite_false, eq_self] at hK; exact hK)
    · skip
      refine wp_iload_n (q := 1) d_Rf_kindTold_0 rfl rfl ?_
      refine wp_iconst (q := 2) d_Rf_kindTold_1 rfl ic_0 ?_
      refine wp_iconst (q := 3) d_Rf_kindTold_2 rfl ic_5 ?_
      refine wp_cs3 (q := 6) lk_Rf_151 (ro _ _ _) d_Rf_kindTold_3 rfl (Nat.le_of_ble_eq_true rfl) (Nat.zero_le _) (Nat.zero_le _) ?_
      refine ok_Rf_in0 (b := 5) (by decide) (fun k1 hk1 e => ?_) (fun hk1 => ?_)
      · subst e
        refine wp_if_eq_f (q := 9) (tgt := 29) d_Rf_kindTold_6 (by decide) rfl (by decide) ?_
        refine wp_iload_n (q := 10) d_Rf_kindTold_9 rfl rfl ?_
        refine wp_iconst (q := 11) d_Rf_kindTold_10 rfl ic_0 ?_
        refine wp_iconst (q := 12) d_Rf_kindTold_11 rfl ic_3 ?_
        refine wp_cs3 (q := 15) lk_Rf_151 (ro _ _ _) d_Rf_kindTold_12 rfl (Nat.le_of_ble_eq_true rfl) (Nat.zero_le _) (Nat.zero_le _) ?_
        refine ok_Rf_in (fun _ _ => ?_) (fun hw1 => absurd (inn_t (show 3 ≤ 3 by decide)) hw1)
        refine wp_if_eq_f (q := 18) (tgt := 29) d_Rf_kindTold_15 (by decide) rfl (by decide) ?_
        refine wp_iload_n (q := 19) d_Rf_kindTold_18 rfl rfl ?_
        refine wp_iconst (q := 20) d_Rf_kindTold_19 rfl ic_0 ?_
        refine wp_sipush (q := 23) d_Rf_kindTold_20 rfl sp_999 ?_
        refine wp_cs3 (q := 26) lk_Rf_151 (ro _ _ _) d_Rf_kindTold_23 rfl (Nat.le_of_ble_eq_true rfl) (Nat.zero_le _) (Nat.zero_le _) ?_
        refine ok_Rf_in0 (b := 999) (by decide) (fun v1 hv1 e => ?_) (fun hv1 => ?_)
        · subst e
          refine wp_if_ne_t (tgt := 32) d_Rf_kindTold_26 (by decide) (by decide) ?_
          refine wp_iload_n (q := 33) d_Rf_kindTold_32 rfl rfl ?_
          refine wp_if_ne_t (tgt := 44) d_Rf_kindTold_33 (by decide) (by decide) ?_
          refine wp_iload_n (q := 45) d_Rf_kindTold_44 rfl rfl ?_
          refine wp_iconst (q := 46) d_Rf_kindTold_45 rfl ic_1 ?_
          refine wp_icmp_ne_t (tgt := 57) d_Rf_kindTold_46 (by decide) (by decide) ?_
          refine wp_iload_n (q := 58) d_Rf_kindTold_57 rfl rfl ?_
          refine wp_iconst (q := 59) d_Rf_kindTold_58 rfl ic_2 ?_
          refine wp_icmp_ne_t (tgt := 70) d_Rf_kindTold_59 (by decide) (by decide) ?_
          refine wp_iload_n (q := 71) d_Rf_kindTold_70 rfl rfl ?_
          refine wp_iload_n (q := 72) d_Rf_kindTold_71 rfl rfl ?_
          refine wp_cs2 (q := 75) lk_Rf_188 (ro _ _ _) d_Rf_kindTold_72 rfl (Nat.le_of_ble_eq_true rfl) (Nat.zero_le _) (Nat.zero_le _) ?_
          refine ok_Rf_fuelOf (show k1 < 6 by omega) ?_
          refine wp_iret d_Rf_kindTold_75 rfl (Nat.le_refl _) (Nat.le_refl _) ?_
          simp only [sp_kindTold, inn, inb, inm, btw, inn_t (show 3 ≤ 3 by decide), tnl (show 3 ≤ 3 by decide), (show ¬ nI 3 = nI 0 by decide), (show ¬ nI 3 = nI 1 by decide), (show ¬ nI 3 = nI 2 by decide), inn_t hk1, tnl hk1, inn_t hv1, tnl hv1, not_true_eq_false, not_false_eq_true, or_false, false_or, or_true, true_or, and_true, true_and, and_false, false_and, or_self, and_self, if_true, if_false, ite_true, ite_false, eq_self] at hK
          first | exact hK | (simp (disch := omega) only [tput_eq, tput2, tput_ne, upd_eq, upd_ne, ne_eq, va_upeq, va_upne, va_up2, not_true_eq_false, not_false_eq_true, or_false, false_or, or_true, true_or, and_true, true_and, and_false, false_and, or_self, and_self, if_true, if_false, ite_true, ite_false, eq_self] at hK ⊢; exact hK) | (simp (disch := omega) only [tput_eq, tput2, tput_ne, upd_eq, upd_ne, ne_eq, va_upeq, va_upne, va_up2, not_true_eq_false, not_false_eq_true, or_false, false_or, or_true, true_or, and_true, true_and, and_false, false_and, or_self, and_self, if_true, if_false, ite_true, ite_false, eq_self]; exact hK) | (simp (disch := omega) only [tput_eq, tput2, tput_ne, upd_eq, upd_ne, ne_eq, va_upeq, va_upne, va_up2, not_true_eq_false, not_false_eq_true, or_false, false_or, or_true, true_or, and_true, true_and, and_false, false_and, or_self, and_self, if_true, if_false, ite_true, ite_false, eq_self] at hK; exact hK)
        · refine wp_if_ne_f (q := 29) (tgt := 32) d_Rf_kindTold_26 (by decide) rfl (by decide) ?_
          refine wp_bipush (q := 31) d_Rf_kindTold_29 rfl bp_m2 ?_
          refine wp_iret d_Rf_kindTold_31 rfl (Nat.le_refl _) (Nat.le_refl _) ?_
          simp only [sp_kindTold, inn, inb, inm, btw, inn_t (show 3 ≤ 3 by decide), tnl (show 3 ≤ 3 by decide), (show ¬ nI 3 = nI 0 by decide), (show ¬ nI 3 = nI 1 by decide), (show ¬ nI 3 = nI 2 by decide), inn_t hk1, tnl hk1, hv1, not_true_eq_false, not_false_eq_true, or_false, false_or, or_true, true_or, and_true, true_and, and_false, false_and, or_self, and_self, if_true, if_false, ite_true, ite_false, eq_self] at hK
          first | exact hK | (simp (disch := omega) only [tput_eq, tput2, tput_ne, upd_eq, upd_ne, ne_eq, va_upeq, va_upne, va_up2, not_true_eq_false, not_false_eq_true, or_false, false_or, or_true, true_or, and_true, true_and, and_false, false_and, or_self, and_self, if_true, if_false, ite_true, ite_false, eq_self] at hK ⊢; exact hK) | (simp (disch := omega) only [tput_eq, tput2, tput_ne, upd_eq, upd_ne, ne_eq, va_upeq, va_upne, va_up2, not_true_eq_false, not_false_eq_true, or_false, false_or, or_true, true_or, and_true, true_and, and_false, false_and, or_self, and_self, if_true, if_false, ite_true, ite_false, eq_self]; exact hK) | (simp (disch := omega) only [tput_eq, tput2, tput_ne, upd_eq, upd_ne, ne_eq, va_upeq, va_upne, va_up2, not_true_eq_false, not_false_eq_true, or_false, false_or, or_true, true_or, and_true, true_and, and_false, false_and, or_self, and_self, if_true, if_false, ite_true, ite_false, eq_self] at hK; exact hK)
      · refine wp_if_eq_t (tgt := 29) d_Rf_kindTold_6 (by decide) (by decide) ?_
        refine wp_bipush (q := 31) d_Rf_kindTold_29 rfl bp_m2 ?_
        refine wp_iret d_Rf_kindTold_31 rfl (Nat.le_refl _) (Nat.le_refl _) ?_
        simp only [sp_kindTold, inn, inb, inm, btw, inn_t (show 3 ≤ 3 by decide), tnl (show 3 ≤ 3 by decide), (show ¬ nI 3 = nI 0 by decide), (show ¬ nI 3 = nI 1 by decide), (show ¬ nI 3 = nI 2 by decide), hk1, not_true_eq_false, not_false_eq_true, or_false, false_or, or_true, true_or, and_true, true_and, and_false, false_and, or_self, and_self, if_true, if_false, ite_true, ite_false, eq_self] at hK
        first | exact hK | (simp (disch := omega) only [tput_eq, tput2, tput_ne, upd_eq, upd_ne, ne_eq, va_upeq, va_upne, va_up2, not_true_eq_false, not_false_eq_true, or_false, false_or, or_true, true_or, and_true, true_and, and_false, false_and, or_self, and_self, if_true, if_false, ite_true, ite_false, eq_self] at hK ⊢; exact hK) | (simp (disch := omega) only [tput_eq, tput2, tput_ne, upd_eq, upd_ne, ne_eq, va_upeq, va_upne, va_up2, not_true_eq_false, not_false_eq_true, or_false, false_or, or_true, true_or, and_true, true_and, and_false, false_and, or_self, and_self, if_true, if_false, ite_true, ite_false, eq_self]; exact hK) | (simp (disch := omega) only [tput_eq, tput2, tput_ne, upd_eq, upd_ne, ne_eq, va_upeq, va_upne, va_up2, not_true_eq_false, not_false_eq_true, or_false, false_or, or_true, true_or, and_true, true_and, and_false, false_and, or_self, and_self, if_true, if_false, ite_true, ite_false, eq_self] at hK; exact hK)
  · skip
    refine wp_iload_n (q := 1) d_Rf_kindTold_0 rfl rfl ?_
    refine wp_iconst (q := 2) d_Rf_kindTold_1 rfl ic_0 ?_
    refine wp_iconst (q := 3) d_Rf_kindTold_2 rfl ic_5 ?_
    refine wp_cs3 (q := 6) lk_Rf_151 (ro _ _ _) d_Rf_kindTold_3 rfl (Nat.le_of_ble_eq_true rfl) (Nat.zero_le _) (Nat.zero_le _) ?_
    refine ok_Rf_in0 (b := 5) (by decide) (fun k1 hk1 e => ?_) (fun hk1 => ?_)
    · subst e
      refine wp_if_eq_f (q := 9) (tgt := 29) d_Rf_kindTold_6 (by decide) rfl (by decide) ?_
      refine wp_iload_n (q := 10) d_Rf_kindTold_9 rfl rfl ?_
      refine wp_iconst (q := 11) d_Rf_kindTold_10 rfl ic_0 ?_
      refine wp_iconst (q := 12) d_Rf_kindTold_11 rfl ic_3 ?_
      refine wp_cs3 (q := 15) lk_Rf_151 (ro _ _ _) d_Rf_kindTold_12 rfl (Nat.le_of_ble_eq_true rfl) (Nat.zero_le _) (Nat.zero_le _) ?_
      refine ok_Rf_in (fun ha hb => absurd ⟨ha, hb⟩ hn_sw) (fun hw1 => ?_)
      refine wp_if_eq_t (tgt := 29) d_Rf_kindTold_15 (by decide) (by decide) ?_
      refine wp_bipush (q := 31) d_Rf_kindTold_29 rfl bp_m2 ?_
      refine wp_iret d_Rf_kindTold_31 rfl (Nat.le_refl _) (Nat.le_refl _) ?_
      simp only [sp_kindTold, inn, inb, inm, btw, hn_sw, inn_t hk1, tnl hk1, ite_self, not_true_eq_false, not_false_eq_true, or_false, false_or, or_true, true_or, and_true, true_and, and_false, false_and, or_self, and_self, if_true, if_false, ite_true, ite_false, eq_self] at hK
      first | exact hK | (simp (disch := omega) only [tput_eq, tput2, tput_ne, upd_eq, upd_ne, ne_eq, va_upeq, va_upne, va_up2, not_true_eq_false, not_false_eq_true, or_false, false_or, or_true, true_or, and_true, true_and, and_false, false_and, or_self, and_self, if_true, if_false, ite_true, ite_false, eq_self] at hK ⊢; exact hK) | (simp (disch := omega) only [tput_eq, tput2, tput_ne, upd_eq, upd_ne, ne_eq, va_upeq, va_upne, va_up2, not_true_eq_false, not_false_eq_true, or_false, false_or, or_true, true_or, and_true, true_and, and_false, false_and, or_self, and_self, if_true, if_false, ite_true, ite_false, eq_self]; exact hK) | (simp (disch := omega) only [tput_eq, tput2, tput_ne, upd_eq, upd_ne, ne_eq, va_upeq, va_upne, va_up2, not_true_eq_false, not_false_eq_true, or_false, false_or, or_true, true_or, and_true, true_and, and_false, false_and, or_self, and_self, if_true, if_false, ite_true, ite_false, eq_self] at hK; exact hK)
    · refine wp_if_eq_t (tgt := 29) d_Rf_kindTold_6 (by decide) (by decide) ?_
      refine wp_bipush (q := 31) d_Rf_kindTold_29 rfl bp_m2 ?_
      refine wp_iret d_Rf_kindTold_31 rfl (Nat.le_refl _) (Nat.le_refl _) ?_
      simp only [sp_kindTold, inn, inb, inm, btw, hn_sw, hk1, not_true_eq_false, not_false_eq_true, or_false, false_or, or_true, true_or, and_true, true_and, and_false, false_and, or_self, and_self, if_true, if_false, ite_true, ite_false, eq_self] at hK
      first | exact hK | (simp (disch := omega) only [tput_eq, tput2, tput_ne, upd_eq, upd_ne, ne_eq, va_upeq, va_upne, va_up2, not_true_eq_false, not_false_eq_true, or_false, false_or, or_true, true_or, and_true, true_and, and_false, false_and, or_self, and_self, if_true, if_false, ite_true, ite_false, eq_self] at hK ⊢; exact hK) | (simp (disch := omega) only [tput_eq, tput2, tput_ne, upd_eq, upd_ne, ne_eq, va_upeq, va_upne, va_up2, not_true_eq_false, not_false_eq_true, or_false, false_or, or_true, true_or, and_true, true_and, and_false, false_and, or_self, and_self, if_true, if_false, ite_true, ite_false, eq_self]; exact hK) | (simp (disch := omega) only [tput_eq, tput2, tput_ne, upd_eq, upd_ne, ne_eq, va_upeq, va_upne, va_up2, not_true_eq_false, not_false_eq_true, or_false, false_or, or_true, true_or, and_true, true_and, and_false, false_and, or_self, and_self, if_true, if_false, ite_true, ite_false, eq_self] at hK; exact hK)
