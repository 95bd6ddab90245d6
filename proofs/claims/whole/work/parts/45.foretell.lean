def ftR (c : T2) (P : Nat → Int32) (nb m b : Nat) : Nat → Nat → Int32
  | 0, _ => -6
  | f + 1, k => if ¬ pN c P nb m k (72 + b) = nI 2 then nI k else ftR c P nb m b f (k + 1)
def sp_foretell (c : T2) (P : Nat → Int32) (nb m : Nat) (s n : Int32) : Int32 := if ¬ inn s 5 then -1 else if ¬ btw (nI 1) n (nI 240) then -2 else match lf P (tn s) nb with
  | none => -3
  | some b => ftR c P nb m b (tn n) 1
theorem d_FG_foretell_0 : decode M_FG_foretell.2.1 0 = .ok (.iload_n 1, 1) := by decide +kernel
theorem d_FG_foretell_1 : decode M_FG_foretell.2.1 1 = .ok (.invokestatic 57, 3) := by decide +kernel
theorem d_FG_foretell_4 : decode M_FG_foretell.2.1 4 = .ok (.ifCond .ne 5, 3) := by decide +kernel
theorem d_FG_foretell_7 : decode M_FG_foretell.2.1 7 = .ok (.iconst (-1), 1) := by decide +kernel
theorem d_FG_foretell_8 : decode M_FG_foretell.2.1 8 = .ok (.ireturn, 1) := by decide +kernel
theorem d_FG_foretell_9 : decode M_FG_foretell.2.1 9 = .ok (.iload_n 2, 1) := by decide +kernel
theorem d_FG_foretell_10 : decode M_FG_foretell.2.1 10 = .ok (.iconst 1, 1) := by decide +kernel
theorem d_FG_foretell_11 : decode M_FG_foretell.2.1 11 = .ok (.sipush 240, 3) := by decide +kernel
theorem d_FG_foretell_14 : decode M_FG_foretell.2.1 14 = .ok (.invokestatic 61, 3) := by decide +kernel
theorem d_FG_foretell_17 : decode M_FG_foretell.2.1 17 = .ok (.ifCond .ne 6, 3) := by decide +kernel
theorem d_FG_foretell_20 : decode M_FG_foretell.2.1 20 = .ok (.bipush (-2), 2) := by decide +kernel
theorem d_FG_foretell_22 : decode M_FG_foretell.2.1 22 = .ok (.ireturn, 1) := by decide +kernel
theorem d_FG_foretell_23 : decode M_FG_foretell.2.1 23 = .ok (.aload_n 0, 1) := by decide +kernel
theorem d_FG_foretell_24 : decode M_FG_foretell.2.1 24 = .ok (.getfield 19, 3) := by decide +kernel
theorem d_FG_foretell_27 : decode M_FG_foretell.2.1 27 = .ok (.iload_n 1, 1) := by decide +kernel
theorem d_FG_foretell_28 : decode M_FG_foretell.2.1 28 = .ok (.invokevirtual 199, 3) := by decide +kernel
theorem d_FG_foretell_31 : decode M_FG_foretell.2.1 31 = .ok (.istore_n 3, 1) := by decide +kernel
theorem d_FG_foretell_32 : decode M_FG_foretell.2.1 32 = .ok (.iload_n 3, 1) := by decide +kernel
theorem d_FG_foretell_33 : decode M_FG_foretell.2.1 33 = .ok (.ifCond .ge 6, 3) := by decide +kernel
theorem d_FG_foretell_36 : decode M_FG_foretell.2.1 36 = .ok (.bipush (-3), 2) := by decide +kernel
theorem d_FG_foretell_38 : decode M_FG_foretell.2.1 38 = .ok (.ireturn, 1) := by decide +kernel
theorem d_FG_foretell_39 : decode M_FG_foretell.2.1 39 = .ok (.aload_n 0, 1) := by decide +kernel
theorem d_FG_foretell_40 : decode M_FG_foretell.2.1 40 = .ok (.getfield 23, 3) := by decide +kernel
theorem d_FG_foretell_43 : decode M_FG_foretell.2.1 43 = .ok (.aload_n 0, 1) := by decide +kernel
theorem d_FG_foretell_44 : decode M_FG_foretell.2.1 44 = .ok (.getfield 19, 3) := by decide +kernel
theorem d_FG_foretell_47 : decode M_FG_foretell.2.1 47 = .ok (.invokevirtual 250, 3) := by decide +kernel
theorem d_FG_foretell_50 : decode M_FG_foretell.2.1 50 = .ok (.iconst 1, 1) := by decide +kernel
theorem d_FG_foretell_51 : decode M_FG_foretell.2.1 51 = .ok (.istore 4, 2) := by decide +kernel
theorem d_FG_foretell_53 : decode M_FG_foretell.2.1 53 = .ok (.iload 4, 2) := by decide +kernel
theorem d_FG_foretell_55 : decode M_FG_foretell.2.1 55 = .ok (.iload_n 2, 1) := by decide +kernel
theorem d_FG_foretell_56 : decode M_FG_foretell.2.1 56 = .ok (.if_icmp .gt 39, 3) := by decide +kernel
theorem d_FG_foretell_59 : decode M_FG_foretell.2.1 59 = .ok (.aload_n 0, 1) := by decide +kernel
theorem d_FG_foretell_60 : decode M_FG_foretell.2.1 60 = .ok (.getfield 10, 3) := by decide +kernel
theorem d_FG_foretell_63 : decode M_FG_foretell.2.1 63 = .ok (.aload_n 0, 1) := by decide +kernel
theorem d_FG_foretell_64 : decode M_FG_foretell.2.1 64 = .ok (.getfield 23, 3) := by decide +kernel
theorem d_FG_foretell_67 : decode M_FG_foretell.2.1 67 = .ok (.invokevirtual 168, 3) := by decide +kernel
theorem d_FG_foretell_70 : decode M_FG_foretell.2.1 70 = .ok (.aload_n 0, 1) := by decide +kernel
theorem d_FG_foretell_71 : decode M_FG_foretell.2.1 71 = .ok (.getfield 23, 3) := by decide +kernel
theorem d_FG_foretell_74 : decode M_FG_foretell.2.1 74 = .ok (.getfield 85, 3) := by decide +kernel
theorem d_FG_foretell_77 : decode M_FG_foretell.2.1 77 = .ok (.iload_n 3, 1) := by decide +kernel
theorem d_FG_foretell_78 : decode M_FG_foretell.2.1 78 = .ok (.aaload, 1) := by decide +kernel
theorem d_FG_foretell_79 : decode M_FG_foretell.2.1 79 = .ok (.getfield 89, 3) := by decide +kernel
theorem d_FG_foretell_82 : decode M_FG_foretell.2.1 82 = .ok (.iconst 2, 1) := by decide +kernel
theorem d_FG_foretell_83 : decode M_FG_foretell.2.1 83 = .ok (.if_icmp .eq 6, 3) := by decide +kernel
theorem d_FG_foretell_86 : decode M_FG_foretell.2.1 86 = .ok (.iload 4, 2) := by decide +kernel
theorem d_FG_foretell_88 : decode M_FG_foretell.2.1 88 = .ok (.ireturn, 1) := by decide +kernel
theorem d_FG_foretell_89 : decode M_FG_foretell.2.1 89 = .ok (.iinc 4 1, 3) := by decide +kernel
theorem d_FG_foretell_92 : decode M_FG_foretell.2.1 92 = .ok (.goto (-39), 3) := by decide +kernel
theorem d_FG_foretell_95 : decode M_FG_foretell.2.1 95 = .ok (.bipush (-6), 2) := by decide +kernel
theorem d_FG_foretell_97 : decode M_FG_foretell.2.1 97 = .ok (.ireturn, 1) := by decide +kernel
set_option maxHeartbeats 4000000 in
set_option maxRecDepth 100000 in
theorem ft_FG_foretell {D : xD} {N : Nat} {l : Launch} {d : Nat} {c V : T2} {P : Nat → Int32} {ln df : Nat → Option Nat} {rest : List va_E} {K : Option Value → List va_E → Prop} {nb : Nat} (hnb : c 32 1 = nI nb) (h12 : nb ≤ 12) {m : Nat} (hWV : WV c P nb m) (hm : m ≤ 14400) (hT : TI c) (hSE : SE c) (hCI : CI c) (hLOK : LOK D N c ln rest) {s b n : Nat} (hb : b < nb) (hn : n ≤ 240) : ∀ (f k : Nat) (x : T2), 1 ≤ k → k + f = n + 1 → (∀ (x2 : T2) (Z : Nat → Int32), K (some (.int (ftR c P nb m b f k))) (encC D N c x2 (va_up (va_up V 0 P) 1 (Z)) ln df ++ rest)) → Wp D N l (EI M_FG_foretell) M_FG_foretell (Rm (d + 7) 0 0) (Qm D N K 0 0) 0 0 53 [(4, .int (nI k)), (3, .int (nI b)), (0, .ref (N + 0)), (1, .int (nI s)), (2, .int (nI n))] [] (encC D N c x (va_up (va_up V 0 P) 1 (pN c P nb m (k - 1))) ln df ++ rest) := by
  intro f
  induction f with
  | zero =>
    intro k x hk1 hkn hK
    refine wp_iload (q := 55) d_FG_foretell_53 rfl rfl ?_
    refine wp_iload_n (q := 56) d_FG_foretell_55 rfl rfl ?_
    refine wp_icmp_gt_t (tgt := 95) d_FG_foretell_56 (by decide) (nI_lt (by omega) (by omega)) ?_
    refine wp_bipush (q := 97) d_FG_foretell_95 rfl bp_m6 ?_
    refine wp_iret d_FG_foretell_97 rfl (Nat.le_refl _) (Nat.le_refl _) ?_
    exact hK x _
  | succ f ih =>
    intro k x hk1 hkn hK
    have hbm : b < 12 := by omega
    rw [show k - 1 = k - 1 from rfl]
    refine wp_iload (q := 55) d_FG_foretell_53 rfl rfl ?_
    refine wp_iload_n (q := 56) d_FG_foretell_55 rfl rfl ?_
    refine wp_icmp_gt_f (q := 59) (tgt := 95) d_FG_foretell_56 (by decide) rfl (le_nlt (nI_le (by omega) (by omega))) ?_
    have wk := hWV.ps hT hSE h12 (k - 1) (by omega)
    refine wp_aload_n (q := 60) d_FG_foretell_59 rfl rfl ?_
    refine wp_get (q := 63) fl_FG_10 d_FG_foretell_60 rfl rfl rfl ?_
    refine wp_aload_n (q := 64) d_FG_foretell_63 rfl rfl ?_
    refine wp_get (q := 67) fl_FG_23 d_FG_foretell_64 rfl rfl rfl ?_
    refine wp_cv1 (q := 70) lk_FG_168 (ro _ _ _) d_FG_foretell_67 rfl (Nat.le_of_ble_eq_true rfl) (rfl) rfl (Nat.zero_le _) (Nat.zero_le _) ?_
    refine ok_Tn_pass (w := 1) (m := m + (k - 1)) hnb h12 (by decide) (by omega) wk.1 hT hCI hLOK wk.cr wk.2.2.1 ?_
    intro x2
    rw [show passP c (pN c P nb m (k - 1)) nb (m + (k - 1)) = pN c P nb m k by rw [show k = k - 1 + 1 by omega, pN, Nat.add_sub_cancel]]
    refine wp_aload_n (q := 71) d_FG_foretell_70 rfl rfl ?_
    refine wp_get (q := 74) fl_FG_23 d_FG_foretell_71 rfl rfl rfl ?_
    refine wp_get (q := 77) fl_FG_85 d_FG_foretell_74 rfl (rdO (w := 1) (by decide)) rfl ?_
    refine wp_iload_n (q := 78) d_FG_foretell_77 rfl rfl ?_
    refine wp_aldR (q := 79) d_FG_foretell_78 rfl (rd4 (w := 1) (by decide)) (by omega) (by decide) (rowsW_at (by omega)) ?_
    refine wp_get (q := 82) fl_FG_89 d_FG_foretell_79 rfl (rdR (w := 1) (by decide) (by omega)) rfl ?_
    refine wp_iconst (q := 83) d_FG_foretell_82 rfl ic_2 ?_
    refine wp_icmp_eq (q := 86) (tgt := 89) d_FG_foretell_83 (by decide) rfl (fun hc_83 => ?_) (fun hc_83 => ?_)
    · have hq := hc_83
      refine wp_iinc (q := 92) (L2 := [(4, _), (3, _), (0, _), (1, _), (2, _)]) d_FG_foretell_89 rfl rfl (iinc_1) (by decide) rfl ?_
      refine wp_goto (tgt := 53) d_FG_foretell_92 (by decide) ?_
      exact ih (k + 1) x2 (by omega) (by omega) (fun x3 Z => by have h := hK x3 Z; rw [ftR, if_neg (fun g => g hq)] at h; exact h)
    · have hq := hc_83
      refine wp_iload (q := 88) d_FG_foretell_86 rfl rfl ?_
      refine wp_iret d_FG_foretell_88 rfl (Nat.le_refl _) (Nat.le_refl _) ?_
      have h := hK x2 (pN c P nb m k)
      rw [ftR, if_pos hq] at h
      exact h
set_option maxHeartbeats 4000000 in
set_option maxRecDepth 100000 in
theorem ok_FG_foretell {D : xD} {N : Nat} {l : Launch} {d : Nat} {c x V : T2} {P : Nat → Int32} {ln df : Nat → Option Nat} {rest : List va_E} {K : Option Value → List va_E → Prop} {s n : Int32} {nb : Nat} (hnb : c 32 1 = nI nb) (h12 : nb ≤ 12) {m : Nat} (hWV : WV c P nb m) (hm : m ≤ 14400) (hT : TI c) (hSE : SE c) (hCI : CI c) (hLOK : LOK D N c ln rest) (hK : ∀ (x2 : T2) (Z : Nat → Int32), K (some (.int (sp_foretell c P nb m s n))) (encC D N c x2 (va_up (va_up V 0 P) 1 (Z)) ln df ++ rest)) : Ok D N l (d + 7) M_FG_foretell [.ref (N + 0), .int s, .int n] (encC D N c x (va_up V 0 P) ln df ++ rest) 0 0 K := by
  refine ok_of (L := [(0, _), (1, _), (2, _)]) (by decide) (Nat.le_of_ble_eq_true rfl) rfl ?_
  refine wp_iload_n (q := 1) d_FG_foretell_0 rfl rfl ?_
  refine wp_cs1 (q := 4) lk_FG_57 (ro _ _ _) d_FG_foretell_1 rfl (Nat.le_of_ble_eq_true rfl) (Nat.zero_le _) (Nat.zero_le _) ?_
  refine ok_FG_isStage (fun s1 hs1 e => ?_) (fun hs1 => ?_)
  · subst e
    refine wp_if_ne_t (tgt := 9) d_FG_foretell_4 (by decide) (by decide) ?_
    refine wp_iload_n (q := 10) d_FG_foretell_9 rfl rfl ?_
    refine wp_iconst (q := 11) d_FG_foretell_10 rfl ic_1 ?_
    refine wp_sipush (q := 14) d_FG_foretell_11 rfl sp_240 ?_
    refine wp_cs3 (q := 17) lk_FG_61 (ro _ _ _) d_FG_foretell_14 rfl (Nat.le_of_ble_eq_true rfl) (Nat.zero_le _) (Nat.zero_le _) ?_
    refine ok_FG_within (fun hna hnb2 => ?_) (fun hn => ?_)
    · obtain ⟨n, hn1, hn2, rfl⟩ := nI_btw1 (by decide) hna hnb2
      refine wp_if_ne_t (tgt := 23) d_FG_foretell_17 (by decide) (by decide) ?_
      refine wp_aload_n (q := 24) d_FG_foretell_23 rfl rfl ?_
      refine wp_get (q := 27) fl_FG_19 d_FG_foretell_24 rfl rfl rfl ?_
      refine wp_iload_n (q := 28) d_FG_foretell_27 rfl rfl ?_
      refine wp_cv1 (q := 31) lk_FG_199 (ro _ _ _) d_FG_foretell_28 rfl (Nat.le_of_ble_eq_true rfl) (rdO (w := 0) (by decide)) rfl (Nat.zero_le _) (Nat.zero_le _) ?_
      refine ok_Wd_loadingAt (w := 0) (by decide) (by omega) ?_
      rw [lf_12 hWV.1.2.2 12 h12 (Nat.le_refl _)]
      rcases hl : lf P s1 nb with _ | b <;> dsimp only [ov]
      · refine wp_istore_n (q := 32) (L2 := [(3, _), (0, _), (1, _), (2, _)]) d_FG_foretell_31 rfl (by decide) rfl ?_
        refine wp_iload_n (q := 33) d_FG_foretell_32 rfl rfl ?_
        refine wp_if_ge_f (q := 36) (tgt := 39) d_FG_foretell_33 (by decide) rfl (by show ¬ (0 : Int32) ≤ -1; decide) ?_
        refine wp_bipush (q := 38) d_FG_foretell_36 rfl bp_m3 ?_
        refine wp_iret d_FG_foretell_38 rfl (Nat.le_refl _) (Nat.le_refl _) ?_
        simp only [sp_foretell, inn, inb, inm, btw, inn_t hs1, tnl hs1, hna, hnb2, tnl hn2, hl, not_true_eq_false, not_false_eq_true, or_false, false_or, or_true, true_or, and_true, true_and, and_false, false_and, or_self, and_self, if_true, if_false, ite_true, ite_false, eq_self] at hK
        first | first | exact hK _ _ | exact (va_upid (va_up V 0 P) 1) ▸ hK x _ | (simp (disch := omega) only [tput_eq, tput2, tput_ne, upd_eq, upd_ne, ne_eq, va_upeq, va_upne, va_up2, not_true_eq_false, not_false_eq_true, or_false, false_or, or_true, true_or, and_true, true_and, and_false, false_and, or_self, and_self, if_true, if_false, ite_true, ite_false, eq_self] at hK ⊢; first | exact hK _ _ | exact (va_upid (va_up V 0 P) 1) ▸ hK x _) | (simp (disch := omega) only [tput_eq, tput2, tput_ne, upd_eq, upd_ne, ne_eq, va_upeq, va_upne, va_up2, not_true_eq_false, not_false_eq_true, or_false, false_or, or_true, true_or, and_true, true_and, and_false, false_and, or_self, and_self, if_true, if_false, ite_true, ite_false, eq_self]; first | exact hK _ _ | exact (va_upid (va_up V 0 P) 1) ▸ hK x _) | (simp (disch := omega) only [tput_eq, tput2, tput_ne, upd_eq, upd_ne, ne_eq, va_upeq, va_upne, va_up2, not_true_eq_false, not_false_eq_true, or_false, false_or, or_true, true_or, and_true, true_and, and_false, false_and, or_self, and_self, if_true, if_false, ite_true, ite_false, eq_self] at hK; first | exact hK _ _ | exact (va_upid (va_up V 0 P) 1) ▸ hK x _)
      · have hlt := (lf_lt hl).1
        refine wp_istore_n (q := 32) (L2 := [(3, _), (0, _), (1, _), (2, _)]) d_FG_foretell_31 rfl (by decide) rfl ?_
        refine wp_iload_n (q := 33) d_FG_foretell_32 rfl rfl ?_
        refine wp_if_ge_t (tgt := 39) d_FG_foretell_33 (by decide) (nI_pos' (by omega)) ?_
        refine wp_aload_n (q := 40) d_FG_foretell_39 rfl rfl ?_
        refine wp_get (q := 43) fl_FG_23 d_FG_foretell_40 rfl rfl rfl ?_
        refine wp_aload_n (q := 44) d_FG_foretell_43 rfl rfl ?_
        refine wp_get (q := 47) fl_FG_19 d_FG_foretell_44 rfl rfl rfl ?_
        refine wp_cv1 (q := 50) lk_FG_250 (ro _ _ _) d_FG_foretell_47 rfl (Nat.le_of_ble_eq_true rfl) ((rdV (w := 1) (by decide))) rfl (Nat.zero_le _) (Nat.zero_le _) ?_
        refine ok_become (V := va_up V 0 P) (w := 1) (v := 0) (by decide) (by decide) (by decide) ?_
        rw [show va_up V 0 P 0 = P from va_up_self _ _ _]
        refine wp_iconst (q := 51) d_FG_foretell_50 rfl ic_1 ?_
        refine wp_istore (q := 53) (L2 := [(4, _), (3, _), (0, _), (1, _), (2, _)]) d_FG_foretell_51 rfl (by decide) rfl ?_
        simp only [sp_foretell, inn, btw, inn_t hs1, tnl hs1, hna, hnb2, tnl hn2, hl, not_true_eq_false, not_false_eq_true, or_false, false_or, or_true, true_or, and_true, true_and, and_false, false_and, or_self, and_self, if_true, if_false, ite_true, ite_false, eq_self] at hK
        exact ft_FG_foretell hnb h12 hWV hm hT hSE hCI hLOK hlt hn2 n 1 x (by decide) (by omega) hK
    · refine wp_if_ne_f (q := 20) (tgt := 23) d_FG_foretell_17 (by decide) rfl (by decide) ?_
      refine wp_bipush (q := 22) d_FG_foretell_20 rfl bp_m2 ?_
      refine wp_iret d_FG_foretell_22 rfl (Nat.le_refl _) (Nat.le_refl _) ?_
      simp only [sp_foretell, inn, inb, inm, btw, inn_t hs1, tnl hs1, hn, not_true_eq_false, not_false_eq_true, or_false, false_or, or_true, true_or, and_true, true_and, and_false, false_and, or_self, and_self, if_true, if_false, ite_true, ite_false, eq_self] at hK
      first | first | exact hK _ _ | exact (va_upid (va_up V 0 P) 1) ▸ hK x _ | (simp (disch := omega) only [tput_eq, tput2, tput_ne, upd_eq, upd_ne, ne_eq, va_upeq, va_upne, va_up2, not_true_eq_false, not_false_eq_true, or_false, false_or, or_true, true_or, and_true, true_and, and_false, false_and, or_self, and_self, if_true, if_false, ite_true, ite_false, eq_self] at hK ⊢; first | exact hK _ _ | exact (va_upid (va_up V 0 P) 1) ▸ hK x _) | (simp (disch := omega) only [tput_eq, tput2, tput_ne, upd_eq, upd_ne, ne_eq, va_upeq, va_upne, va_up2, not_true_eq_false, not_false_eq_true, or_false, false_or, or_true, true_or, and_true, true_and, and_false, false_and, or_self, and_self, if_true, if_false, ite_true, ite_false, eq_self]; first | exact hK _ _ | exact (va_upid (va_up V 0 P) 1) ▸ hK x _) | (simp (disch := omega) only [tput_eq, tput2, tput_ne, upd_eq, upd_ne, ne_eq, va_upeq, va_upne, va_up2, not_true_eq_false, not_false_eq_true, or_false, false_or, or_true, true_or, and_true, true_and, and_false, false_and, or_self, and_self, if_true, if_false, ite_true, ite_false, eq_self] at hK; first | exact hK _ _ | exact (va_upid (va_up V 0 P) 1) ▸ hK x _)
  · refine wp_if_ne_f (q := 7) (tgt := 9) d_FG_foretell_4 (by decide) rfl (by decide) ?_
    refine wp_iconst (q := 8) d_FG_foretell_7 rfl ic_m1 ?_
    refine wp_iret d_FG_foretell_8 rfl (Nat.le_refl _) (Nat.le_refl _) ?_
    simp only [sp_foretell, inn, inb, inm, btw, hs1, not_true_eq_false, not_false_eq_true, or_false, false_or, or_true, true_or, and_true, true_and, and_false, false_and, or_self, and_self, if_true, if_false, ite_true, ite_false, eq_self] at hK
    first | first | exact hK _ _ | exact (va_upid (va_up V 0 P) 1) ▸ hK x _ | (simp (disch := omega) only [tput_eq, tput2, tput_ne, upd_eq, upd_ne, ne_eq, va_upeq, va_upne, va_up2, not_true_eq_false, not_false_eq_true, or_false, false_or, or_true, true_or, and_true, true_and, and_false, false_and, or_self, and_self, if_true, if_false, ite_true, ite_false, eq_self] at hK ⊢; first | exact hK _ _ | exact (va_upid (va_up V 0 P) 1) ▸ hK x _) | (simp (disch := omega) only [tput_eq, tput2, tput_ne, upd_eq, upd_ne, ne_eq, va_upeq, va_upne, va_up2, not_true_eq_false, not_false_eq_true, or_false, false_or, or_true, true_or, and_true, true_and, and_false, false_and, or_self, and_self, if_true, if_false, ite_true, ite_false, eq_self]; first | exact hK _ _ | exact (va_upid (va_up V 0 P) 1) ▸ hK x _) | (simp (disch := omega) only [tput_eq, tput2, tput_ne, upd_eq, upd_ne, ne_eq, va_upeq, va_upne, va_up2, not_true_eq_false, not_false_eq_true, or_false, false_or, or_true, true_or, and_true, true_and, and_false, false_and, or_self, and_self, if_true, if_false, ite_true, ite_false, eq_self] at hK; first | exact hK _ _ | exact (va_upid (va_up V 0 P) 1) ▸ hK x _)
theorem d_Rf_foretell_0 : decode M_Rf_foretell.2.1 0 = .ok (.iload_n 1, 1) := by decide +kernel
theorem d_Rf_foretell_1 : decode M_Rf_foretell.2.1 1 = .ok (.invokestatic 163, 3) := by decide +kernel
theorem d_Rf_foretell_4 : decode M_Rf_foretell.2.1 4 = .ok (.ifCond .ne 5, 3) := by decide +kernel
theorem d_Rf_foretell_7 : decode M_Rf_foretell.2.1 7 = .ok (.iconst (-1), 1) := by decide +kernel
theorem d_Rf_foretell_8 : decode M_Rf_foretell.2.1 8 = .ok (.ireturn, 1) := by decide +kernel
theorem d_Rf_foretell_9 : decode M_Rf_foretell.2.1 9 = .ok (.iload_n 2, 1) := by decide +kernel
theorem d_Rf_foretell_10 : decode M_Rf_foretell.2.1 10 = .ok (.iconst 1, 1) := by decide +kernel
theorem d_Rf_foretell_11 : decode M_Rf_foretell.2.1 11 = .ok (.sipush 240, 3) := by decide +kernel
theorem d_Rf_foretell_14 : decode M_Rf_foretell.2.1 14 = .ok (.invokestatic 151, 3) := by decide +kernel
theorem d_Rf_foretell_17 : decode M_Rf_foretell.2.1 17 = .ok (.ifCond .ne 6, 3) := by decide +kernel
theorem d_Rf_foretell_20 : decode M_Rf_foretell.2.1 20 = .ok (.bipush (-2), 2) := by decide +kernel
theorem d_Rf_foretell_22 : decode M_Rf_foretell.2.1 22 = .ok (.ireturn, 1) := by decide +kernel
theorem d_Rf_foretell_23 : decode M_Rf_foretell.2.1 23 = .ok (.aload_n 0, 1) := by decide +kernel
theorem d_Rf_foretell_24 : decode M_Rf_foretell.2.1 24 = .ok (.iload_n 1, 1) := by decide +kernel
theorem d_Rf_foretell_25 : decode M_Rf_foretell.2.1 25 = .ok (.invokevirtual 233, 3) := by decide +kernel
theorem d_Rf_foretell_28 : decode M_Rf_foretell.2.1 28 = .ok (.istore_n 3, 1) := by decide +kernel
theorem d_Rf_foretell_29 : decode M_Rf_foretell.2.1 29 = .ok (.iload_n 3, 1) := by decide +kernel
theorem d_Rf_foretell_30 : decode M_Rf_foretell.2.1 30 = .ok (.iconst (-1), 1) := by decide +kernel
theorem d_Rf_foretell_31 : decode M_Rf_foretell.2.1 31 = .ok (.if_icmp .ne 6, 3) := by decide +kernel
theorem d_Rf_foretell_34 : decode M_Rf_foretell.2.1 34 = .ok (.bipush (-3), 2) := by decide +kernel
theorem d_Rf_foretell_36 : decode M_Rf_foretell.2.1 36 = .ok (.ireturn, 1) := by decide +kernel
theorem d_Rf_foretell_37 : decode M_Rf_foretell.2.1 37 = .ok (.aload_n 0, 1) := by decide +kernel
theorem d_Rf_foretell_38 : decode M_Rf_foretell.2.1 38 = .ok (.iconst 0, 1) := by decide +kernel
theorem d_Rf_foretell_39 : decode M_Rf_foretell.2.1 39 = .ok (.invokevirtual 271, 3) := by decide +kernel
theorem d_Rf_foretell_42 : decode M_Rf_foretell.2.1 42 = .ok (.aload_n 0, 1) := by decide +kernel
theorem d_Rf_foretell_43 : decode M_Rf_foretell.2.1 43 = .ok (.getfield 7, 3) := by decide +kernel
theorem d_Rf_foretell_46 : decode M_Rf_foretell.2.1 46 = .ok (.sipush 216, 3) := by decide +kernel
theorem d_Rf_foretell_49 : decode M_Rf_foretell.2.1 49 = .ok (.iload_n 3, 1) := by decide +kernel
theorem d_Rf_foretell_50 : decode M_Rf_foretell.2.1 50 = .ok (.iadd, 1) := by decide +kernel
theorem d_Rf_foretell_51 : decode M_Rf_foretell.2.1 51 = .ok (.iaload, 1) := by decide +kernel
theorem d_Rf_foretell_52 : decode M_Rf_foretell.2.1 52 = .ok (.istore 4, 2) := by decide +kernel
theorem d_Rf_foretell_54 : decode M_Rf_foretell.2.1 54 = .ok (.bipush (-6), 2) := by decide +kernel
theorem d_Rf_foretell_56 : decode M_Rf_foretell.2.1 56 = .ok (.istore 5, 2) := by decide +kernel
theorem d_Rf_foretell_58 : decode M_Rf_foretell.2.1 58 = .ok (.iconst 1, 1) := by decide +kernel
theorem d_Rf_foretell_59 : decode M_Rf_foretell.2.1 59 = .ok (.istore 6, 2) := by decide +kernel
theorem d_Rf_foretell_61 : decode M_Rf_foretell.2.1 61 = .ok (.iload 6, 2) := by decide +kernel
theorem d_Rf_foretell_63 : decode M_Rf_foretell.2.1 63 = .ok (.iload_n 2, 1) := by decide +kernel
theorem d_Rf_foretell_64 : decode M_Rf_foretell.2.1 64 = .ok (.if_icmp .gt 42, 3) := by decide +kernel
theorem d_Rf_foretell_67 : decode M_Rf_foretell.2.1 67 = .ok (.iload 5, 2) := by decide +kernel
theorem d_Rf_foretell_69 : decode M_Rf_foretell.2.1 69 = .ok (.ifCond .ge 37, 3) := by decide +kernel
theorem d_Rf_foretell_72 : decode M_Rf_foretell.2.1 72 = .ok (.aload_n 0, 1) := by decide +kernel
theorem d_Rf_foretell_73 : decode M_Rf_foretell.2.1 73 = .ok (.invokevirtual 260, 3) := by decide +kernel
theorem d_Rf_foretell_76 : decode M_Rf_foretell.2.1 76 = .ok (.aload_n 0, 1) := by decide +kernel
theorem d_Rf_foretell_77 : decode M_Rf_foretell.2.1 77 = .ok (.getfield 7, 3) := by decide +kernel
theorem d_Rf_foretell_80 : decode M_Rf_foretell.2.1 80 = .ok (.sipush 216, 3) := by decide +kernel
theorem d_Rf_foretell_83 : decode M_Rf_foretell.2.1 83 = .ok (.iload_n 3, 1) := by decide +kernel
theorem d_Rf_foretell_84 : decode M_Rf_foretell.2.1 84 = .ok (.iadd, 1) := by decide +kernel
theorem d_Rf_foretell_85 : decode M_Rf_foretell.2.1 85 = .ok (.iaload, 1) := by decide +kernel
theorem d_Rf_foretell_86 : decode M_Rf_foretell.2.1 86 = .ok (.iload 4, 2) := by decide +kernel
theorem d_Rf_foretell_88 : decode M_Rf_foretell.2.1 88 = .ok (.if_icmp .eq 8, 3) := by decide +kernel
theorem d_Rf_foretell_91 : decode M_Rf_foretell.2.1 91 = .ok (.iload 6, 2) := by decide +kernel
theorem d_Rf_foretell_93 : decode M_Rf_foretell.2.1 93 = .ok (.goto 5, 3) := by decide +kernel
theorem d_Rf_foretell_96 : decode M_Rf_foretell.2.1 96 = .ok (.iload 5, 2) := by decide +kernel
theorem d_Rf_foretell_98 : decode M_Rf_foretell.2.1 98 = .ok (.istore 5, 2) := by decide +kernel
theorem d_Rf_foretell_100 : decode M_Rf_foretell.2.1 100 = .ok (.iinc 6 1, 3) := by decide +kernel
theorem d_Rf_foretell_103 : decode M_Rf_foretell.2.1 103 = .ok (.goto (-42), 3) := by decide +kernel
theorem d_Rf_foretell_106 : decode M_Rf_foretell.2.1 106 = .ok (.aload_n 0, 1) := by decide +kernel
theorem d_Rf_foretell_107 : decode M_Rf_foretell.2.1 107 = .ok (.iconst 1, 1) := by decide +kernel
theorem d_Rf_foretell_108 : decode M_Rf_foretell.2.1 108 = .ok (.invokevirtual 271, 3) := by decide +kernel
theorem d_Rf_foretell_111 : decode M_Rf_foretell.2.1 111 = .ok (.iload 5, 2) := by decide +kernel
theorem d_Rf_foretell_113 : decode M_Rf_foretell.2.1 113 = .ok (.ireturn, 1) := by decide +kernel
set_option maxHeartbeats 4000000 in
set_option maxRecDepth 100000 in
theorem ft_Rf_foretell {D : xD} {N : Nat} {l : Launch} {d : Nat} {c z : T2} {P Q : Nat → Int32} {rest : List va_E} {K : Option Value → List va_E → Prop} {nb : Nat} (hnb : c 32 1 = nI nb) (h12 : nb ≤ 12) {m : Nat} (hWV : WV c P nb m) (hm : m ≤ 14400) (hT : TI c) (hSE : SE c) (hCI : CI c) {s b n : Nat} (hb : b < nb) (hn : n ≤ 240) : ∀ (f k : Nat), 1 ≤ k → k + f = n + 1 → pN c P nb m (k - 1) (72 + b) = nI 2 → pN c P nb m (k - 1) (216 + b) = P (216 + b) → (∀ z2 : T2, K (some (.int (ftR c P nb m b f k))) (encR D N c z2 P Q ++ rest)) → Wp D N l (EI M_Rf_foretell) M_Rf_foretell (Rm (d + 7) 0 0) (Qm D N K 0 0) 0 0 61 [(6, .int (nI k)), (5, .int (-6)), (4, .int (P (216 + b))), (3, .int (nI b)), (0, .ref (N + 0)), (1, .int (nI s)), (2, .int (nI n))] [] (encR D N c (tput z 0 P) (pN c P nb m (k - 1)) Q ++ rest) := by
  have hbm : b < 12 := by omega
  have hx : ∀ (j t : Nat), t < 2000 → j < 2000 → (∀ z2 : T2, K (some (.int (nI t))) (encR D N c z2 P Q ++ rest)) → Wp D N l (EI M_Rf_foretell) M_Rf_foretell (Rm (d + 7) 0 0) (Qm D N K 0 0) 0 0 61 [(6, .int (nI j)), (5, .int (nI t)), (4, .int (P (216 + b))), (3, .int (nI b)), (0, .ref (N + 0)), (1, .int (nI s)), (2, .int (nI n))] [] (encR D N c (tput z 0 P) (pN c P nb m t) Q ++ rest) := by
    intro j t ht hj hK
    by_cases hgt : n < j
    · skip
      refine wp_iload (q := 63) d_Rf_foretell_61 rfl rfl ?_
      refine wp_iload_n (q := 64) d_Rf_foretell_63 rfl rfl ?_
      refine wp_icmp_gt_t (tgt := 106) d_Rf_foretell_64 (by decide) (nI_lt hgt (by omega)) ?_
      refine wp_aload_n (q := 107) d_Rf_foretell_106 rfl rfl ?_
      refine wp_iconst (q := 108) d_Rf_foretell_107 rfl ic_1 ?_
      refine wp_cv1 (q := 111) lk_Rf_271 (ro _ _ _) d_Rf_foretell_108 rfl (Nat.le_of_ble_eq_true rfl) (rfl) rfl (Nat.zero_le _) (Nat.zero_le _) ?_
      refine ok_Rf_lays1 ?_
      rw [tput_eq]
      refine wp_iload (q := 113) d_Rf_foretell_111 rfl rfl ?_
      refine wp_iret d_Rf_foretell_113 rfl (Nat.le_refl _) (Nat.le_refl _) ?_
      exact hK _
    · skip
      refine wp_iload (q := 63) d_Rf_foretell_61 rfl rfl ?_
      refine wp_iload_n (q := 64) d_Rf_foretell_63 rfl rfl ?_
      refine wp_icmp_gt_f (q := 67) (tgt := 106) d_Rf_foretell_64 (by decide) rfl (le_nlt (nI_le (by omega) (by omega))) ?_
      refine wp_iload (q := 69) d_Rf_foretell_67 rfl rfl ?_
      refine wp_if_ge_t (tgt := 106) d_Rf_foretell_69 (by decide) (nI_pos' (by omega)) ?_
      refine wp_aload_n (q := 107) d_Rf_foretell_106 rfl rfl ?_
      refine wp_iconst (q := 108) d_Rf_foretell_107 rfl ic_1 ?_
      refine wp_cv1 (q := 111) lk_Rf_271 (ro _ _ _) d_Rf_foretell_108 rfl (Nat.le_of_ble_eq_true rfl) (rfl) rfl (Nat.zero_le _) (Nat.zero_le _) ?_
      refine ok_Rf_lays1 ?_
      rw [tput_eq]
      refine wp_iload (q := 113) d_Rf_foretell_111 rfl rfl ?_
      refine wp_iret d_Rf_foretell_113 rfl (Nat.le_refl _) (Nat.le_refl _) ?_
      exact hK _
  intro f
  induction f with
  | zero =>
    intro k hk1 hkn hl2 hr2 hK
    refine wp_iload (q := 63) d_Rf_foretell_61 rfl rfl ?_
    refine wp_iload_n (q := 64) d_Rf_foretell_63 rfl rfl ?_
    refine wp_icmp_gt_t (tgt := 106) d_Rf_foretell_64 (by decide) (nI_lt (by omega) (by omega)) ?_
    refine wp_aload_n (q := 107) d_Rf_foretell_106 rfl rfl ?_
    refine wp_iconst (q := 108) d_Rf_foretell_107 rfl ic_1 ?_
    refine wp_cv1 (q := 111) lk_Rf_271 (ro _ _ _) d_Rf_foretell_108 rfl (Nat.le_of_ble_eq_true rfl) (rfl) rfl (Nat.zero_le _) (Nat.zero_le _) ?_
    refine ok_Rf_lays1 ?_
    rw [tput_eq]
    refine wp_iload (q := 113) d_Rf_foretell_111 rfl rfl ?_
    refine wp_iret d_Rf_foretell_113 rfl (Nat.le_refl _) (Nat.le_refl _) ?_
    exact hK _
  | succ f ih =>
    intro k hk1 hkn hl2 hr2 hK
    refine wp_iload (q := 63) d_Rf_foretell_61 rfl rfl ?_
    refine wp_iload_n (q := 64) d_Rf_foretell_63 rfl rfl ?_
    refine wp_icmp_gt_f (q := 67) (tgt := 106) d_Rf_foretell_64 (by decide) rfl (le_nlt (nI_le (by omega) (by omega))) ?_
    refine wp_iload (q := 69) d_Rf_foretell_67 rfl rfl ?_
    refine wp_if_ge_f (q := 72) (tgt := 106) d_Rf_foretell_69 (by decide) rfl (by show ¬ (0 : Int32) ≤ -6; decide) ?_
    have wk := hWV.ps hT hSE h12 (k - 1) (by omega)
    refine wp_aload_n (q := 73) d_Rf_foretell_72 rfl rfl ?_
    refine wp_cv0 (q := 76) lk_Rf_260 (ro _ _ _) d_Rf_foretell_73 rfl (Nat.le_of_ble_eq_true rfl) (rfl) rfl (Nat.zero_le _) (Nat.zero_le _) ?_
    refine ok_Rf_goes (m := m + (k - 1)) hnb h12 (by omega) wk.1 hT hCI wk.cr wk.2.2.1 ?_
    have hlm : Lm (passP c (pN c P nb m (k - 1)) nb (m + (k - 1))) b (P (216 + b)) := Lm.pass hl2 hr2 wk.1 hT h12 hbm
    rw [show passP c (pN c P nb m (k - 1)) nb (m + (k - 1)) = pN c P nb m k by rw [show k = k - 1 + 1 by omega, pN, Nat.add_sub_cancel]] at hlm ⊢
    refine wp_aload_n (q := 77) d_Rf_foretell_76 rfl rfl ?_
    refine wp_get (q := 80) fl_Rf_7 d_Rf_foretell_77 rfl rfl rfl ?_
    refine wp_sipush (q := 83) d_Rf_foretell_80 rfl sp_216 ?_
    refine wp_iload_n (q := 84) d_Rf_foretell_83 rfl rfl ?_
    first | refine wp_iaddN (q := 85) d_Rf_foretell_84 rfl ?_ | refine wp_iadd (q := 85) d_Rf_foretell_84 rfl ?_
    refine wp_iald (q := 86) d_Rf_foretell_85 rfl (rfl) (by omega) (by decide) ?_
    refine wp_iload (q := 88) d_Rf_foretell_86 rfl rfl ?_
    refine wp_icmp_eq (q := 91) (tgt := 96) d_Rf_foretell_88 (by decide) rfl (fun hc_88 => ?_) (fun hc_88 => ?_)
    · have hq := hlm.iff.mp hc_88
      refine wp_iload (q := 98) d_Rf_foretell_96 rfl rfl ?_
      refine wp_istore (q := 100) (L2 := [(5, _), (6, _), (4, _), (3, _), (0, _), (1, _), (2, _)]) d_Rf_foretell_98 rfl (by decide) rfl ?_
      refine wp_iinc (q := 103) (L2 := [(6, _), (5, _), (4, _), (3, _), (0, _), (1, _), (2, _)]) d_Rf_foretell_100 rfl rfl (iinc_1) (by decide) rfl ?_
      refine wp_goto (tgt := 61) d_Rf_foretell_103 (by decide) ?_
      exact ih (k + 1) (by omega) (by omega) hq (hlm.iff.mpr hq) (fun z2 => by have h := hK z2; rw [ftR, if_neg (fun g => g hq)] at h; exact h)
    · have hq := fun e => hc_88 (hlm.iff.mpr e)
      refine wp_iload (q := 93) d_Rf_foretell_91 rfl rfl ?_
      refine wp_goto (tgt := 98) d_Rf_foretell_93 (by decide) ?_
      refine wp_istore (q := 100) (L2 := [(5, _), (6, _), (4, _), (3, _), (0, _), (1, _), (2, _)]) d_Rf_foretell_98 rfl (by decide) rfl ?_
      refine wp_iinc (q := 103) (L2 := [(6, _), (5, _), (4, _), (3, _), (0, _), (1, _), (2, _)]) d_Rf_foretell_100 rfl rfl (iinc_1) (by decide) rfl ?_
      refine wp_goto (tgt := 61) d_Rf_foretell_103 (by decide) ?_
      exact hx (k + 1) k (by omega) (by omega) (fun z2 => by have h := hK z2; rw [ftR, if_pos hq] at h; exact h)
set_option maxHeartbeats 4000000 in
set_option maxRecDepth 100000 in
theorem ok_Rf_foretell {D : xD} {N : Nat} {l : Launch} {d : Nat} {c z : T2} {P Q : Nat → Int32} {rest : List va_E} {K : Option Value → List va_E → Prop} {s n : Int32} {nb : Nat} (hnb : c 32 1 = nI nb) (h12 : nb ≤ 12) {m : Nat} (hWV : WV c P nb m) (hm : m ≤ 14400) (hT : TI c) (hSE : SE c) (hCI : CI c) (hK : ∀ z2 : T2, K (some (.int (sp_foretell c P nb m s n))) (encR D N c z2 P Q ++ rest)) : Ok D N l (d + 7) M_Rf_foretell [.ref (N + 0), .int s, .int n] (encR D N c z P Q ++ rest) 0 0 K := by
  refine ok_of (L := [(0, _), (1, _), (2, _)]) (by decide) (Nat.le_of_ble_eq_true rfl) rfl ?_
  refine wp_iload_n (q := 1) d_Rf_foretell_0 rfl rfl ?_
  refine wp_cs1 (q := 4) lk_Rf_163 (ro _ _ _) d_Rf_foretell_1 rfl (Nat.le_of_ble_eq_true rfl) (Nat.zero_le _) (Nat.zero_le _) ?_
  refine ok_Rf_isStage (fun s1 hs1 e => ?_) (fun hs1 => ?_)
  · subst e
    refine wp_if_ne_t (tgt := 9) d_Rf_foretell_4 (by decide) (by decide) ?_
    refine wp_iload_n (q := 10) d_Rf_foretell_9 rfl rfl ?_
    refine wp_iconst (q := 11) d_Rf_foretell_10 rfl ic_1 ?_
    refine wp_sipush (q := 14) d_Rf_foretell_11 rfl sp_240 ?_
    refine wp_cs3 (q := 17) lk_Rf_151 (ro _ _ _) d_Rf_foretell_14 rfl (Nat.le_of_ble_eq_true rfl) (Nat.zero_le _) (Nat.zero_le _) ?_
    refine ok_Rf_in (fun hna hnb2 => ?_) (fun hn => ?_)
    · obtain ⟨n, hn1, hn2, rfl⟩ := nI_btw1 (by decide) hna hnb2
      refine wp_if_ne_t (tgt := 23) d_Rf_foretell_17 (by decide) (by decide) ?_
      refine wp_aload_n (q := 24) d_Rf_foretell_23 rfl rfl ?_
      refine wp_iload_n (q := 25) d_Rf_foretell_24 rfl rfl ?_
      refine wp_cv1 (q := 28) lk_Rf_233 (ro _ _ _) d_Rf_foretell_25 rfl (Nat.le_of_ble_eq_true rfl) (rfl) rfl (Nat.zero_le _) (Nat.zero_le _) ?_
      refine ok_Rf_loadsAt hnb h12 (by omega) ?_
      rcases hl : lf P s1 nb with _ | b <;> dsimp only [ov]
      · refine wp_istore_n (q := 29) (L2 := [(3, _), (0, _), (1, _), (2, _)]) d_Rf_foretell_28 rfl (by decide) rfl ?_
        refine wp_iload_n (q := 30) d_Rf_foretell_29 rfl rfl ?_
        refine wp_iconst (q := 31) d_Rf_foretell_30 rfl ic_m1 ?_
        refine wp_icmp_ne_f (q := 34) (tgt := 37) d_Rf_foretell_31 (by decide) rfl (rfl) ?_
        refine wp_bipush (q := 36) d_Rf_foretell_34 rfl bp_m3 ?_
        refine wp_iret d_Rf_foretell_36 rfl (Nat.le_refl _) (Nat.le_refl _) ?_
        simp only [sp_foretell, inn, inb, inm, btw, inn_t hs1, tnl hs1, hna, hnb2, tnl hn2, hl, not_true_eq_false, not_false_eq_true, or_false, false_or, or_true, true_or, and_true, true_and, and_false, false_and, or_self, and_self, if_true, if_false, ite_true, ite_false, eq_self] at hK
        first | exact hK _ | (simp (disch := omega) only [tput_eq, tput2, tput_ne, upd_eq, upd_ne, ne_eq, va_upeq, va_upne, va_up2, not_true_eq_false, not_false_eq_true, or_false, false_or, or_true, true_or, and_true, true_and, and_false, false_and, or_self, and_self, if_true, if_false, ite_true, ite_false, eq_self] at hK ⊢; exact hK _) | (simp (disch := omega) only [tput_eq, tput2, tput_ne, upd_eq, upd_ne, ne_eq, va_upeq, va_upne, va_up2, not_true_eq_false, not_false_eq_true, or_false, false_or, or_true, true_or, and_true, true_and, and_false, false_and, or_self, and_self, if_true, if_false, ite_true, ite_false, eq_self]; exact hK _) | (simp (disch := omega) only [tput_eq, tput2, tput_ne, upd_eq, upd_ne, ne_eq, va_upeq, va_upne, va_up2, not_true_eq_false, not_false_eq_true, or_false, false_or, or_true, true_or, and_true, true_and, and_false, false_and, or_self, and_self, if_true, if_false, ite_true, ite_false, eq_self] at hK; exact hK _)
      · obtain ⟨hlt, hl2, hl3⟩ := lf_lt hl
        refine wp_istore_n (q := 29) (L2 := [(3, _), (0, _), (1, _), (2, _)]) d_Rf_foretell_28 rfl (by decide) rfl ?_
        refine wp_iload_n (q := 30) d_Rf_foretell_29 rfl rfl ?_
        refine wp_iconst (q := 31) d_Rf_foretell_30 rfl ic_m1 ?_
        refine wp_icmp_ne_t (tgt := 37) d_Rf_foretell_31 (by decide) (nI_nm1 (by omega)) ?_
        refine wp_aload_n (q := 38) d_Rf_foretell_37 rfl rfl ?_
        refine wp_iconst (q := 39) d_Rf_foretell_38 rfl ic_0 ?_
        refine wp_cv1 (q := 42) lk_Rf_271 (ro _ _ _) d_Rf_foretell_39 rfl (Nat.le_of_ble_eq_true rfl) (rfl) rfl (Nat.zero_le _) (Nat.zero_le _) ?_
        refine ok_Rf_lays0 ?_
        refine wp_aload_n (q := 43) d_Rf_foretell_42 rfl rfl ?_
        refine wp_get (q := 46) fl_Rf_7 d_Rf_foretell_43 rfl rfl rfl ?_
        refine wp_sipush (q := 49) d_Rf_foretell_46 rfl sp_216 ?_
        refine wp_iload_n (q := 50) d_Rf_foretell_49 rfl rfl ?_
        first | refine wp_iaddN (q := 51) d_Rf_foretell_50 rfl ?_ | refine wp_iadd (q := 51) d_Rf_foretell_50 rfl ?_
        refine wp_iald (q := 52) d_Rf_foretell_51 rfl (rfl) (by omega) (by decide) ?_
        refine wp_istore (q := 54) (L2 := [(4, _), (3, _), (0, _), (1, _), (2, _)]) d_Rf_foretell_52 rfl (by decide) rfl ?_
        refine wp_bipush (q := 56) d_Rf_foretell_54 rfl bp_m6 ?_
        refine wp_istore (q := 58) (L2 := [(5, _), (4, _), (3, _), (0, _), (1, _), (2, _)]) d_Rf_foretell_56 rfl (by decide) rfl ?_
        refine wp_iconst (q := 59) d_Rf_foretell_58 rfl ic_1 ?_
        refine wp_istore (q := 61) (L2 := [(6, _), (5, _), (4, _), (3, _), (0, _), (1, _), (2, _)]) d_Rf_foretell_59 rfl (by decide) rfl ?_
        simp only [sp_foretell, inn, btw, inn_t hs1, tnl hs1, hna, hnb2, tnl hn2, hl, not_true_eq_false, not_false_eq_true, or_false, false_or, or_true, true_or, and_true, true_and, and_false, false_and, or_self, and_self, if_true, if_false, ite_true, ite_false, eq_self] at hK
        exact ft_Rf_foretell hnb h12 hWV hm hT hSE hCI hlt hn2 n 1 (by decide) (by omega) hl2 rfl hK
    · refine wp_if_ne_f (q := 20) (tgt := 23) d_Rf_foretell_17 (by decide) rfl (by decide) ?_
      refine wp_bipush (q := 22) d_Rf_foretell_20 rfl bp_m2 ?_
      refine wp_iret d_Rf_foretell_22 rfl (Nat.le_refl _) (Nat.le_refl _) ?_
      simp only [sp_foretell, inn, inb, inm, btw, inn_t hs1, tnl hs1, hn, not_true_eq_false, not_false_eq_true, or_false, false_or, or_true, true_or, and_true, true_and, and_false, false_and, or_self, and_self, if_true, if_false, ite_true, ite_false, eq_self] at hK
      first | exact hK _ | (simp (disch := omega) only [tput_eq, tput2, tput_ne, upd_eq, upd_ne, ne_eq, va_upeq, va_upne, va_up2, not_true_eq_false, not_false_eq_true, or_false, false_or, or_true, true_or, and_true, true_and, and_false, false_and, or_self, and_self, if_true, if_false, ite_true, ite_false, eq_self] at hK ⊢; exact hK _) | (simp (disch := omega) only [tput_eq, tput2, tput_ne, upd_eq, upd_ne, ne_eq, va_upeq, va_upne, va_up2, not_true_eq_false, not_false_eq_true, or_false, false_or, or_true, true_or, and_true, true_and, and_false, false_and, or_self, and_self, if_true, if_false, ite_true, ite_false, eq_self]; exact hK _) | (simp (disch := omega) only [tput_eq, tput2, tput_ne, upd_eq, upd_ne, ne_eq, va_upeq, va_upne, va_up2, not_true_eq_false, not_false_eq_true, or_false, false_or, or_true, true_or, and_true, true_and, and_false, false_and, or_self, and_self, if_true, if_false, ite_true, ite_false, eq_self] at hK; exact hK _)
  · refine wp_if_ne_f (q := 7) (tgt := 9) d_Rf_foretell_4 (by decide) rfl (by decide) ?_
    refine wp_iconst (q := 8) d_Rf_foretell_7 rfl ic_m1 ?_
    refine wp_iret d_Rf_foretell_8 rfl (Nat.le_refl _) (Nat.le_refl _) ?_
    simp only [sp_foretell, inn, inb, inm, btw, hs1, not_true_eq_false, not_false_eq_true, or_false, false_or, or_true, true_or, and_true, true_and, and_false, false_and, or_self, and_self, if_true, if_false, ite_true, ite_false, eq_self] at hK
    first | exact hK _ | (simp (disch := omega) only [tput_eq, tput2, tput_ne, upd_eq, upd_ne, ne_eq, va_upeq, va_upne, va_up2, not_true_eq_false, not_false_eq_true, or_false, false_or, or_true, true_or, and_true, true_and, and_false, false_and, or_self, and_self, if_true, if_false, ite_true, ite_false, eq_self] at hK ⊢; exact hK _) | (simp (disch := omega) only [tput_eq, tput2, tput_ne, upd_eq, upd_ne, ne_eq, va_upeq, va_upne, va_up2, not_true_eq_false, not_false_eq_true, or_false, false_or, or_true, true_or, and_true, true_and, and_false, false_and, or_self, and_self, if_true, if_false, ite_true, ite_false, eq_self]; exact hK _) | (simp (disch := omega) only [tput_eq, tput2, tput_ne, upd_eq, upd_ne, ne_eq, va_upeq, va_upne, va_up2, not_true_eq_false, not_false_eq_true, or_false, false_or, or_true, true_or, and_true, true_and, and_false, false_and, or_self, and_self, if_true, if_false, ite_true, ite_false, eq_self] at hK; exact hK _)
