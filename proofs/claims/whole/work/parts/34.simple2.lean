theorem rd_gain {D : xD} {N : Nat} {c x V : T2} {ln df : Nat → Option Nat} {rest : List va_E} {r : Nat} (hr : r < 6) : (encC D N c x V ln df ++ rest)[76 + r]? = some (iA D 4 (sl (c 11) (4 * r) 4)) := by
  rcases (show r = 0 ∨ r = 1 ∨ r = 2 ∨ r = 3 ∨ r = 4 ∨ r = 5 by omega) with rfl | rfl | rfl | rfl | rfl | rfl <;> rfl
set_option maxRecDepth 100000 in
theorem ch_gain {D : xD} {N : Nat} {c x V : T2} {ln df : Nat → Option Nat} {rest : List va_E} {f : Nat → Int32} : encC D N (tput c 11 f) x V ln df ++ rest = (((((((encC D N c x V ln df ++ rest).set 76 (iA D 4 (sl f 0 4))).set 77 (iA D 4 (sl f 4 4))).set 78 (iA D 4 (sl f 8 4))).set 79 (iA D 4 (sl f 12 4))).set 80 (iA D 4 (sl f 16 4))).set 81 (iA D 4 (sl f 20 4))) := rfl
set_option maxRecDepth 100000 in
theorem fd_gain0 {D : xD} {N : Nat} {c x V : T2} {ln df : Nat → Option Nat} {rest : List va_E} {r i : Nat} {f : Nat → Int32} (hr : r < 6) (hf : ∀ r2, r2 < 6 → r2 ≠ r → sl f (4 * r2) 4 = sl (c 11) (4 * r2) 4) : (encC D N c x V ln df ++ rest).set (76 + r) (iA D 4 (sl f (4 * r) 4)) = encC D N (tput c 11 f) x V ln df ++ rest := by
  rcases (show r = 0 ∨ r = 1 ∨ r = 2 ∨ r = 3 ∨ r = 4 ∨ r = 5 by omega) with rfl | rfl | rfl | rfl | rfl | rfl
  · rw [ch_gain, show sl f 4 4 = sl (c 11) 4 4 from hf 1 (by decide) (by decide), show sl f 8 4 = sl (c 11) 8 4 from hf 2 (by decide) (by decide), show sl f 12 4 = sl (c 11) 12 4 from hf 3 (by decide) (by decide), show sl f 16 4 = sl (c 11) 16 4 from hf 4 (by decide) (by decide), show sl f 20 4 = sl (c 11) 20 4 from hf 5 (by decide) (by decide)]; rfl
  · rw [ch_gain, show sl f 0 4 = sl (c 11) 0 4 from hf 0 (by decide) (by decide), show sl f 8 4 = sl (c 11) 8 4 from hf 2 (by decide) (by decide), show sl f 12 4 = sl (c 11) 12 4 from hf 3 (by decide) (by decide), show sl f 16 4 = sl (c 11) 16 4 from hf 4 (by decide) (by decide), show sl f 20 4 = sl (c 11) 20 4 from hf 5 (by decide) (by decide)]; rfl
  · rw [ch_gain, show sl f 0 4 = sl (c 11) 0 4 from hf 0 (by decide) (by decide), show sl f 4 4 = sl (c 11) 4 4 from hf 1 (by decide) (by decide), show sl f 12 4 = sl (c 11) 12 4 from hf 3 (by decide) (by decide), show sl f 16 4 = sl (c 11) 16 4 from hf 4 (by decide) (by decide), show sl f 20 4 = sl (c 11) 20 4 from hf 5 (by decide) (by decide)]; rfl
  · rw [ch_gain, show sl f 0 4 = sl (c 11) 0 4 from hf 0 (by decide) (by decide), show sl f 4 4 = sl (c 11) 4 4 from hf 1 (by decide) (by decide), show sl f 8 4 = sl (c 11) 8 4 from hf 2 (by decide) (by decide), show sl f 16 4 = sl (c 11) 16 4 from hf 4 (by decide) (by decide), show sl f 20 4 = sl (c 11) 20 4 from hf 5 (by decide) (by decide)]; rfl
  · rw [ch_gain, show sl f 0 4 = sl (c 11) 0 4 from hf 0 (by decide) (by decide), show sl f 4 4 = sl (c 11) 4 4 from hf 1 (by decide) (by decide), show sl f 8 4 = sl (c 11) 8 4 from hf 2 (by decide) (by decide), show sl f 12 4 = sl (c 11) 12 4 from hf 3 (by decide) (by decide), show sl f 20 4 = sl (c 11) 20 4 from hf 5 (by decide) (by decide)]; rfl
  · rw [ch_gain, show sl f 0 4 = sl (c 11) 0 4 from hf 0 (by decide) (by decide), show sl f 4 4 = sl (c 11) 4 4 from hf 1 (by decide) (by decide), show sl f 8 4 = sl (c 11) 8 4 from hf 2 (by decide) (by decide), show sl f 12 4 = sl (c 11) 12 4 from hf 3 (by decide) (by decide), show sl f 16 4 = sl (c 11) 16 4 from hf 4 (by decide) (by decide)]; rfl
theorem fd_gain {D : xD} {N : Nat} {c x V : T2} {ln df : Nat → Option Nat} {rest : List va_E} {r i : Nat} {v : Int32} (hr : r < 6) (hi : i < 4) : (encC D N c x V ln df ++ rest).set (76 + r) (iA D 4 (upd (sl (c 11) (4 * r) 4) i v)) = encC D N (tput c 11 (upd (c 11) (4 * r + i) v)) x V ln df ++ rest := by
  rw [sl_in hi]
  exact fd_gain0 (i := 0) hr (fun r2 h1 h2 => sl_out (by omega))
theorem rd_sheet {D : xD} {N : Nat} {c x V : T2} {ln df : Nat → Option Nat} {rest : List va_E} {r : Nat} (hr : r < 4) : (encC D N c x V ln df ++ rest)[118 + r]? = some (iA D 40 (sl (c 31) (40 * r) 40)) := by
  rcases (show r = 0 ∨ r = 1 ∨ r = 2 ∨ r = 3 by omega) with rfl | rfl | rfl | rfl <;> rfl
set_option maxRecDepth 100000 in
theorem ch_sheet {D : xD} {N : Nat} {c x V : T2} {ln df : Nat → Option Nat} {rest : List va_E} {f : Nat → Int32} : encC D N (tput c 31 f) x V ln df ++ rest = (((((encC D N c x V ln df ++ rest).set 118 (iA D 40 (sl f 0 40))).set 119 (iA D 40 (sl f 40 40))).set 120 (iA D 40 (sl f 80 40))).set 121 (iA D 40 (sl f 120 40))) := rfl
set_option maxRecDepth 100000 in
theorem fd_sheet0 {D : xD} {N : Nat} {c x V : T2} {ln df : Nat → Option Nat} {rest : List va_E} {r i : Nat} {f : Nat → Int32} (hr : r < 4) (hf : ∀ r2, r2 < 4 → r2 ≠ r → sl f (40 * r2) 40 = sl (c 31) (40 * r2) 40) : (encC D N c x V ln df ++ rest).set (118 + r) (iA D 40 (sl f (40 * r) 40)) = encC D N (tput c 31 f) x V ln df ++ rest := by
  rcases (show r = 0 ∨ r = 1 ∨ r = 2 ∨ r = 3 by omega) with rfl | rfl | rfl | rfl
  · rw [ch_sheet, show sl f 40 40 = sl (c 31) 40 40 from hf 1 (by decide) (by decide), show sl f 80 40 = sl (c 31) 80 40 from hf 2 (by decide) (by decide), show sl f 120 40 = sl (c 31) 120 40 from hf 3 (by decide) (by decide)]; rfl
  · rw [ch_sheet, show sl f 0 40 = sl (c 31) 0 40 from hf 0 (by decide) (by decide), show sl f 80 40 = sl (c 31) 80 40 from hf 2 (by decide) (by decide), show sl f 120 40 = sl (c 31) 120 40 from hf 3 (by decide) (by decide)]; rfl
  · rw [ch_sheet, show sl f 0 40 = sl (c 31) 0 40 from hf 0 (by decide) (by decide), show sl f 40 40 = sl (c 31) 40 40 from hf 1 (by decide) (by decide), show sl f 120 40 = sl (c 31) 120 40 from hf 3 (by decide) (by decide)]; rfl
  · rw [ch_sheet, show sl f 0 40 = sl (c 31) 0 40 from hf 0 (by decide) (by decide), show sl f 40 40 = sl (c 31) 40 40 from hf 1 (by decide) (by decide), show sl f 80 40 = sl (c 31) 80 40 from hf 2 (by decide) (by decide)]; rfl
theorem fd_sheet {D : xD} {N : Nat} {c x V : T2} {ln df : Nat → Option Nat} {rest : List va_E} {r i : Nat} {v : Int32} (hr : r < 4) (hi : i < 40) : (encC D N c x V ln df ++ rest).set (118 + r) (iA D 40 (upd (sl (c 31) (40 * r) 40) i v)) = encC D N (tput c 31 (upd (c 31) (40 * r + i) v)) x V ln df ++ rest := by
  rw [sl_in hi]
  exact fd_sheet0 (i := 0) hr (fun r2 h1 h2 => sl_out (by omega))
theorem rd_purse {D : xD} {N : Nat} {c x V : T2} {ln df : Nat → Option Nat} {rest : List va_E} {k : Nat} (hk : k < 3) : (encC D N c x V ln df ++ rest)[83 + k]? = some (iA D 6 (c (12 + k))) := by
  rcases (show k = 0 ∨ k = 1 ∨ k = 2 by omega) with rfl | rfl | rfl <;> rfl
theorem lineP_num {P : Nat → Int32} {b s : Nat} (hb : b < 12) (hs : s < 6) : lineP P b s (96 + b) = P (228 + s) := by
  unfold lineP
  simp (disch := omega) only [upd_ne, upd_eq]
def sp_queue (c : T2) (P : Nat → Int32) (b s : Int32) : Int32 × (Nat → Int32) := if ¬ inb c b ∨ ¬ inn s 5 then (-1, P) else if ¬ P (72 + tn b) = 0 then (-3, P) else (P (228 + tn s), lineP P (tn b) (tn s))
theorem d_FG_queue_0 : decode M_FG_queue.2.1 0 = .ok (.aload_n 0, 1) := by decide +kernel
theorem d_FG_queue_1 : decode M_FG_queue.2.1 1 = .ok (.iload_n 1, 1) := by decide +kernel
theorem d_FG_queue_2 : decode M_FG_queue.2.1 2 = .ok (.invokevirtual 82, 3) := by decide +kernel
theorem d_FG_queue_5 : decode M_FG_queue.2.1 5 = .ok (.ifCond .eq 10, 3) := by decide +kernel
theorem d_FG_queue_8 : decode M_FG_queue.2.1 8 = .ok (.iload_n 2, 1) := by decide +kernel
theorem d_FG_queue_9 : decode M_FG_queue.2.1 9 = .ok (.invokestatic 57, 3) := by decide +kernel
theorem d_FG_queue_12 : decode M_FG_queue.2.1 12 = .ok (.ifCond .ne 5, 3) := by decide +kernel
theorem d_FG_queue_15 : decode M_FG_queue.2.1 15 = .ok (.iconst (-1), 1) := by decide +kernel
theorem d_FG_queue_16 : decode M_FG_queue.2.1 16 = .ok (.ireturn, 1) := by decide +kernel
theorem d_FG_queue_17 : decode M_FG_queue.2.1 17 = .ok (.aload_n 0, 1) := by decide +kernel
theorem d_FG_queue_18 : decode M_FG_queue.2.1 18 = .ok (.getfield 19, 3) := by decide +kernel
theorem d_FG_queue_21 : decode M_FG_queue.2.1 21 = .ok (.getfield 85, 3) := by decide +kernel
theorem d_FG_queue_24 : decode M_FG_queue.2.1 24 = .ok (.iload_n 1, 1) := by decide +kernel
theorem d_FG_queue_25 : decode M_FG_queue.2.1 25 = .ok (.aaload, 1) := by decide +kernel
theorem d_FG_queue_26 : decode M_FG_queue.2.1 26 = .ok (.getfield 89, 3) := by decide +kernel
theorem d_FG_queue_29 : decode M_FG_queue.2.1 29 = .ok (.ifCond .eq 6, 3) := by decide +kernel
theorem d_FG_queue_32 : decode M_FG_queue.2.1 32 = .ok (.bipush (-3), 2) := by decide +kernel
theorem d_FG_queue_34 : decode M_FG_queue.2.1 34 = .ok (.ireturn, 1) := by decide +kernel
theorem d_FG_queue_35 : decode M_FG_queue.2.1 35 = .ok (.aload_n 0, 1) := by decide +kernel
theorem d_FG_queue_36 : decode M_FG_queue.2.1 36 = .ok (.getfield 19, 3) := by decide +kernel
theorem d_FG_queue_39 : decode M_FG_queue.2.1 39 = .ok (.iload_n 1, 1) := by decide +kernel
theorem d_FG_queue_40 : decode M_FG_queue.2.1 40 = .ok (.iload_n 2, 1) := by decide +kernel
theorem d_FG_queue_41 : decode M_FG_queue.2.1 41 = .ok (.invokevirtual 94, 3) := by decide +kernel
theorem d_FG_queue_44 : decode M_FG_queue.2.1 44 = .ok (.ireturn, 1) := by decide +kernel
set_option maxHeartbeats 4000000 in
set_option maxRecDepth 100000 in
theorem ok_FG_queue {D : xD} {N : Nat} {l : Launch} {d : Nat} {c x V : T2} {P : Nat → Int32} {ln df : Nat → Option Nat} {rest : List va_E} {K : Option Value → List va_E → Prop} {b : Int32} {s : Int32} {nb : Nat} (hnb : c 32 1 = nI nb) (h12 : nb ≤ 12)  (hK : K (some (.int (sp_queue c P b s).1)) (encC D N c x (va_up V 0 (sp_queue c P b s).2) ln df ++ rest)) : Ok D N l (d + 2) M_FG_queue [.ref (N + 0), .int b, .int s] (encC D N c x (va_up V 0 P) ln df ++ rest) 0 0 K := by
  refine ok_of (L := [(0, _), (1, _), (2, _)]) (by decide) (Nat.le_of_ble_eq_true rfl) rfl ?_
  refine wp_aload_n (q := 1) d_FG_queue_0 rfl rfl ?_
  refine wp_iload_n (q := 2) d_FG_queue_1 rfl rfl ?_
  refine wp_cv1 (q := 5) lk_FG_82 (ro _ _ _) d_FG_queue_2 rfl (Nat.le_of_ble_eq_true rfl) (rfl) rfl (Nat.zero_le _) (Nat.zero_le _) ?_
  refine ok_FG_isBus hnb h12 (fun b1 hb1 e => ?_) (fun hb1 => ?_)
  · subst e
    refine wp_if_eq_f (q := 8) (tgt := 15) d_FG_queue_5 (by decide) rfl (by decide) ?_
    refine wp_iload_n (q := 9) d_FG_queue_8 rfl rfl ?_
    refine wp_cs1 (q := 12) lk_FG_57 (ro _ _ _) d_FG_queue_9 rfl (Nat.le_of_ble_eq_true rfl) (Nat.zero_le _) (Nat.zero_le _) ?_
    refine ok_FG_isStage (fun s1 hs1 e => ?_) (fun hs1 => ?_)
    · subst e
      refine wp_if_ne_t (tgt := 17) d_FG_queue_12 (by decide) (by decide) ?_
      refine wp_aload_n (q := 18) d_FG_queue_17 rfl rfl ?_
      refine wp_get (q := 21) fl_FG_19 d_FG_queue_18 rfl rfl rfl ?_
      refine wp_get (q := 24) fl_FG_85 d_FG_queue_21 rfl (rdO (w := 0) (by decide)) rfl ?_
      refine wp_iload_n (q := 25) d_FG_queue_24 rfl rfl ?_
      refine wp_aldR (q := 26) d_FG_queue_25 rfl (rd4 (w := 0) (by decide)) (by omega) (by decide) (rowsW_at (by omega)) ?_
      refine wp_get (q := 29) fl_FG_89 d_FG_queue_26 rfl (rdR (w := 0) (by decide) (by omega)) rfl ?_
      refine wp_if_eq (q := 32) (tgt := 35) d_FG_queue_29 (by decide) rfl (fun hc_29 => ?_) (fun hc_29 => ?_)
      · refine wp_aload_n (q := 36) d_FG_queue_35 rfl rfl ?_
        refine wp_get (q := 39) fl_FG_19 d_FG_queue_36 rfl rfl rfl ?_
        refine wp_iload_n (q := 40) d_FG_queue_39 rfl rfl ?_
        refine wp_iload_n (q := 41) d_FG_queue_40 rfl rfl ?_
        refine wp_cv2 (q := 44) lk_FG_94 (ro _ _ _) d_FG_queue_41 rfl (Nat.le_of_ble_eq_true rfl) (rdO (w := 0) (by decide)) rfl (Nat.zero_le _) (Nat.zero_le _) ?_
        refine ok_Wd_lineUp (w := 0) (by decide) (by omega) (by omega) ?_
        refine wp_iret d_FG_queue_44 rfl (Nat.le_refl _) (Nat.le_refl _) ?_
        simp only [sp_queue, inn, inb, inm, btw, inb_t hnb h12 hb1, tnt (Nat.lt_of_lt_of_le hb1 h12), inn_t hs1, tnl hs1, hc_29, not_true_eq_false, not_false_eq_true, or_false, false_or, or_true, true_or, and_true, true_and, and_false, false_and, or_self, and_self, if_true, if_false, ite_true, ite_false, eq_self] at hK
        first | exact hK | (simp (disch := omega) only [tput_eq, tput2, tput_ne, upd_eq, upd_ne, ne_eq, va_upeq, va_upne, va_up2, not_true_eq_false, not_false_eq_true, or_false, false_or, or_true, true_or, and_true, true_and, and_false, false_and, or_self, and_self, if_true, if_false, ite_true, ite_false, eq_self] at hK ⊢; exact hK) | (simp (disch := omega) only [tput_eq, tput2, tput_ne, upd_eq, upd_ne, ne_eq, va_upeq, va_upne, va_up2, not_true_eq_false, not_false_eq_true, or_false, false_or, or_true, true_or, and_true, true_and, and_false, false_and, or_self, and_self, if_true, if_false, ite_true, ite_false, eq_self]; exact hK) | (simp (disch := omega) only [tput_eq, tput2, tput_ne, upd_eq, upd_ne, ne_eq, va_upeq, va_upne, va_up2, not_true_eq_false, not_false_eq_true, or_false, false_or, or_true, true_or, and_true, true_and, and_false, false_and, or_self, and_self, if_true, if_false, ite_true, ite_false, eq_self] at hK; exact hK)
      · refine wp_bipush (q := 34) d_FG_queue_32 rfl bp_m3 ?_
        refine wp_iret d_FG_queue_34 rfl (Nat.le_refl _) (Nat.le_refl _) ?_
        simp only [sp_queue, inn, inb, inm, btw, inb_t hnb h12 hb1, tnt (Nat.lt_of_lt_of_le hb1 h12), inn_t hs1, tnl hs1, hc_29, not_true_eq_false, not_false_eq_true, or_false, false_or, or_true, true_or, and_true, true_and, and_false, false_and, or_self, and_self, if_true, if_false, ite_true, ite_false, eq_self] at hK
        first | exact hK | (simp (disch := omega) only [tput_eq, tput2, tput_ne, upd_eq, upd_ne, ne_eq, va_upeq, va_upne, va_up2, not_true_eq_false, not_false_eq_true, or_false, false_or, or_true, true_or, and_true, true_and, and_false, false_and, or_self, and_self, if_true, if_false, ite_true, ite_false, eq_self] at hK ⊢; exact hK) | (simp (disch := omega) only [tput_eq, tput2, tput_ne, upd_eq, upd_ne, ne_eq, va_upeq, va_upne, va_up2, not_true_eq_false, not_false_eq_true, or_false, false_or, or_true, true_or, and_true, true_and, and_false, false_and, or_self, and_self, if_true, if_false, ite_true, ite_false, eq_self]; exact hK) | (simp (disch := omega) only [tput_eq, tput2, tput_ne, upd_eq, upd_ne, ne_eq, va_upeq, va_upne, va_up2, not_true_eq_false, not_false_eq_true, or_false, false_or, or_true, true_or, and_true, true_and, and_false, false_and, or_self, and_self, if_true, if_false, ite_true, ite_false, eq_self] at hK; exact hK)
    · refine wp_if_ne_f (q := 15) (tgt := 17) d_FG_queue_12 (by decide) rfl (by decide) ?_
      refine wp_iconst (q := 16) d_FG_queue_15 rfl ic_m1 ?_
      refine wp_iret d_FG_queue_16 rfl (Nat.le_refl _) (Nat.le_refl _) ?_
      simp only [sp_queue, inn, inb, inm, btw, inb_t hnb h12 hb1, tnt (Nat.lt_of_lt_of_le hb1 h12), hs1, not_true_eq_false, not_false_eq_true, or_false, false_or, or_true, true_or, and_true, true_and, and_false, false_and, or_self, and_self, if_true, if_false, ite_true, ite_false, eq_self] at hK
      first | exact hK | (simp (disch := omega) only [tput_eq, tput2, tput_ne, upd_eq, upd_ne, ne_eq, va_upeq, va_upne, va_up2, not_true_eq_false, not_false_eq_true, or_false, false_or, or_true, true_or, and_true, true_and, and_false, false_and, or_self, and_self, if_true, if_false, ite_true, ite_false, eq_self] at hK ⊢; exact hK) | (simp (disch := omega) only [tput_eq, tput2, tput_ne, upd_eq, upd_ne, ne_eq, va_upeq, va_upne, va_up2, not_true_eq_false, not_false_eq_true, or_false, false_or, or_true, true_or, and_true, true_and, and_false, false_and, or_self, and_self, if_true, if_false, ite_true, ite_false, eq_self]; exact hK) | (simp (disch := omega) only [tput_eq, tput2, tput_ne, upd_eq, upd_ne, ne_eq, va_upeq, va_upne, va_up2, not_true_eq_false, not_false_eq_true, or_false, false_or, or_true, true_or, and_true, true_and, and_false, false_and, or_self, and_self, if_true, if_false, ite_true, ite_false, eq_self] at hK; exact hK)
  · refine wp_if_eq_t (tgt := 15) d_FG_queue_5 (by decide) (by decide) ?_
    refine wp_iconst (q := 16) d_FG_queue_15 rfl ic_m1 ?_
    refine wp_iret d_FG_queue_16 rfl (Nat.le_refl _) (Nat.le_refl _) ?_
    simp only [sp_queue, inn, inb, inm, btw, hb1, not_true_eq_false, not_false_eq_true, or_false, false_or, or_true, true_or, and_true, true_and, and_false, false_and, or_self, and_self, if_true, if_false, ite_true, ite_false, eq_self] at hK
    first | exact hK | (simp (disch := omega) only [tput_eq, tput2, tput_ne, upd_eq, upd_ne, ne_eq, va_upeq, va_upne, va_up2, not_true_eq_false, not_false_eq_true, or_false, false_or, or_true, true_or, and_true, true_and, and_false, false_and, or_self, and_self, if_true, if_false, ite_true, ite_false, eq_self] at hK ⊢; exact hK) | (simp (disch := omega) only [tput_eq, tput2, tput_ne, upd_eq, upd_ne, ne_eq, va_upeq, va_upne, va_up2, not_true_eq_false, not_false_eq_true, or_false, false_or, or_true, true_or, and_true, true_and, and_false, false_and, or_self, and_self, if_true, if_false, ite_true, ite_false, eq_self]; exact hK) | (simp (disch := omega) only [tput_eq, tput2, tput_ne, upd_eq, upd_ne, ne_eq, va_upeq, va_upne, va_up2, not_true_eq_false, not_false_eq_true, or_false, false_or, or_true, true_or, and_true, true_and, and_false, false_and, or_self, and_self, if_true, if_false, ite_true, ite_false, eq_self] at hK; exact hK)
theorem d_Rf_queue_0 : decode M_Rf_queue.2.1 0 = .ok (.aload_n 0, 1) := by decide +kernel
theorem d_Rf_queue_1 : decode M_Rf_queue.2.1 1 = .ok (.iload_n 1, 1) := by decide +kernel
theorem d_Rf_queue_2 : decode M_Rf_queue.2.1 2 = .ok (.invokevirtual 167, 3) := by decide +kernel
theorem d_Rf_queue_5 : decode M_Rf_queue.2.1 5 = .ok (.ifCond .eq 10, 3) := by decide +kernel
theorem d_Rf_queue_8 : decode M_Rf_queue.2.1 8 = .ok (.iload_n 2, 1) := by decide +kernel
theorem d_Rf_queue_9 : decode M_Rf_queue.2.1 9 = .ok (.invokestatic 163, 3) := by decide +kernel
theorem d_Rf_queue_12 : decode M_Rf_queue.2.1 12 = .ok (.ifCond .ne 5, 3) := by decide +kernel
theorem d_Rf_queue_15 : decode M_Rf_queue.2.1 15 = .ok (.iconst (-1), 1) := by decide +kernel
theorem d_Rf_queue_16 : decode M_Rf_queue.2.1 16 = .ok (.ireturn, 1) := by decide +kernel
theorem d_Rf_queue_17 : decode M_Rf_queue.2.1 17 = .ok (.aload_n 0, 1) := by decide +kernel
theorem d_Rf_queue_18 : decode M_Rf_queue.2.1 18 = .ok (.getfield 7, 3) := by decide +kernel
theorem d_Rf_queue_21 : decode M_Rf_queue.2.1 21 = .ok (.bipush 72, 2) := by decide +kernel
theorem d_Rf_queue_23 : decode M_Rf_queue.2.1 23 = .ok (.iload_n 1, 1) := by decide +kernel
theorem d_Rf_queue_24 : decode M_Rf_queue.2.1 24 = .ok (.iadd, 1) := by decide +kernel
theorem d_Rf_queue_25 : decode M_Rf_queue.2.1 25 = .ok (.iaload, 1) := by decide +kernel
theorem d_Rf_queue_26 : decode M_Rf_queue.2.1 26 = .ok (.ifCond .eq 6, 3) := by decide +kernel
theorem d_Rf_queue_29 : decode M_Rf_queue.2.1 29 = .ok (.bipush (-3), 2) := by decide +kernel
theorem d_Rf_queue_31 : decode M_Rf_queue.2.1 31 = .ok (.ireturn, 1) := by decide +kernel
theorem d_Rf_queue_32 : decode M_Rf_queue.2.1 32 = .ok (.aload_n 0, 1) := by decide +kernel
theorem d_Rf_queue_33 : decode M_Rf_queue.2.1 33 = .ok (.iload_n 1, 1) := by decide +kernel
theorem d_Rf_queue_34 : decode M_Rf_queue.2.1 34 = .ok (.iload_n 2, 1) := by decide +kernel
theorem d_Rf_queue_35 : decode M_Rf_queue.2.1 35 = .ok (.invokevirtual 170, 3) := by decide +kernel
theorem d_Rf_queue_38 : decode M_Rf_queue.2.1 38 = .ok (.aload_n 0, 1) := by decide +kernel
theorem d_Rf_queue_39 : decode M_Rf_queue.2.1 39 = .ok (.getfield 7, 3) := by decide +kernel
theorem d_Rf_queue_42 : decode M_Rf_queue.2.1 42 = .ok (.bipush 96, 2) := by decide +kernel
theorem d_Rf_queue_44 : decode M_Rf_queue.2.1 44 = .ok (.iload_n 1, 1) := by decide +kernel
theorem d_Rf_queue_45 : decode M_Rf_queue.2.1 45 = .ok (.iadd, 1) := by decide +kernel
theorem d_Rf_queue_46 : decode M_Rf_queue.2.1 46 = .ok (.iaload, 1) := by decide +kernel
theorem d_Rf_queue_47 : decode M_Rf_queue.2.1 47 = .ok (.ireturn, 1) := by decide +kernel
set_option maxHeartbeats 4000000 in
set_option maxRecDepth 100000 in
theorem ok_Rf_queue {D : xD} {N : Nat} {l : Launch} {d : Nat} {c z : T2} {P Q : Nat → Int32} {rest : List va_E} {K : Option Value → List va_E → Prop} {b : Int32} {s : Int32} {nb : Nat} (hnb : c 32 1 = nI nb) (h12 : nb ≤ 12)  (hK : K (some (.int (sp_queue c P b s).1)) (encR D N c z (sp_queue c P b s).2 Q ++ rest)) : Ok D N l (d + 2) M_Rf_queue [.ref (N + 0), .int b, .int s] (encR D N c z P Q ++ rest) 0 0 K := by
  refine ok_of (L := [(0, _), (1, _), (2, _)]) (by decide) (Nat.le_of_ble_eq_true rfl) rfl ?_
  refine wp_aload_n (q := 1) d_Rf_queue_0 rfl rfl ?_
  refine wp_iload_n (q := 2) d_Rf_queue_1 rfl rfl ?_
  refine wp_cv1 (q := 5) lk_Rf_167 (ro _ _ _) d_Rf_queue_2 rfl (Nat.le_of_ble_eq_true rfl) (rfl) rfl (Nat.zero_le _) (Nat.zero_le _) ?_
  refine ok_Rf_isBus hnb h12 (fun b1 hb1 e => ?_) (fun hb1 => ?_)
  · subst e
    refine wp_if_eq_f (q := 8) (tgt := 15) d_Rf_queue_5 (by decide) rfl (by decide) ?_
    refine wp_iload_n (q := 9) d_Rf_queue_8 rfl rfl ?_
    refine wp_cs1 (q := 12) lk_Rf_163 (ro _ _ _) d_Rf_queue_9 rfl (Nat.le_of_ble_eq_true rfl) (Nat.zero_le _) (Nat.zero_le _) ?_
    refine ok_Rf_isStage (fun s1 hs1 e => ?_) (fun hs1 => ?_)
    · subst e
      refine wp_if_ne_t (tgt := 17) d_Rf_queue_12 (by decide) (by decide) ?_
      refine wp_aload_n (q := 18) d_Rf_queue_17 rfl rfl ?_
      refine wp_get (q := 21) fl_Rf_7 d_Rf_queue_18 rfl rfl rfl ?_
      refine wp_bipush (q := 23) d_Rf_queue_21 rfl bp_72 ?_
      refine wp_iload_n (q := 24) d_Rf_queue_23 rfl rfl ?_
      first | refine wp_iaddN (q := 25) d_Rf_queue_24 rfl ?_ | refine wp_iadd (q := 25) d_Rf_queue_24 rfl ?_
      refine wp_iald (q := 26) d_Rf_queue_25 rfl (rfl) (by omega) (by decide) ?_
      refine wp_if_eq (q := 29) (tgt := 32) d_Rf_queue_26 (by decide) rfl (fun hc_26 => ?_) (fun hc_26 => ?_)
      · refine wp_aload_n (q := 33) d_Rf_queue_32 rfl rfl ?_
        refine wp_iload_n (q := 34) d_Rf_queue_33 rfl rfl ?_
        refine wp_iload_n (q := 35) d_Rf_queue_34 rfl rfl ?_
        refine wp_cv2 (q := 38) lk_Rf_170 (ro _ _ _) d_Rf_queue_35 rfl (Nat.le_of_ble_eq_true rfl) (rfl) rfl (Nat.zero_le _) (Nat.zero_le _) ?_
        refine ok_Rf_queuesAt (by omega) (by omega) ?_
        refine wp_aload_n (q := 39) d_Rf_queue_38 rfl rfl ?_
        refine wp_get (q := 42) fl_Rf_7 d_Rf_queue_39 rfl rfl rfl ?_
        refine wp_bipush (q := 44) d_Rf_queue_42 rfl bp_96 ?_
        refine wp_iload_n (q := 45) d_Rf_queue_44 rfl rfl ?_
        first | refine wp_iaddN (q := 46) d_Rf_queue_45 rfl ?_ | refine wp_iadd (q := 46) d_Rf_queue_45 rfl ?_
        refine wp_iald (q := 47) d_Rf_queue_46 rfl (rfl) (by omega) (by decide) ?_
        refine wp_iret d_Rf_queue_47 rfl (Nat.le_refl _) (Nat.le_refl _) ?_
        simp only [sp_queue, inn, inb, inm, btw, inb_t hnb h12 hb1, tnt (Nat.lt_of_lt_of_le hb1 h12), inn_t hs1, tnl hs1, hc_26, not_true_eq_false, not_false_eq_true, or_false, false_or, or_true, true_or, and_true, true_and, and_false, false_and, or_self, and_self, if_true, if_false, ite_true, ite_false, eq_self] at hK
        first | exact hK | (simp (disch := omega) only [lineP_num (show b1 < 12 by omega) (show s1 < 6 by omega), tput_eq, tput2, tput_ne, upd_eq, upd_ne, ne_eq, va_upeq, va_upne, va_up2, not_true_eq_false, not_false_eq_true, or_false, false_or, or_true, true_or, and_true, true_and, and_false, false_and, or_self, and_self, if_true, if_false, ite_true, ite_false, eq_self] at hK ⊢; exact hK) | (simp (disch := omega) only [lineP_num (show b1 < 12 by omega) (show s1 < 6 by omega), tput_eq, tput2, tput_ne, upd_eq, upd_ne, ne_eq, va_upeq, va_upne, va_up2, not_true_eq_false, not_false_eq_true, or_false, false_or, or_true, true_or, and_true, true_and, and_false, false_and, or_self, and_self, if_true, if_false, ite_true, ite_false, eq_self]; exact hK) | (simp (disch := omega) only [lineP_num (show b1 < 12 by omega) (show s1 < 6 by omega), tput_eq, tput2, tput_ne, upd_eq, upd_ne, ne_eq, va_upeq, va_upne, va_up2, not_true_eq_false, not_false_eq_true, or_false, false_or, or_true, true_or, and_true, true_and, and_false, false_and, or_self, and_self, if_true, if_false, ite_true, ite_false, eq_self] at hK; exact hK)
      · refine wp_bipush (q := 31) d_Rf_queue_29 rfl bp_m3 ?_
        refine wp_iret d_Rf_queue_31 rfl (Nat.le_refl _) (Nat.le_refl _) ?_
        simp only [sp_queue, inn, inb, inm, btw, inb_t hnb h12 hb1, tnt (Nat.lt_of_lt_of_le hb1 h12), inn_t hs1, tnl hs1, hc_26, not_true_eq_false, not_false_eq_true, or_false, false_or, or_true, true_or, and_true, true_and, and_false, false_and, or_self, and_self, if_true, if_false, ite_true, ite_false, eq_self] at hK
        first | exact hK | (simp (disch := omega) only [tput_eq, tput2, tput_ne, upd_eq, upd_ne, ne_eq, va_upeq, va_upne, va_up2, not_true_eq_false, not_false_eq_true, or_false, false_or, or_true, true_or, and_true, true_and, and_false, false_and, or_self, and_self, if_true, if_false, ite_true, ite_false, eq_self] at hK ⊢; exact hK) | (simp (disch := omega) only [tput_eq, tput2, tput_ne, upd_eq, upd_ne, ne_eq, va_upeq, va_upne, va_up2, not_true_eq_false, not_false_eq_true, or_false, false_or, or_true, true_or, and_true, true_and, and_false, false_and, or_self, and_self, if_true, if_false, ite_true, ite_false, eq_self]; exact hK) | (simp (disch := omega) only [tput_eq, tput2, tput_ne, upd_eq, upd_ne, ne_eq, va_upeq, va_upne, va_up2, not_true_eq_false, not_false_eq_true, or_false, false_or, or_true, true_or, and_true, true_and, and_false, false_and, or_self, and_self, if_true, if_false, ite_true, ite_false, eq_self] at hK; exact hK)
    · refine wp_if_ne_f (q := 15) (tgt := 17) d_Rf_queue_12 (by decide) rfl (by decide) ?_
      refine wp_iconst (q := 16) d_Rf_queue_15 rfl ic_m1 ?_
      refine wp_iret d_Rf_queue_16 rfl (Nat.le_refl _) (Nat.le_refl _) ?_
      simp only [sp_queue, inn, inb, inm, btw, inb_t hnb h12 hb1, tnt (Nat.lt_of_lt_of_le hb1 h12), hs1, not_true_eq_false, not_false_eq_true, or_false, false_or, or_true, true_or, and_true, true_and, and_false, false_and, or_self, and_self, if_true, if_false, ite_true, ite_false, eq_self] at hK
      first | exact hK | (simp (disch := omega) only [tput_eq, tput2, tput_ne, upd_eq, upd_ne, ne_eq, va_upeq, va_upne, va_up2, not_true_eq_false, not_false_eq_true, or_false, false_or, or_true, true_or, and_true, true_and, and_false, false_and, or_self, and_self, if_true, if_false, ite_true, ite_false, eq_self] at hK ⊢; exact hK) | (simp (disch := omega) only [tput_eq, tput2, tput_ne, upd_eq, upd_ne, ne_eq, va_upeq, va_upne, va_up2, not_true_eq_false, not_false_eq_true, or_false, false_or, or_true, true_or, and_true, true_and, and_false, false_and, or_self, and_self, if_true, if_false, ite_true, ite_false, eq_self]; exact hK) | (simp (disch := omega) only [tput_eq, tput2, tput_ne, upd_eq, upd_ne, ne_eq, va_upeq, va_upne, va_up2, not_true_eq_false, not_false_eq_true, or_false, false_or, or_true, true_or, and_true, true_and, and_false, false_and, or_self, and_self, if_true, if_false, ite_true, ite_false, eq_self] at hK; exact hK)
  · refine wp_if_eq_t (tgt := 15) d_Rf_queue_5 (by decide) (by decide) ?_
    refine wp_iconst (q := 16) d_Rf_queue_15 rfl ic_m1 ?_
    refine wp_iret d_Rf_queue_16 rfl (Nat.le_refl _) (Nat.le_refl _) ?_
    simp only [sp_queue, inn, inb, inm, btw, hb1, not_true_eq_false, not_false_eq_true, or_false, false_or, or_true, true_or, and_true, true_and, and_false, false_and, or_self, and_self, if_true, if_false, ite_true, ite_false, eq_self] at hK
    first | exact hK | (simp (disch := omega) only [tput_eq, tput2, tput_ne, upd_eq, upd_ne, ne_eq, va_upeq, va_upne, va_up2, not_true_eq_false, not_false_eq_true, or_false, false_or, or_true, true_or, and_true, true_and, and_false, false_and, or_self, and_self, if_true, if_false, ite_true, ite_false, eq_self] at hK ⊢; exact hK) | (simp (disch := omega) only [tput_eq, tput2, tput_ne, upd_eq, upd_ne, ne_eq, va_upeq, va_upne, va_up2, not_true_eq_false, not_false_eq_true, or_false, false_or, or_true, true_or, and_true, true_and, and_false, false_and, or_self, and_self, if_true, if_false, ite_true, ite_false, eq_self]; exact hK) | (simp (disch := omega) only [tput_eq, tput2, tput_ne, upd_eq, upd_ne, ne_eq, va_upeq, va_upne, va_up2, not_true_eq_false, not_false_eq_true, or_false, false_or, or_true, true_or, and_true, true_and, and_false, false_and, or_self, and_self, if_true, if_false, ite_true, ite_false, eq_self] at hK; exact hK)
def sp_rest (c : T2) (P : Nat → Int32) (b : Int32) : Int32 × (Nat → Int32) := if ¬ inb c b then (-1, P) else if ¬ P (72 + tn b) = nI 1 then (-3, P) else (P (84 + tn b), upd P (72 + tn b) (nI 0))
theorem d_FG_rest_0 : decode M_FG_rest.2.1 0 = .ok (.aload_n 0, 1) := by decide +kernel
theorem d_FG_rest_1 : decode M_FG_rest.2.1 1 = .ok (.iload_n 1, 1) := by decide +kernel
theorem d_FG_rest_2 : decode M_FG_rest.2.1 2 = .ok (.invokevirtual 82, 3) := by decide +kernel
theorem d_FG_rest_5 : decode M_FG_rest.2.1 5 = .ok (.ifCond .ne 5, 3) := by decide +kernel
theorem d_FG_rest_8 : decode M_FG_rest.2.1 8 = .ok (.iconst (-1), 1) := by decide +kernel
theorem d_FG_rest_9 : decode M_FG_rest.2.1 9 = .ok (.ireturn, 1) := by decide +kernel
theorem d_FG_rest_10 : decode M_FG_rest.2.1 10 = .ok (.aload_n 0, 1) := by decide +kernel
theorem d_FG_rest_11 : decode M_FG_rest.2.1 11 = .ok (.getfield 19, 3) := by decide +kernel
theorem d_FG_rest_14 : decode M_FG_rest.2.1 14 = .ok (.getfield 85, 3) := by decide +kernel
theorem d_FG_rest_17 : decode M_FG_rest.2.1 17 = .ok (.iload_n 1, 1) := by decide +kernel
theorem d_FG_rest_18 : decode M_FG_rest.2.1 18 = .ok (.aaload, 1) := by decide +kernel
theorem d_FG_rest_19 : decode M_FG_rest.2.1 19 = .ok (.astore_n 2, 1) := by decide +kernel
theorem d_FG_rest_20 : decode M_FG_rest.2.1 20 = .ok (.aload_n 2, 1) := by decide +kernel
theorem d_FG_rest_21 : decode M_FG_rest.2.1 21 = .ok (.getfield 89, 3) := by decide +kernel
theorem d_FG_rest_24 : decode M_FG_rest.2.1 24 = .ok (.iconst 1, 1) := by decide +kernel
theorem d_FG_rest_25 : decode M_FG_rest.2.1 25 = .ok (.if_icmp .eq 6, 3) := by decide +kernel
theorem d_FG_rest_28 : decode M_FG_rest.2.1 28 = .ok (.bipush (-3), 2) := by decide +kernel
theorem d_FG_rest_30 : decode M_FG_rest.2.1 30 = .ok (.ireturn, 1) := by decide +kernel
theorem d_FG_rest_31 : decode M_FG_rest.2.1 31 = .ok (.aload_n 2, 1) := by decide +kernel
theorem d_FG_rest_32 : decode M_FG_rest.2.1 32 = .ok (.iconst 0, 1) := by decide +kernel
theorem d_FG_rest_33 : decode M_FG_rest.2.1 33 = .ok (.putfield 89, 3) := by decide +kernel
theorem d_FG_rest_36 : decode M_FG_rest.2.1 36 = .ok (.aload_n 2, 1) := by decide +kernel
theorem d_FG_rest_37 : decode M_FG_rest.2.1 37 = .ok (.getfield 98, 3) := by decide +kernel
theorem d_FG_rest_40 : decode M_FG_rest.2.1 40 = .ok (.ireturn, 1) := by decide +kernel
set_option maxHeartbeats 4000000 in
set_option maxRecDepth 100000 in
theorem ok_FG_rest {D : xD} {N : Nat} {l : Launch} {d : Nat} {c x V : T2} {P : Nat → Int32} {ln df : Nat → Option Nat} {rest : List va_E} {K : Option Value → List va_E → Prop} {b : Int32} {nb : Nat} (hnb : c 32 1 = nI nb) (h12 : nb ≤ 12)  (hK : K (some (.int (sp_rest c P b).1)) (encC D N c x (va_up V 0 (sp_rest c P b).2) ln df ++ rest)) : Ok D N l (d + 2) M_FG_rest [.ref (N + 0), .int b] (encC D N c x (va_up V 0 P) ln df ++ rest) 0 0 K := by
  refine ok_of (L := [(0, _), (1, _)]) (by decide) (Nat.le_of_ble_eq_true rfl) rfl ?_
  refine wp_aload_n (q := 1) d_FG_rest_0 rfl rfl ?_
  refine wp_iload_n (q := 2) d_FG_rest_1 rfl rfl ?_
  refine wp_cv1 (q := 5) lk_FG_82 (ro _ _ _) d_FG_rest_2 rfl (Nat.le_of_ble_eq_true rfl) (rfl) rfl (Nat.zero_le _) (Nat.zero_le _) ?_
  refine ok_FG_isBus hnb h12 (fun b1 hb1 e => ?_) (fun hb1 => ?_)
  · subst e
    refine wp_if_ne_t (tgt := 10) d_FG_rest_5 (by decide) (by decide) ?_
    refine wp_aload_n (q := 11) d_FG_rest_10 rfl rfl ?_
    refine wp_get (q := 14) fl_FG_19 d_FG_rest_11 rfl rfl rfl ?_
    refine wp_get (q := 17) fl_FG_85 d_FG_rest_14 rfl (rdO (w := 0) (by decide)) rfl ?_
    refine wp_iload_n (q := 18) d_FG_rest_17 rfl rfl ?_
    refine wp_aldR (q := 19) d_FG_rest_18 rfl (rd4 (w := 0) (by decide)) (by omega) (by decide) (rowsW_at (by omega)) ?_
    refine wp_astore_n (q := 20) (L2 := [(2, _), (0, _), (1, _)]) d_FG_rest_19 rfl (by decide) rfl ?_
    refine wp_aload_n (q := 21) d_FG_rest_20 rfl rfl ?_
    refine wp_get (q := 24) fl_FG_89 d_FG_rest_21 rfl (rdR (w := 0) (by decide) (by omega)) rfl ?_
    refine wp_iconst (q := 25) d_FG_rest_24 rfl ic_1 ?_
    refine wp_icmp_eq (q := 28) (tgt := 31) d_FG_rest_25 (by decide) rfl (fun hc_25 => ?_) (fun hc_25 => ?_)
    · refine wp_aload_n (q := 32) d_FG_rest_31 rfl rfl ?_
      refine wp_iconst (q := 33) d_FG_rest_32 rfl ic_0 ?_
      refine wp_put (q := 36) fl_FG_89 d_FG_rest_33 rfl (rdR (w := 0) (by decide) (by omega)) (Nat.le_of_ble_eq_true rfl) rfl rfl (fdw (w := 0) (by decide) (by omega) (ws_r0 (by omega))) ?_
      refine wp_aload_n (q := 37) d_FG_rest_36 rfl rfl ?_
      refine wp_get (q := 40) fl_FG_98 d_FG_rest_37 rfl (rdR (w := 0) (by decide) (by omega)) rfl ?_
      refine wp_iret d_FG_rest_40 rfl (Nat.le_refl _) (Nat.le_refl _) ?_
      simp only [sp_rest, inn, inb, inm, btw, inb_t hnb h12 hb1, tnt (Nat.lt_of_lt_of_le hb1 h12), hc_25, not_true_eq_false, not_false_eq_true, or_false, false_or, or_true, true_or, and_true, true_and, and_false, false_and, or_self, and_self, if_true, if_false, ite_true, ite_false, eq_self] at hK
      first | exact hK | (simp (disch := omega) only [tput_eq, tput2, tput_ne, upd_eq, upd_ne, ne_eq, va_upeq, va_upne, va_up2, not_true_eq_false, not_false_eq_true, or_false, false_or, or_true, true_or, and_true, true_and, and_false, false_and, or_self, and_self, if_true, if_false, ite_true, ite_false, eq_self] at hK ⊢; exact hK) | (simp (disch := omega) only [tput_eq, tput2, tput_ne, upd_eq, upd_ne, ne_eq, va_upeq, va_upne, va_up2, not_true_eq_false, not_false_eq_true, or_false, false_or, or_true, true_or, and_true, true_and, and_false, false_and, or_self, and_self, if_true, if_false, ite_true, ite_false, eq_self]; exact hK) | (simp (disch := omega) only [tput_eq, tput2, tput_ne, upd_eq, upd_ne, ne_eq, va_upeq, va_upne, va_up2, not_true_eq_false, not_false_eq_true, or_false, false_or, or_true, true_or, and_true, true_and, and_false, false_and, or_self, and_self, if_true, if_false, ite_true, ite_false, eq_self] at hK; exact hK)
    · refine wp_bipush (q := 30) d_FG_rest_28 rfl bp_m3 ?_
      refine wp_iret d_FG_rest_30 rfl (Nat.le_refl _) (Nat.le_refl _) ?_
      simp only [sp_rest, inn, inb, inm, btw, inb_t hnb h12 hb1, tnt (Nat.lt_of_lt_of_le hb1 h12), hc_25, not_true_eq_false, not_false_eq_true, or_false, false_or, or_true, true_or, and_true, true_and, and_false, false_and, or_self, and_self, if_true, if_false, ite_true, ite_false, eq_self] at hK
      first | exact hK | (simp (disch := omega) only [tput_eq, tput2, tput_ne, upd_eq, upd_ne, ne_eq, va_upeq, va_upne, va_up2, not_true_eq_false, not_false_eq_true, or_false, false_or, or_true, true_or, and_true, true_and, and_false, false_and, or_self, and_self, if_true, if_false, ite_true, ite_false, eq_self] at hK ⊢; exact hK) | (simp (disch := omega) only [tput_eq, tput2, tput_ne, upd_eq, upd_ne, ne_eq, va_upeq, va_upne, va_up2, not_true_eq_false, not_false_eq_true, or_false, false_or, or_true, true_or, and_true, true_and, and_false, false_and, or_self, and_self, if_true, if_false, ite_true, ite_false, eq_self]; exact hK) | (simp (disch := omega) only [tput_eq, tput2, tput_ne, upd_eq, upd_ne, ne_eq, va_upeq, va_upne, va_up2, not_true_eq_false, not_false_eq_true, or_false, false_or, or_true, true_or, and_true, true_and, and_false, false_and, or_self, and_self, if_true, if_false, ite_true, ite_false, eq_self] at hK; exact hK)
  · refine wp_if_ne_f (q := 8) (tgt := 10) d_FG_rest_5 (by decide) rfl (by decide) ?_
    refine wp_iconst (q := 9) d_FG_rest_8 rfl ic_m1 ?_
    refine wp_iret d_FG_rest_9 rfl (Nat.le_refl _) (Nat.le_refl _) ?_
    simp only [sp_rest, inn, inb, inm, btw, hb1, not_true_eq_false, not_false_eq_true, or_false, false_or, or_true, true_or, and_true, true_and, and_false, false_and, or_self, and_self, if_true, if_false, ite_true, ite_false, eq_self] at hK
    first | exact hK | (simp (disch := omega) only [tput_eq, tput2, tput_ne, upd_eq, upd_ne, ne_eq, va_upeq, va_upne, va_up2, not_true_eq_false, not_false_eq_true, or_false, false_or, or_true, true_or, and_true, true_and, and_false, false_and, or_self, and_self, if_true, if_false, ite_true, ite_false, eq_self] at hK ⊢; exact hK) | (simp (disch := omega) only [tput_eq, tput2, tput_ne, upd_eq, upd_ne, ne_eq, va_upeq, va_upne, va_up2, not_true_eq_false, not_false_eq_true, or_false, false_or, or_true, true_or, and_true, true_and, and_false, false_and, or_self, and_self, if_true, if_false, ite_true, ite_false, eq_self]; exact hK) | (simp (disch := omega) only [tput_eq, tput2, tput_ne, upd_eq, upd_ne, ne_eq, va_upeq, va_upne, va_up2, not_true_eq_false, not_false_eq_true, or_false, false_or, or_true, true_or, and_true, true_and, and_false, false_and, or_self, and_self, if_true, if_false, ite_true, ite_false, eq_self] at hK; exact hK)
theorem d_Rf_rest_0 : decode M_Rf_rest.2.1 0 = .ok (.aload_n 0, 1) := by decide +kernel
theorem d_Rf_rest_1 : decode M_Rf_rest.2.1 1 = .ok (.iload_n 1, 1) := by decide +kernel
theorem d_Rf_rest_2 : decode M_Rf_rest.2.1 2 = .ok (.invokevirtual 167, 3) := by decide +kernel
theorem d_Rf_rest_5 : decode M_Rf_rest.2.1 5 = .ok (.ifCond .ne 5, 3) := by decide +kernel
theorem d_Rf_rest_8 : decode M_Rf_rest.2.1 8 = .ok (.iconst (-1), 1) := by decide +kernel
theorem d_Rf_rest_9 : decode M_Rf_rest.2.1 9 = .ok (.ireturn, 1) := by decide +kernel
theorem d_Rf_rest_10 : decode M_Rf_rest.2.1 10 = .ok (.aload_n 0, 1) := by decide +kernel
theorem d_Rf_rest_11 : decode M_Rf_rest.2.1 11 = .ok (.getfield 7, 3) := by decide +kernel
theorem d_Rf_rest_14 : decode M_Rf_rest.2.1 14 = .ok (.bipush 72, 2) := by decide +kernel
theorem d_Rf_rest_16 : decode M_Rf_rest.2.1 16 = .ok (.iload_n 1, 1) := by decide +kernel
theorem d_Rf_rest_17 : decode M_Rf_rest.2.1 17 = .ok (.iadd, 1) := by decide +kernel
theorem d_Rf_rest_18 : decode M_Rf_rest.2.1 18 = .ok (.iaload, 1) := by decide +kernel
theorem d_Rf_rest_19 : decode M_Rf_rest.2.1 19 = .ok (.iconst 1, 1) := by decide +kernel
theorem d_Rf_rest_20 : decode M_Rf_rest.2.1 20 = .ok (.if_icmp .eq 6, 3) := by decide +kernel
theorem d_Rf_rest_23 : decode M_Rf_rest.2.1 23 = .ok (.bipush (-3), 2) := by decide +kernel
theorem d_Rf_rest_25 : decode M_Rf_rest.2.1 25 = .ok (.ireturn, 1) := by decide +kernel
theorem d_Rf_rest_26 : decode M_Rf_rest.2.1 26 = .ok (.aload_n 0, 1) := by decide +kernel
theorem d_Rf_rest_27 : decode M_Rf_rest.2.1 27 = .ok (.getfield 7, 3) := by decide +kernel
theorem d_Rf_rest_30 : decode M_Rf_rest.2.1 30 = .ok (.bipush 72, 2) := by decide +kernel
theorem d_Rf_rest_32 : decode M_Rf_rest.2.1 32 = .ok (.iload_n 1, 1) := by decide +kernel
theorem d_Rf_rest_33 : decode M_Rf_rest.2.1 33 = .ok (.iadd, 1) := by decide +kernel
theorem d_Rf_rest_34 : decode M_Rf_rest.2.1 34 = .ok (.iconst 0, 1) := by decide +kernel
theorem d_Rf_rest_35 : decode M_Rf_rest.2.1 35 = .ok (.iastore, 1) := by decide +kernel
theorem d_Rf_rest_36 : decode M_Rf_rest.2.1 36 = .ok (.aload_n 0, 1) := by decide +kernel
theorem d_Rf_rest_37 : decode M_Rf_rest.2.1 37 = .ok (.getfield 7, 3) := by decide +kernel
theorem d_Rf_rest_40 : decode M_Rf_rest.2.1 40 = .ok (.bipush 84, 2) := by decide +kernel
theorem d_Rf_rest_42 : decode M_Rf_rest.2.1 42 = .ok (.iload_n 1, 1) := by decide +kernel
theorem d_Rf_rest_43 : decode M_Rf_rest.2.1 43 = .ok (.iadd, 1) := by decide +kernel
theorem d_Rf_rest_44 : decode M_Rf_rest.2.1 44 = .ok (.iaload, 1) := by decide +kernel
theorem d_Rf_rest_45 : decode M_Rf_rest.2.1 45 = .ok (.ireturn, 1) := by decide +kernel
set_option maxHeartbeats 4000000 in
set_option maxRecDepth 100000 in
theorem ok_Rf_rest {D : xD} {N : Nat} {l : Launch} {d : Nat} {c z : T2} {P Q : Nat → Int32} {rest : List va_E} {K : Option Value → List va_E → Prop} {b : Int32} {nb : Nat} (hnb : c 32 1 = nI nb) (h12 : nb ≤ 12)  (hK : K (some (.int (sp_rest c P b).1)) (encR D N c z (sp_rest c P b).2 Q ++ rest)) : Ok D N l (d + 2) M_Rf_rest [.ref (N + 0), .int b] (encR D N c z P Q ++ rest) 0 0 K := by
  refine ok_of (L := [(0, _), (1, _)]) (by decide) (Nat.le_of_ble_eq_true rfl) rfl ?_
  refine wp_aload_n (q := 1) d_Rf_rest_0 rfl rfl ?_
  refine wp_iload_n (q := 2) d_Rf_rest_1 rfl rfl ?_
  refine wp_cv1 (q := 5) lk_Rf_167 (ro _ _ _) d_Rf_rest_2 rfl (Nat.le_of_ble_eq_true rfl) (rfl) rfl (Nat.zero_le _) (Nat.zero_le _) ?_
  refine ok_Rf_isBus hnb h12 (fun b1 hb1 e => ?_) (fun hb1 => ?_)
  · subst e
    refine wp_if_ne_t (tgt := 10) d_Rf_rest_5 (by decide) (by decide) ?_
    refine wp_aload_n (q := 11) d_Rf_rest_10 rfl rfl ?_
    refine wp_get (q := 14) fl_Rf_7 d_Rf_rest_11 rfl rfl rfl ?_
    refine wp_bipush (q := 16) d_Rf_rest_14 rfl bp_72 ?_
    refine wp_iload_n (q := 17) d_Rf_rest_16 rfl rfl ?_
    first | refine wp_iaddN (q := 18) d_Rf_rest_17 rfl ?_ | refine wp_iadd (q := 18) d_Rf_rest_17 rfl ?_
    refine wp_iald (q := 19) d_Rf_rest_18 rfl (rfl) (by omega) (by decide) ?_
    refine wp_iconst (q := 20) d_Rf_rest_19 rfl ic_1 ?_
    refine wp_icmp_eq (q := 23) (tgt := 26) d_Rf_rest_20 (by decide) rfl (fun hc_20 => ?_) (fun hc_20 => ?_)
    · refine wp_aload_n (q := 27) d_Rf_rest_26 rfl rfl ?_
      refine wp_get (q := 30) fl_Rf_7 d_Rf_rest_27 rfl rfl rfl ?_
      refine wp_bipush (q := 32) d_Rf_rest_30 rfl bp_72 ?_
      refine wp_iload_n (q := 33) d_Rf_rest_32 rfl rfl ?_
      first | refine wp_iaddN (q := 34) d_Rf_rest_33 rfl ?_ | refine wp_iadd (q := 34) d_Rf_rest_33 rfl ?_
      refine wp_iconst (q := 35) d_Rf_rest_34 rfl ic_0 ?_
      refine wp_iast (q := 36) d_Rf_rest_35 rfl (rfl) (by omega) (by decide) (fr_P) ?_
      refine wp_aload_n (q := 37) d_Rf_rest_36 rfl rfl ?_
      refine wp_get (q := 40) fl_Rf_7 d_Rf_rest_37 rfl rfl rfl ?_
      refine wp_bipush (q := 42) d_Rf_rest_40 rfl bp_84 ?_
      refine wp_iload_n (q := 43) d_Rf_rest_42 rfl rfl ?_
      first | refine wp_iaddN (q := 44) d_Rf_rest_43 rfl ?_ | refine wp_iadd (q := 44) d_Rf_rest_43 rfl ?_
      refine wp_iald (q := 45) d_Rf_rest_44 rfl (rfl) (by omega) (by decide) ?_
      refine wp_iret d_Rf_rest_45 rfl (Nat.le_refl _) (Nat.le_refl _) ?_
      simp only [sp_rest, inn, inb, inm, btw, inb_t hnb h12 hb1, tnt (Nat.lt_of_lt_of_le hb1 h12), hc_20, not_true_eq_false, not_false_eq_true, or_false, false_or, or_true, true_or, and_true, true_and, and_false, false_and, or_self, and_self, if_true, if_false, ite_true, ite_false, eq_self] at hK
      first | exact hK | (simp (disch := omega) only [tput_eq, tput2, tput_ne, upd_eq, upd_ne, ne_eq, va_upeq, va_upne, va_up2, not_true_eq_false, not_false_eq_true, or_false, false_or, or_true, true_or, and_true, true_and, and_false, false_and, or_self, and_self, if_true, if_false, ite_true, ite_false, eq_self] at hK ⊢; exact hK) | (simp (disch := omega) only [tput_eq, tput2, tput_ne, upd_eq, upd_ne, ne_eq, va_upeq, va_upne, va_up2, not_true_eq_false, not_false_eq_true, or_false, false_or, or_true, true_or, and_true, true_and, and_false, false_and, or_self, and_self, if_true, if_false, ite_true, ite_false, eq_self]; exact hK) | (simp (disch := omega) only [tput_eq, tput2, tput_ne, upd_eq, upd_ne, ne_eq, va_upeq, va_upne, va_up2, not_true_eq_false, not_false_eq_true, or_false, false_or, or_true, true_or, and_true, true_and, and_false, false_and, or_self, and_self, if_true, if_false, ite_true, ite_false, eq_self] at hK; exact hK)
    · refine wp_bipush (q := 25) d_Rf_rest_23 rfl bp_m3 ?_
      refine wp_iret d_Rf_rest_25 rfl (Nat.le_refl _) (Nat.le_refl _) ?_
      simp only [sp_rest, inn, inb, inm, btw, inb_t hnb h12 hb1, tnt (Nat.lt_of_lt_of_le hb1 h12), hc_20, not_true_eq_false, not_false_eq_true, or_false, false_or, or_true, true_or, and_true, true_and, and_false, false_and, or_self, and_self, if_true, if_false, ite_true, ite_false, eq_self] at hK
      first | exact hK | (simp (disch := omega) only [tput_eq, tput2, tput_ne, upd_eq, upd_ne, ne_eq, va_upeq, va_upne, va_up2, not_true_eq_false, not_false_eq_true, or_false, false_or, or_true, true_or, and_true, true_and, and_false, false_and, or_self, and_self, if_true, if_false, ite_true, ite_false, eq_self] at hK ⊢; exact hK) | (simp (disch := omega) only [tput_eq, tput2, tput_ne, upd_eq, upd_ne, ne_eq, va_upeq, va_upne, va_up2, not_true_eq_false, not_false_eq_true, or_false, false_or, or_true, true_or, and_true, true_and, and_false, false_and, or_self, and_self, if_true, if_false, ite_true, ite_false, eq_self]; exact hK) | (simp (disch := omega) only [tput_eq, tput2, tput_ne, upd_eq, upd_ne, ne_eq, va_upeq, va_upne, va_up2, not_true_eq_false, not_false_eq_true, or_false, false_or, or_true, true_or, and_true, true_and, and_false, false_and, or_self, and_self, if_true, if_false, ite_true, ite_false, eq_self] at hK; exact hK)
  · refine wp_if_ne_f (q := 8) (tgt := 10) d_Rf_rest_5 (by decide) rfl (by decide) ?_
    refine wp_iconst (q := 9) d_Rf_rest_8 rfl ic_m1 ?_
    refine wp_iret d_Rf_rest_9 rfl (Nat.le_refl _) (Nat.le_refl _) ?_
    simp only [sp_rest, inn, inb, inm, btw, hb1, not_true_eq_false, not_false_eq_true, or_false, false_or, or_true, true_or, and_true, true_and, and_false, false_and, or_self, and_self, if_true, if_false, ite_true, ite_false, eq_self] at hK
    first | exact hK | (simp (disch := omega) only [tput_eq, tput2, tput_ne, upd_eq, upd_ne, ne_eq, va_upeq, va_upne, va_up2, not_true_eq_false, not_false_eq_true, or_false, false_or, or_true, true_or, and_true, true_and, and_false, false_and, or_self, and_self, if_true, if_false, ite_true, ite_false, eq_self] at hK ⊢; exact hK) | (simp (disch := omega) only [tput_eq, tput2, tput_ne, upd_eq, upd_ne, ne_eq, va_upeq, va_upne, va_up2, not_true_eq_false, not_false_eq_true, or_false, false_or, or_true, true_or, and_true, true_and, and_false, false_and, or_self, and_self, if_true, if_false, ite_true, ite_false, eq_self]; exact hK) | (simp (disch := omega) only [tput_eq, tput2, tput_ne, upd_eq, upd_ne, ne_eq, va_upeq, va_upne, va_up2, not_true_eq_false, not_false_eq_true, or_false, false_or, or_true, true_or, and_true, true_and, and_false, false_and, or_self, and_self, if_true, if_false, ite_true, ite_false, eq_self] at hK; exact hK)
def sp_hold (c : T2) (P : Nat → Int32) (b n : Int32) : Int32 × (Nat → Int32) := if ¬ inb c b then (-1, P) else if ¬ btw (nI 1) n (nI 600) then (-2, P) else if ¬ P (72 + tn b) = nI 3 then (-3, P) else (P (132 + tn b), upd (upd P (72 + tn b) (nI 4)) (144 + tn b) (P 234 + n))
theorem d_FG_hold_0 : decode M_FG_hold.2.1 0 = .ok (.aload_n 0, 1) := by decide +kernel
theorem d_FG_hold_1 : decode M_FG_hold.2.1 1 = .ok (.iload_n 1, 1) := by decide +kernel
theorem d_FG_hold_2 : decode M_FG_hold.2.1 2 = .ok (.invokevirtual 82, 3) := by decide +kernel
theorem d_FG_hold_5 : decode M_FG_hold.2.1 5 = .ok (.ifCond .ne 5, 3) := by decide +kernel
theorem d_FG_hold_8 : decode M_FG_hold.2.1 8 = .ok (.iconst (-1), 1) := by decide +kernel
theorem d_FG_hold_9 : decode M_FG_hold.2.1 9 = .ok (.ireturn, 1) := by decide +kernel
theorem d_FG_hold_10 : decode M_FG_hold.2.1 10 = .ok (.iload_n 2, 1) := by decide +kernel
theorem d_FG_hold_11 : decode M_FG_hold.2.1 11 = .ok (.iconst 1, 1) := by decide +kernel
theorem d_FG_hold_12 : decode M_FG_hold.2.1 12 = .ok (.sipush 600, 3) := by decide +kernel
theorem d_FG_hold_15 : decode M_FG_hold.2.1 15 = .ok (.invokestatic 61, 3) := by decide +kernel
theorem d_FG_hold_18 : decode M_FG_hold.2.1 18 = .ok (.ifCond .ne 6, 3) := by decide +kernel
theorem d_FG_hold_21 : decode M_FG_hold.2.1 21 = .ok (.bipush (-2), 2) := by decide +kernel
theorem d_FG_hold_23 : decode M_FG_hold.2.1 23 = .ok (.ireturn, 1) := by decide +kernel
theorem d_FG_hold_24 : decode M_FG_hold.2.1 24 = .ok (.aload_n 0, 1) := by decide +kernel
theorem d_FG_hold_25 : decode M_FG_hold.2.1 25 = .ok (.getfield 19, 3) := by decide +kernel
theorem d_FG_hold_28 : decode M_FG_hold.2.1 28 = .ok (.getfield 85, 3) := by decide +kernel
theorem d_FG_hold_31 : decode M_FG_hold.2.1 31 = .ok (.iload_n 1, 1) := by decide +kernel
theorem d_FG_hold_32 : decode M_FG_hold.2.1 32 = .ok (.aaload, 1) := by decide +kernel
theorem d_FG_hold_33 : decode M_FG_hold.2.1 33 = .ok (.astore_n 3, 1) := by decide +kernel
theorem d_FG_hold_34 : decode M_FG_hold.2.1 34 = .ok (.aload_n 3, 1) := by decide +kernel
theorem d_FG_hold_35 : decode M_FG_hold.2.1 35 = .ok (.getfield 89, 3) := by decide +kernel
theorem d_FG_hold_38 : decode M_FG_hold.2.1 38 = .ok (.iconst 3, 1) := by decide +kernel
theorem d_FG_hold_39 : decode M_FG_hold.2.1 39 = .ok (.if_icmp .eq 6, 3) := by decide +kernel
theorem d_FG_hold_42 : decode M_FG_hold.2.1 42 = .ok (.bipush (-3), 2) := by decide +kernel
theorem d_FG_hold_44 : decode M_FG_hold.2.1 44 = .ok (.ireturn, 1) := by decide +kernel
theorem d_FG_hold_45 : decode M_FG_hold.2.1 45 = .ok (.aload_n 3, 1) := by decide +kernel
theorem d_FG_hold_46 : decode M_FG_hold.2.1 46 = .ok (.iconst 4, 1) := by decide +kernel
theorem d_FG_hold_47 : decode M_FG_hold.2.1 47 = .ok (.putfield 89, 3) := by decide +kernel
theorem d_FG_hold_50 : decode M_FG_hold.2.1 50 = .ok (.aload_n 3, 1) := by decide +kernel
theorem d_FG_hold_51 : decode M_FG_hold.2.1 51 = .ok (.aload_n 0, 1) := by decide +kernel
theorem d_FG_hold_52 : decode M_FG_hold.2.1 52 = .ok (.getfield 19, 3) := by decide +kernel
theorem d_FG_hold_55 : decode M_FG_hold.2.1 55 = .ok (.getfield 111, 3) := by decide +kernel
theorem d_FG_hold_58 : decode M_FG_hold.2.1 58 = .ok (.iload_n 2, 1) := by decide +kernel
theorem d_FG_hold_59 : decode M_FG_hold.2.1 59 = .ok (.iadd, 1) := by decide +kernel
theorem d_FG_hold_60 : decode M_FG_hold.2.1 60 = .ok (.putfield 114, 3) := by decide +kernel
theorem d_FG_hold_63 : decode M_FG_hold.2.1 63 = .ok (.aload_n 3, 1) := by decide +kernel
theorem d_FG_hold_64 : decode M_FG_hold.2.1 64 = .ok (.getfield 117, 3) := by decide +kernel
theorem d_FG_hold_67 : decode M_FG_hold.2.1 67 = .ok (.ireturn, 1) := by decide +kernel
set_option maxHeartbeats 4000000 in
set_option maxRecDepth 100000 in
theorem ok_FG_hold {D : xD} {N : Nat} {l : Launch} {d : Nat} {c x V : T2} {P : Nat → Int32} {ln df : Nat → Option Nat} {rest : List va_E} {K : Option Value → List va_E → Prop} {b : Int32} {n : Int32} {nb : Nat} (hnb : c 32 1 = nI nb) (h12 : nb ≤ 12)  (hK : K (some (.int (sp_hold c P b n).1)) (encC D N c x (va_up V 0 (sp_hold c P b n).2) ln df ++ rest)) : Ok D N l (d + 2) M_FG_hold [.ref (N + 0), .int b, .int n] (encC D N c x (va_up V 0 P) ln df ++ rest) 0 0 K := by
  refine ok_of (L := [(0, _), (1, _), (2, _)]) (by decide) (Nat.le_of_ble_eq_true rfl) rfl ?_
  refine wp_aload_n (q := 1) d_FG_hold_0 rfl rfl ?_
  refine wp_iload_n (q := 2) d_FG_hold_1 rfl rfl ?_
  refine wp_cv1 (q := 5) lk_FG_82 (ro _ _ _) d_FG_hold_2 rfl (Nat.le_of_ble_eq_true rfl) (rfl) rfl (Nat.zero_le _) (Nat.zero_le _) ?_
  refine ok_FG_isBus hnb h12 (fun b1 hb1 e => ?_) (fun hb1 => ?_)
  · subst e
    refine wp_if_ne_t (tgt := 10) d_FG_hold_5 (by decide) (by decide) ?_
    refine wp_iload_n (q := 11) d_FG_hold_10 rfl rfl ?_
    refine wp_iconst (q := 12) d_FG_hold_11 rfl ic_1 ?_
    refine wp_sipush (q := 15) d_FG_hold_12 rfl sp_600 ?_
    refine wp_cs3 (q := 18) lk_FG_61 (ro _ _ _) d_FG_hold_15 rfl (Nat.le_of_ble_eq_true rfl) (Nat.zero_le _) (Nat.zero_le _) ?_
    refine ok_FG_within (fun hn1a hn1b => ?_) (fun hn1 => ?_)
    · refine wp_if_ne_t (tgt := 24) d_FG_hold_18 (by decide) (by decide) ?_
      refine wp_aload_n (q := 25) d_FG_hold_24 rfl rfl ?_
      refine wp_get (q := 28) fl_FG_19 d_FG_hold_25 rfl rfl rfl ?_
      refine wp_get (q := 31) fl_FG_85 d_FG_hold_28 rfl (rdO (w := 0) (by decide)) rfl ?_
      refine wp_iload_n (q := 32) d_FG_hold_31 rfl rfl ?_
      refine wp_aldR (q := 33) d_FG_hold_32 rfl (rd4 (w := 0) (by decide)) (by omega) (by decide) (rowsW_at (by omega)) ?_
      refine wp_astore_n (q := 34) (L2 := [(3, _), (0, _), (1, _), (2, _)]) d_FG_hold_33 rfl (by decide) rfl ?_
      refine wp_aload_n (q := 35) d_FG_hold_34 rfl rfl ?_
      refine wp_get (q := 38) fl_FG_89 d_FG_hold_35 rfl (rdR (w := 0) (by decide) (by omega)) rfl ?_
      refine wp_iconst (q := 39) d_FG_hold_38 rfl ic_3 ?_
      refine wp_icmp_eq (q := 42) (tgt := 45) d_FG_hold_39 (by decide) rfl (fun hc_39 => ?_) (fun hc_39 => ?_)
      · refine wp_aload_n (q := 46) d_FG_hold_45 rfl rfl ?_
        refine wp_iconst (q := 47) d_FG_hold_46 rfl ic_4 ?_
        refine wp_put (q := 50) fl_FG_89 d_FG_hold_47 rfl (rdR (w := 0) (by decide) (by omega)) (Nat.le_of_ble_eq_true rfl) rfl rfl (fdw (w := 0) (by decide) (by omega) (ws_r0 (by omega))) ?_
        refine wp_aload_n (q := 51) d_FG_hold_50 rfl rfl ?_
        refine wp_aload_n (q := 52) d_FG_hold_51 rfl rfl ?_
        refine wp_get (q := 55) fl_FG_19 d_FG_hold_52 rfl rfl rfl ?_
        refine wp_get (q := 58) fl_FG_111 d_FG_hold_55 rfl (rdO (w := 0) (by decide)) rfl ?_
        refine wp_iload_n (q := 59) d_FG_hold_58 rfl rfl ?_
        first | refine wp_iaddN (q := 60) d_FG_hold_59 rfl ?_ | refine wp_iadd (q := 60) d_FG_hold_59 rfl ?_
        refine wp_put (q := 63) fl_FG_114 d_FG_hold_60 rfl (rdR (w := 0) (by decide) (by omega)) (Nat.le_of_ble_eq_true rfl) rfl rfl (fdw (w := 0) (by decide) (by omega) (ws_r6 (by omega))) ?_
        refine wp_aload_n (q := 64) d_FG_hold_63 rfl rfl ?_
        refine wp_get (q := 67) fl_FG_117 d_FG_hold_64 rfl (rdR (w := 0) (by decide) (by omega)) rfl ?_
        refine wp_iret d_FG_hold_67 rfl (Nat.le_refl _) (Nat.le_refl _) ?_
        simp only [sp_hold, inn, inb, inm, btw, inb_t hnb h12 hb1, tnt (Nat.lt_of_lt_of_le hb1 h12), hn1a, hn1b, hc_39, not_true_eq_false, not_false_eq_true, or_false, false_or, or_true, true_or, and_true, true_and, and_false, false_and, or_self, and_self, if_true, if_false, ite_true, ite_false, eq_self] at hK
        first | exact hK | (simp (disch := omega) only [tput_eq, tput2, tput_ne, upd_eq, upd_ne, ne_eq, va_upeq, va_upne, va_up2, not_true_eq_false, not_false_eq_true, or_false, false_or, or_true, true_or, and_true, true_and, and_false, false_and, or_self, and_self, if_true, if_false, ite_true, ite_false, eq_self] at hK ⊢; exact hK) | (simp (disch := omega) only [tput_eq, tput2, tput_ne, upd_eq, upd_ne, ne_eq, va_upeq, va_upne, va_up2, not_true_eq_false, not_false_eq_true, or_false, false_or, or_true, true_or, and_true, true_and, and_false, false_and, or_self, and_self, if_true, if_false, ite_true, ite_false, eq_self]; exact hK) | (simp (disch := omega) only [tput_eq, tput2, tput_ne, upd_eq, upd_ne, ne_eq, va_upeq, va_upne, va_up2, not_true_eq_false, not_false_eq_true, or_false, false_or, or_true, true_or, and_true, true_and, and_false, false_and, or_self, and_self, if_true, if_false, ite_true, ite_false, eq_self] at hK; exact hK)
      · refine wp_bipush (q := 44) d_FG_hold_42 rfl bp_m3 ?_
        refine wp_iret d_FG_hold_44 rfl (Nat.le_refl _) (Nat.le_refl _) ?_
        simp only [sp_hold, inn, inb, inm, btw, inb_t hnb h12 hb1, tnt (Nat.lt_of_lt_of_le hb1 h12), hn1a, hn1b, hc_39, not_true_eq_false, not_false_eq_true, or_false, false_or, or_true, true_or, and_true, true_and, and_false, false_and, or_self, and_self, if_true, if_false, ite_true, ite_false, eq_self] at hK
        first | exact hK | (simp (disch := omega) only [tput_eq, tput2, tput_ne, upd_eq, upd_ne, ne_eq, va_upeq, va_upne, va_up2, not_true_eq_false, not_false_eq_true, or_false, false_or, or_true, true_or, and_true, true_and, and_false, false_and, or_self, and_self, if_true, if_false, ite_true, ite_false, eq_self] at hK ⊢; exact hK) | (simp (disch := omega) only [tput_eq, tput2, tput_ne, upd_eq, upd_ne, ne_eq, va_upeq, va_upne, va_up2, not_true_eq_false, not_false_eq_true, or_false, false_or, or_true, true_or, and_true, true_and, and_false, false_and, or_self, and_self, if_true, if_false, ite_true, ite_false, eq_self]; exact hK) | (simp (disch := omega) only [tput_eq, tput2, tput_ne, upd_eq, upd_ne, ne_eq, va_upeq, va_upne, va_up2, not_true_eq_false, not_false_eq_true, or_false, false_or, or_true, true_or, and_true, true_and, and_false, false_and, or_self, and_self, if_true, if_false, ite_true, ite_false, eq_self] at hK; exact hK)
    · refine wp_if_ne_f (q := 21) (tgt := 24) d_FG_hold_18 (by decide) rfl (by decide) ?_
      refine wp_bipush (q := 23) d_FG_hold_21 rfl bp_m2 ?_
      refine wp_iret d_FG_hold_23 rfl (Nat.le_refl _) (Nat.le_refl _) ?_
      simp only [sp_hold, inn, inb, inm, btw, inb_t hnb h12 hb1, tnt (Nat.lt_of_lt_of_le hb1 h12), hn1, not_true_eq_false, not_false_eq_true, or_false, false_or, or_true, true_or, and_true, true_and, and_false, false_and, or_self, and_self, if_true, if_false, ite_true, ite_false, eq_self] at hK
      first | exact hK | (simp (disch := omega) only [tput_eq, tput2, tput_ne, upd_eq, upd_ne, ne_eq, va_upeq, va_upne, va_up2, not_true_eq_false, not_false_eq_true, or_false, false_or, or_true, true_or, and_true, true_and, and_false, false_and, or_self, and_self, if_true, if_false, ite_true, ite_false, eq_self] at hK ⊢; exact hK) | (simp (disch := omega) only [tput_eq, tput2, tput_ne, upd_eq, upd_ne, ne_eq, va_upeq, va_upne, va_up2, not_true_eq_false, not_false_eq_true, or_false, false_or, or_true, true_or, and_true, true_and, and_false, false_and, or_self, and_self, if_true, if_false, ite_true, ite_false, eq_self]; exact hK) | (simp (disch := omega) only [tput_eq, tput2, tput_ne, upd_eq, upd_ne, ne_eq, va_upeq, va_upne, va_up2, not_true_eq_false, not_false_eq_true, or_false, false_or, or_true, true_or, and_true, true_and, and_false, false_and, or_self, and_self, if_true, if_false, ite_true, ite_false, eq_self] at hK; exact hK)
  · refine wp_if_ne_f (q := 8) (tgt := 10) d_FG_hold_5 (by decide) rfl (by decide) ?_
    refine wp_iconst (q := 9) d_FG_hold_8 rfl ic_m1 ?_
    refine wp_iret d_FG_hold_9 rfl (Nat.le_refl _) (Nat.le_refl _) ?_
    simp only [sp_hold, inn, inb, inm, btw, hb1, not_true_eq_false, not_false_eq_true, or_false, false_or, or_true, true_or, and_true, true_and, and_false, false_and, or_self, and_self, if_true, if_false, ite_true, ite_false, eq_self] at hK
    first | exact hK | (simp (disch := omega) only [tput_eq, tput2, tput_ne, upd_eq, upd_ne, ne_eq, va_upeq, va_upne, va_up2, not_true_eq_false, not_false_eq_true, or_false, false_or, or_true, true_or, and_true, true_and, and_false, false_and, or_self, and_self, if_true, if_false, ite_true, ite_false, eq_self] at hK ⊢; exact hK) | (simp (disch := omega) only [tput_eq, tput2, tput_ne, upd_eq, upd_ne, ne_eq, va_upeq, va_upne, va_up2, not_true_eq_false, not_false_eq_true, or_false, false_or, or_true, true_or, and_true, true_and, and_false, false_and, or_self, and_self, if_true, if_false, ite_true, ite_false, eq_self]; exact hK) | (simp (disch := omega) only [tput_eq, tput2, tput_ne, upd_eq, upd_ne, ne_eq, va_upeq, va_upne, va_up2, not_true_eq_false, not_false_eq_true, or_false, false_or, or_true, true_or, and_true, true_and, and_false, false_and, or_self, and_self, if_true, if_false, ite_true, ite_false, eq_self] at hK; exact hK)
theorem d_Rf_hold_0 : decode M_Rf_hold.2.1 0 = .ok (.aload_n 0, 1) := by decide +kernel
theorem d_Rf_hold_1 : decode M_Rf_hold.2.1 1 = .ok (.iload_n 1, 1) := by decide +kernel
theorem d_Rf_hold_2 : decode M_Rf_hold.2.1 2 = .ok (.invokevirtual 167, 3) := by decide +kernel
theorem d_Rf_hold_5 : decode M_Rf_hold.2.1 5 = .ok (.ifCond .ne 5, 3) := by decide +kernel
theorem d_Rf_hold_8 : decode M_Rf_hold.2.1 8 = .ok (.iconst (-1), 1) := by decide +kernel
theorem d_Rf_hold_9 : decode M_Rf_hold.2.1 9 = .ok (.ireturn, 1) := by decide +kernel
theorem d_Rf_hold_10 : decode M_Rf_hold.2.1 10 = .ok (.iload_n 2, 1) := by decide +kernel
theorem d_Rf_hold_11 : decode M_Rf_hold.2.1 11 = .ok (.iconst 1, 1) := by decide +kernel
theorem d_Rf_hold_12 : decode M_Rf_hold.2.1 12 = .ok (.sipush 600, 3) := by decide +kernel
theorem d_Rf_hold_15 : decode M_Rf_hold.2.1 15 = .ok (.invokestatic 151, 3) := by decide +kernel
theorem d_Rf_hold_18 : decode M_Rf_hold.2.1 18 = .ok (.ifCond .ne 6, 3) := by decide +kernel
theorem d_Rf_hold_21 : decode M_Rf_hold.2.1 21 = .ok (.bipush (-2), 2) := by decide +kernel
theorem d_Rf_hold_23 : decode M_Rf_hold.2.1 23 = .ok (.ireturn, 1) := by decide +kernel
theorem d_Rf_hold_24 : decode M_Rf_hold.2.1 24 = .ok (.aload_n 0, 1) := by decide +kernel
theorem d_Rf_hold_25 : decode M_Rf_hold.2.1 25 = .ok (.getfield 7, 3) := by decide +kernel
theorem d_Rf_hold_28 : decode M_Rf_hold.2.1 28 = .ok (.bipush 72, 2) := by decide +kernel
theorem d_Rf_hold_30 : decode M_Rf_hold.2.1 30 = .ok (.iload_n 1, 1) := by decide +kernel
theorem d_Rf_hold_31 : decode M_Rf_hold.2.1 31 = .ok (.iadd, 1) := by decide +kernel
theorem d_Rf_hold_32 : decode M_Rf_hold.2.1 32 = .ok (.iaload, 1) := by decide +kernel
theorem d_Rf_hold_33 : decode M_Rf_hold.2.1 33 = .ok (.iconst 3, 1) := by decide +kernel
theorem d_Rf_hold_34 : decode M_Rf_hold.2.1 34 = .ok (.if_icmp .eq 6, 3) := by decide +kernel
theorem d_Rf_hold_37 : decode M_Rf_hold.2.1 37 = .ok (.bipush (-3), 2) := by decide +kernel
theorem d_Rf_hold_39 : decode M_Rf_hold.2.1 39 = .ok (.ireturn, 1) := by decide +kernel
theorem d_Rf_hold_40 : decode M_Rf_hold.2.1 40 = .ok (.aload_n 0, 1) := by decide +kernel
theorem d_Rf_hold_41 : decode M_Rf_hold.2.1 41 = .ok (.getfield 7, 3) := by decide +kernel
theorem d_Rf_hold_44 : decode M_Rf_hold.2.1 44 = .ok (.bipush 72, 2) := by decide +kernel
theorem d_Rf_hold_46 : decode M_Rf_hold.2.1 46 = .ok (.iload_n 1, 1) := by decide +kernel
theorem d_Rf_hold_47 : decode M_Rf_hold.2.1 47 = .ok (.iadd, 1) := by decide +kernel
theorem d_Rf_hold_48 : decode M_Rf_hold.2.1 48 = .ok (.iconst 4, 1) := by decide +kernel
theorem d_Rf_hold_49 : decode M_Rf_hold.2.1 49 = .ok (.iastore, 1) := by decide +kernel
theorem d_Rf_hold_50 : decode M_Rf_hold.2.1 50 = .ok (.aload_n 0, 1) := by decide +kernel
theorem d_Rf_hold_51 : decode M_Rf_hold.2.1 51 = .ok (.getfield 7, 3) := by decide +kernel
theorem d_Rf_hold_54 : decode M_Rf_hold.2.1 54 = .ok (.sipush 144, 3) := by decide +kernel
theorem d_Rf_hold_57 : decode M_Rf_hold.2.1 57 = .ok (.iload_n 1, 1) := by decide +kernel
theorem d_Rf_hold_58 : decode M_Rf_hold.2.1 58 = .ok (.iadd, 1) := by decide +kernel
theorem d_Rf_hold_59 : decode M_Rf_hold.2.1 59 = .ok (.aload_n 0, 1) := by decide +kernel
theorem d_Rf_hold_60 : decode M_Rf_hold.2.1 60 = .ok (.getfield 7, 3) := by decide +kernel
theorem d_Rf_hold_63 : decode M_Rf_hold.2.1 63 = .ok (.sipush 234, 3) := by decide +kernel
theorem d_Rf_hold_66 : decode M_Rf_hold.2.1 66 = .ok (.iaload, 1) := by decide +kernel
theorem d_Rf_hold_67 : decode M_Rf_hold.2.1 67 = .ok (.iload_n 2, 1) := by decide +kernel
theorem d_Rf_hold_68 : decode M_Rf_hold.2.1 68 = .ok (.iadd, 1) := by decide +kernel
theorem d_Rf_hold_69 : decode M_Rf_hold.2.1 69 = .ok (.iastore, 1) := by decide +kernel
theorem d_Rf_hold_70 : decode M_Rf_hold.2.1 70 = .ok (.aload_n 0, 1) := by decide +kernel
theorem d_Rf_hold_71 : decode M_Rf_hold.2.1 71 = .ok (.getfield 7, 3) := by decide +kernel
theorem d_Rf_hold_74 : decode M_Rf_hold.2.1 74 = .ok (.sipush 132, 3) := by decide +kernel
theorem d_Rf_hold_77 : decode M_Rf_hold.2.1 77 = .ok (.iload_n 1, 1) := by decide +kernel
theorem d_Rf_hold_78 : decode M_Rf_hold.2.1 78 = .ok (.iadd, 1) := by decide +kernel
theorem d_Rf_hold_79 : decode M_Rf_hold.2.1 79 = .ok (.iaload, 1) := by decide +kernel
theorem d_Rf_hold_80 : decode M_Rf_hold.2.1 80 = .ok (.ireturn, 1) := by decide +kernel
set_option maxHeartbeats 4000000 in
set_option maxRecDepth 100000 in
theorem ok_Rf_hold {D : xD} {N : Nat} {l : Launch} {d : Nat} {c z : T2} {P Q : Nat → Int32} {rest : List va_E} {K : Option Value → List va_E → Prop} {b : Int32} {n : Int32} {nb : Nat} (hnb : c 32 1 = nI nb) (h12 : nb ≤ 12)  (hK : K (some (.int (sp_hold c P b n).1)) (encR D N c z (sp_hold c P b n).2 Q ++ rest)) : Ok D N l (d + 2) M_Rf_hold [.ref (N + 0), .int b, .int n] (encR D N c z P Q ++ rest) 0 0 K := by
  refine ok_of (L := [(0, _), (1, _), (2, _)]) (by decide) (Nat.le_of_ble_eq_true rfl) rfl ?_
  refine wp_aload_n (q := 1) d_Rf_hold_0 rfl rfl ?_
  refine wp_iload_n (q := 2) d_Rf_hold_1 rfl rfl ?_
  refine wp_cv1 (q := 5) lk_Rf_167 (ro _ _ _) d_Rf_hold_2 rfl (Nat.le_of_ble_eq_true rfl) (rfl) rfl (Nat.zero_le _) (Nat.zero_le _) ?_
  refine ok_Rf_isBus hnb h12 (fun b1 hb1 e => ?_) (fun hb1 => ?_)
  · subst e
    refine wp_if_ne_t (tgt := 10) d_Rf_hold_5 (by decide) (by decide) ?_
    refine wp_iload_n (q := 11) d_Rf_hold_10 rfl rfl ?_
    refine wp_iconst (q := 12) d_Rf_hold_11 rfl ic_1 ?_
    refine wp_sipush (q := 15) d_Rf_hold_12 rfl sp_600 ?_
    refine wp_cs3 (q := 18) lk_Rf_151 (ro _ _ _) d_Rf_hold_15 rfl (Nat.le_of_ble_eq_true rfl) (Nat.zero_le _) (Nat.zero_le _) ?_
    refine ok_Rf_in (fun hn1a hn1b => ?_) (fun hn1 => ?_)
    · refine wp_if_ne_t (tgt := 24) d_Rf_hold_18 (by decide) (by decide) ?_
      refine wp_aload_n (q := 25) d_Rf_hold_24 rfl rfl ?_
      refine wp_get (q := 28) fl_Rf_7 d_Rf_hold_25 rfl rfl rfl ?_
      refine wp_bipush (q := 30) d_Rf_hold_28 rfl bp_72 ?_
      refine wp_iload_n (q := 31) d_Rf_hold_30 rfl rfl ?_
      first | refine wp_iaddN (q := 32) d_Rf_hold_31 rfl ?_ | refine wp_iadd (q := 32) d_Rf_hold_31 rfl ?_
      refine wp_iald (q := 33) d_Rf_hold_32 rfl (rfl) (by omega) (by decide) ?_
      refine wp_iconst (q := 34) d_Rf_hold_33 rfl ic_3 ?_
      refine wp_icmp_eq (q := 37) (tgt := 40) d_Rf_hold_34 (by decide) rfl (fun hc_34 => ?_) (fun hc_34 => ?_)
      · refine wp_aload_n (q := 41) d_Rf_hold_40 rfl rfl ?_
        refine wp_get (q := 44) fl_Rf_7 d_Rf_hold_41 rfl rfl rfl ?_
        refine wp_bipush (q := 46) d_Rf_hold_44 rfl bp_72 ?_
        refine wp_iload_n (q := 47) d_Rf_hold_46 rfl rfl ?_
        first | refine wp_iaddN (q := 48) d_Rf_hold_47 rfl ?_ | refine wp_iadd (q := 48) d_Rf_hold_47 rfl ?_
        refine wp_iconst (q := 49) d_Rf_hold_48 rfl ic_4 ?_
        refine wp_iast (q := 50) d_Rf_hold_49 rfl (rfl) (by omega) (by decide) (fr_P) ?_
        refine wp_aload_n (q := 51) d_Rf_hold_50 rfl rfl ?_
        refine wp_get (q := 54) fl_Rf_7 d_Rf_hold_51 rfl rfl rfl ?_
        refine wp_sipush (q := 57) d_Rf_hold_54 rfl sp_144 ?_
        refine wp_iload_n (q := 58) d_Rf_hold_57 rfl rfl ?_
        first | refine wp_iaddN (q := 59) d_Rf_hold_58 rfl ?_ | refine wp_iadd (q := 59) d_Rf_hold_58 rfl ?_
        refine wp_aload_n (q := 60) d_Rf_hold_59 rfl rfl ?_
        refine wp_get (q := 63) fl_Rf_7 d_Rf_hold_60 rfl rfl rfl ?_
        refine wp_sipush (q := 66) d_Rf_hold_63 rfl sp_234 ?_
        refine wp_iald (q := 67) d_Rf_hold_66 rfl (rfl) (by omega) (by decide) ?_
        refine wp_iload_n (q := 68) d_Rf_hold_67 rfl rfl ?_
        first | refine wp_iaddN (q := 69) d_Rf_hold_68 rfl ?_ | refine wp_iadd (q := 69) d_Rf_hold_68 rfl ?_
        refine wp_iast (q := 70) d_Rf_hold_69 rfl (rfl) (by omega) (by decide) (fr_P) ?_
        refine wp_aload_n (q := 71) d_Rf_hold_70 rfl rfl ?_
        refine wp_get (q := 74) fl_Rf_7 d_Rf_hold_71 rfl rfl rfl ?_
        refine wp_sipush (q := 77) d_Rf_hold_74 rfl sp_132 ?_
        refine wp_iload_n (q := 78) d_Rf_hold_77 rfl rfl ?_
        first | refine wp_iaddN (q := 79) d_Rf_hold_78 rfl ?_ | refine wp_iadd (q := 79) d_Rf_hold_78 rfl ?_
        refine wp_iald (q := 80) d_Rf_hold_79 rfl (rfl) (by omega) (by decide) ?_
        refine wp_iret d_Rf_hold_80 rfl (Nat.le_refl _) (Nat.le_refl _) ?_
        simp only [sp_hold, inn, inb, inm, btw, inb_t hnb h12 hb1, tnt (Nat.lt_of_lt_of_le hb1 h12), hn1a, hn1b, hc_34, not_true_eq_false, not_false_eq_true, or_false, false_or, or_true, true_or, and_true, true_and, and_false, false_and, or_self, and_self, if_true, if_false, ite_true, ite_false, eq_self] at hK
        first | exact hK | (simp (disch := omega) only [tput_eq, tput2, tput_ne, upd_eq, upd_ne, ne_eq, va_upeq, va_upne, va_up2, not_true_eq_false, not_false_eq_true, or_false, false_or, or_true, true_or, and_true, true_and, and_false, false_and, or_self, and_self, if_true, if_false, ite_true, ite_false, eq_self] at hK ⊢; exact hK) | (simp (disch := omega) only [tput_eq, tput2, tput_ne, upd_eq, upd_ne, ne_eq, va_upeq, va_upne, va_up2, not_true_eq_false, not_false_eq_true, or_false, false_or, or_true, true_or, and_true, true_and, and_false, false_and, or_self, and_self, if_true, if_false, ite_true, ite_false, eq_self]; exact hK) | (simp (disch := omega) only [tput_eq, tput2, tput_ne, upd_eq, upd_ne, ne_eq, va_upeq, va_upne, va_up2, not_true_eq_false, not_false_eq_true, or_false, false_or, or_true, true_or, and_true, true_and, and_false, false_and, or_self, and_self, if_true, if_false, ite_true, ite_false, eq_self] at hK; exact hK)
      · refine wp_bipush (q := 39) d_Rf_hold_37 rfl bp_m3 ?_
        refine wp_iret d_Rf_hold_39 rfl (Nat.le_refl _) (Nat.le_refl _) ?_
        simp only [sp_hold, inn, inb, inm, btw, inb_t hnb h12 hb1, tnt (Nat.lt_of_lt_of_le hb1 h12), hn1a, hn1b, hc_34, not_true_eq_false, not_false_eq_true, or_false, false_or, or_true, true_or, and_true, true_and, and_false, false_and, or_self, and_self, if_true, if_false, ite_true, ite_false, eq_self] at hK
        first | exact hK | (simp (disch := omega) only [tput_eq, tput2, tput_ne, upd_eq, upd_ne, ne_eq, va_upeq, va_upne, va_up2, not_true_eq_false, not_false_eq_true, or_false, false_or, or_true, true_or, and_true, true_and, and_false, false_and, or_self, and_self, if_true, if_false, ite_true, ite_false, eq_self] at hK ⊢; exact hK) | (simp (disch := omega) only [tput_eq, tput2, tput_ne, upd_eq, upd_ne, ne_eq, va_upeq, va_upne, va_up2, not_true_eq_false, not_false_eq_true, or_false, false_or, or_true, true_or, and_true, true_and, and_false, false_and, or_self, and_self, if_true, if_false, ite_true, ite_false, eq_self]; exact hK) | (simp (disch := omega) only [tput_eq, tput2, tput_ne, upd_eq, upd_ne, ne_eq, va_upeq, va_upne, va_up2, not_true_eq_false, not_false_eq_true, or_false, false_or, or_true, true_or, and_true, true_and, and_false, false_and, or_self, and_self, if_true, if_false, ite_true, ite_false, eq_self] at hK; exact hK)
    · refine wp_if_ne_f (q := 21) (tgt := 24) d_Rf_hold_18 (by decide) rfl (by decide) ?_
      refine wp_bipush (q := 23) d_Rf_hold_21 rfl bp_m2 ?_
      refine wp_iret d_Rf_hold_23 rfl (Nat.le_refl _) (Nat.le_refl _) ?_
      simp only [sp_hold, inn, inb, inm, btw, inb_t hnb h12 hb1, tnt (Nat.lt_of_lt_of_le hb1 h12), hn1, not_true_eq_false, not_false_eq_true, or_false, false_or, or_true, true_or, and_true, true_and, and_false, false_and, or_self, and_self, if_true, if_false, ite_true, ite_false, eq_self] at hK
      first | exact hK | (simp (disch := omega) only [tput_eq, tput2, tput_ne, upd_eq, upd_ne, ne_eq, va_upeq, va_upne, va_up2, not_true_eq_false, not_false_eq_true, or_false, false_or, or_true, true_or, and_true, true_and, and_false, false_and, or_self, and_self, if_true, if_false, ite_true, ite_false, eq_self] at hK ⊢; exact hK) | (simp (disch := omega) only [tput_eq, tput2, tput_ne, upd_eq, upd_ne, ne_eq, va_upeq, va_upne, va_up2, not_true_eq_false, not_false_eq_true, or_false, false_or, or_true, true_or, and_true, true_and, and_false, false_and, or_self, and_self, if_true, if_false, ite_true, ite_false, eq_self]; exact hK) | (simp (disch := omega) only [tput_eq, tput2, tput_ne, upd_eq, upd_ne, ne_eq, va_upeq, va_upne, va_up2, not_true_eq_false, not_false_eq_true, or_false, false_or, or_true, true_or, and_true, true_and, and_false, false_and, or_self, and_self, if_true, if_false, ite_true, ite_false, eq_self] at hK; exact hK)
  · refine wp_if_ne_f (q := 8) (tgt := 10) d_Rf_hold_5 (by decide) rfl (by decide) ?_
    refine wp_iconst (q := 9) d_Rf_hold_8 rfl ic_m1 ?_
    refine wp_iret d_Rf_hold_9 rfl (Nat.le_refl _) (Nat.le_refl _) ?_
    simp only [sp_hold, inn, inb, inm, btw, hb1, not_true_eq_false, not_false_eq_true, or_false, false_or, or_true, true_or, and_true, true_and, and_false, false_and, or_self, and_self, if_true, if_false, ite_true, ite_false, eq_self] at hK
    first | exact hK | (simp (disch := omega) only [tput_eq, tput2, tput_ne, upd_eq, upd_ne, ne_eq, va_upeq, va_upne, va_up2, not_true_eq_false, not_false_eq_true, or_false, false_or, or_true, true_or, and_true, true_and, and_false, false_and, or_self, and_self, if_true, if_false, ite_true, ite_false, eq_self] at hK ⊢; exact hK) | (simp (disch := omega) only [tput_eq, tput2, tput_ne, upd_eq, upd_ne, ne_eq, va_upeq, va_upne, va_up2, not_true_eq_false, not_false_eq_true, or_false, false_or, or_true, true_or, and_true, true_and, and_false, false_and, or_self, and_self, if_true, if_false, ite_true, ite_false, eq_self]; exact hK) | (simp (disch := omega) only [tput_eq, tput2, tput_ne, upd_eq, upd_ne, ne_eq, va_upeq, va_upne, va_up2, not_true_eq_false, not_false_eq_true, or_false, false_or, or_true, true_or, and_true, true_and, and_false, false_and, or_self, and_self, if_true, if_false, ite_true, ite_false, eq_self] at hK; exact hK)
def sp_gain (c : T2) (r s v : Int32) : Int32 × T2 := if ¬ inn r 5 ∨ ¬ inn s 3 then (-1, c) else if ¬ inn v 9999 then (-2, c) else (c 11 (4 * tn r + tn s), tput c 11 (upd (c 11) (4 * tn r + tn s) v))
theorem d_FG_gain_0 : decode M_FG_gain.2.1 0 = .ok (.iload_n 1, 1) := by decide +kernel
theorem d_FG_gain_1 : decode M_FG_gain.2.1 1 = .ok (.iconst 0, 1) := by decide +kernel
theorem d_FG_gain_2 : decode M_FG_gain.2.1 2 = .ok (.iconst 5, 1) := by decide +kernel
theorem d_FG_gain_3 : decode M_FG_gain.2.1 3 = .ok (.invokestatic 61, 3) := by decide +kernel
theorem d_FG_gain_6 : decode M_FG_gain.2.1 6 = .ok (.ifCond .eq 12, 3) := by decide +kernel
theorem d_FG_gain_9 : decode M_FG_gain.2.1 9 = .ok (.iload_n 2, 1) := by decide +kernel
theorem d_FG_gain_10 : decode M_FG_gain.2.1 10 = .ok (.iconst 0, 1) := by decide +kernel
theorem d_FG_gain_11 : decode M_FG_gain.2.1 11 = .ok (.iconst 3, 1) := by decide +kernel
theorem d_FG_gain_12 : decode M_FG_gain.2.1 12 = .ok (.invokestatic 61, 3) := by decide +kernel
theorem d_FG_gain_15 : decode M_FG_gain.2.1 15 = .ok (.ifCond .ne 5, 3) := by decide +kernel
theorem d_FG_gain_18 : decode M_FG_gain.2.1 18 = .ok (.iconst (-1), 1) := by decide +kernel
theorem d_FG_gain_19 : decode M_FG_gain.2.1 19 = .ok (.ireturn, 1) := by decide +kernel
theorem d_FG_gain_20 : decode M_FG_gain.2.1 20 = .ok (.iload_n 3, 1) := by decide +kernel
theorem d_FG_gain_21 : decode M_FG_gain.2.1 21 = .ok (.iconst 0, 1) := by decide +kernel
theorem d_FG_gain_22 : decode M_FG_gain.2.1 22 = .ok (.sipush 9999, 3) := by decide +kernel
theorem d_FG_gain_25 : decode M_FG_gain.2.1 25 = .ok (.invokestatic 61, 3) := by decide +kernel
theorem d_FG_gain_28 : decode M_FG_gain.2.1 28 = .ok (.ifCond .ne 6, 3) := by decide +kernel
theorem d_FG_gain_31 : decode M_FG_gain.2.1 31 = .ok (.bipush (-2), 2) := by decide +kernel
theorem d_FG_gain_33 : decode M_FG_gain.2.1 33 = .ok (.ireturn, 1) := by decide +kernel
theorem d_FG_gain_34 : decode M_FG_gain.2.1 34 = .ok (.aload_n 0, 1) := by decide +kernel
theorem d_FG_gain_35 : decode M_FG_gain.2.1 35 = .ok (.getfield 38, 3) := by decide +kernel
theorem d_FG_gain_38 : decode M_FG_gain.2.1 38 = .ok (.iload_n 1, 1) := by decide +kernel
theorem d_FG_gain_39 : decode M_FG_gain.2.1 39 = .ok (.aaload, 1) := by decide +kernel
theorem d_FG_gain_40 : decode M_FG_gain.2.1 40 = .ok (.iload_n 2, 1) := by decide +kernel
theorem d_FG_gain_41 : decode M_FG_gain.2.1 41 = .ok (.iaload, 1) := by decide +kernel
theorem d_FG_gain_42 : decode M_FG_gain.2.1 42 = .ok (.istore 4, 2) := by decide +kernel
theorem d_FG_gain_44 : decode M_FG_gain.2.1 44 = .ok (.aload_n 0, 1) := by decide +kernel
theorem d_FG_gain_45 : decode M_FG_gain.2.1 45 = .ok (.getfield 38, 3) := by decide +kernel
theorem d_FG_gain_48 : decode M_FG_gain.2.1 48 = .ok (.iload_n 1, 1) := by decide +kernel
theorem d_FG_gain_49 : decode M_FG_gain.2.1 49 = .ok (.aaload, 1) := by decide +kernel
theorem d_FG_gain_50 : decode M_FG_gain.2.1 50 = .ok (.iload_n 2, 1) := by decide +kernel
theorem d_FG_gain_51 : decode M_FG_gain.2.1 51 = .ok (.iload_n 3, 1) := by decide +kernel
theorem d_FG_gain_52 : decode M_FG_gain.2.1 52 = .ok (.iastore, 1) := by decide +kernel
theorem d_FG_gain_53 : decode M_FG_gain.2.1 53 = .ok (.iload 4, 2) := by decide +kernel
theorem d_FG_gain_55 : decode M_FG_gain.2.1 55 = .ok (.ireturn, 1) := by decide +kernel
set_option maxHeartbeats 4000000 in
set_option maxRecDepth 100000 in
theorem ok_FG_gain {D : xD} {N : Nat} {l : Launch} {d : Nat} {c x V : T2} {P : Nat → Int32} {ln df : Nat → Option Nat} {rest : List va_E} {K : Option Value → List va_E → Prop} {r : Int32} {s : Int32} {v : Int32}   (hK : K (some (.int (sp_gain c r s v).1)) (encC D N (sp_gain c r s v).2 x (va_up V 0 P) ln df ++ rest)) : Ok D N l (d + 1) M_FG_gain [.ref (N + 0), .int r, .int s, .int v] (encC D N c x (va_up V 0 P) ln df ++ rest) 0 0 K := by
  refine ok_of (L := [(0, _), (1, _), (2, _), (3, _)]) (by decide) (Nat.le_of_ble_eq_true rfl) rfl ?_
  refine wp_iload_n (q := 1) d_FG_gain_0 rfl rfl ?_
  refine wp_iconst (q := 2) d_FG_gain_1 rfl ic_0 ?_
  refine wp_iconst (q := 3) d_FG_gain_2 rfl ic_5 ?_
  refine wp_cs3 (q := 6) lk_FG_61 (ro _ _ _) d_FG_gain_3 rfl (Nat.le_of_ble_eq_true rfl) (Nat.zero_le _) (Nat.zero_le _) ?_
  refine ok_FG_within0 (b := 5) (by decide) (fun r1 hr1 e => ?_) (fun hr1 => ?_)
  · subst e
    refine wp_if_eq_f (q := 9) (tgt := 18) d_FG_gain_6 (by decide) rfl (by decide) ?_
    refine wp_iload_n (q := 10) d_FG_gain_9 rfl rfl ?_
    refine wp_iconst (q := 11) d_FG_gain_10 rfl ic_0 ?_
    refine wp_iconst (q := 12) d_FG_gain_11 rfl ic_3 ?_
    refine wp_cs3 (q := 15) lk_FG_61 (ro _ _ _) d_FG_gain_12 rfl (Nat.le_of_ble_eq_true rfl) (Nat.zero_le _) (Nat.zero_le _) ?_
    refine ok_FG_within0 (b := 3) (by decide) (fun s1 hs1 e => ?_) (fun hs1 => ?_)
    · subst e
      refine wp_if_ne_t (tgt := 20) d_FG_gain_15 (by decide) (by decide) ?_
      refine wp_iload_n (q := 21) d_FG_gain_20 rfl rfl ?_
      refine wp_iconst (q := 22) d_FG_gain_21 rfl ic_0 ?_
      refine wp_sipush (q := 25) d_FG_gain_22 rfl sp_9999 ?_
      refine wp_cs3 (q := 28) lk_FG_61 (ro _ _ _) d_FG_gain_25 rfl (Nat.le_of_ble_eq_true rfl) (Nat.zero_le _) (Nat.zero_le _) ?_
      refine ok_FG_within0 (b := 9999) (by decide) (fun v1 hv1 e => ?_) (fun hv1 => ?_)
      · subst e
        refine wp_if_ne_t (tgt := 34) d_FG_gain_28 (by decide) (by decide) ?_
        refine wp_aload_n (q := 35) d_FG_gain_34 rfl rfl ?_
        refine wp_get (q := 38) fl_FG_38 d_FG_gain_35 rfl rfl rfl ?_
        refine wp_iload_n (q := 39) d_FG_gain_38 rfl rfl ?_
        refine wp_aldA (q := 40) d_FG_gain_39 rfl (rfl) (by omega) (by decide) (rows_at (by omega)) ?_
        refine wp_iload_n (q := 41) d_FG_gain_40 rfl rfl ?_
        refine wp_iald (q := 42) d_FG_gain_41 rfl (rd_gain (by omega)) (by omega) (by decide) ?_
        refine wp_istore (q := 44) (L2 := [(4, _), (0, _), (1, _), (2, _), (3, _)]) d_FG_gain_42 rfl (by decide) rfl ?_
        refine wp_aload_n (q := 45) d_FG_gain_44 rfl rfl ?_
        refine wp_get (q := 48) fl_FG_38 d_FG_gain_45 rfl rfl rfl ?_
        refine wp_iload_n (q := 49) d_FG_gain_48 rfl rfl ?_
        refine wp_aldA (q := 50) d_FG_gain_49 rfl (rfl) (by omega) (by decide) (rows_at (by omega)) ?_
        refine wp_iload_n (q := 51) d_FG_gain_50 rfl rfl ?_
        refine wp_iload_n (q := 52) d_FG_gain_51 rfl rfl ?_
        refine wp_iast (q := 53) d_FG_gain_52 rfl (rd_gain (by omega)) (by omega) (by decide) (fd_gain (by omega) (by omega)) ?_
        refine wp_iload (q := 55) d_FG_gain_53 rfl rfl ?_
        refine wp_iret d_FG_gain_55 rfl (Nat.le_refl _) (Nat.le_refl _) ?_
        simp only [sp_gain, inn, inb, inm, btw, inn_t hr1, tnl hr1, inn_t hs1, tnl hs1, inn_t hv1, tnl hv1, not_true_eq_false, not_false_eq_true, or_false, false_or, or_true, true_or, and_true, true_and, and_false, false_and, or_self, and_self, if_true, if_false, ite_true, ite_false, eq_self] at hK
        first | exact hK | (simp (disch := omega) only [tput_eq, tput2, tput_ne, upd_eq, upd_ne, ne_eq, va_upeq, va_upne, va_up2, sl_at, not_true_eq_false, not_false_eq_true, or_false, false_or, or_true, true_or, and_true, true_and, and_false, false_and, or_self, and_self, if_true, if_false, ite_true, ite_false, eq_self] at hK ⊢; exact hK) | (simp (disch := omega) only [tput_eq, tput2, tput_ne, upd_eq, upd_ne, ne_eq, va_upeq, va_upne, va_up2, sl_at, not_true_eq_false, not_false_eq_true, or_false, false_or, or_true, true_or, and_true, true_and, and_false, false_and, or_self, and_self, if_true, if_false, ite_true, ite_false, eq_self]; exact hK) | (simp (disch := omega) only [tput_eq, tput2, tput_ne, upd_eq, upd_ne, ne_eq, va_upeq, va_upne, va_up2, sl_at, not_true_eq_false, not_false_eq_true, or_false, false_or, or_true, true_or, and_true, true_and, and_false, false_and, or_self, and_self, if_true, if_false, ite_true, ite_false, eq_self] at hK; exact hK)
      · refine wp_if_ne_f (q := 31) (tgt := 34) d_FG_gain_28 (by decide) rfl (by decide) ?_
        refine wp_bipush (q := 33) d_FG_gain_31 rfl bp_m2 ?_
        refine wp_iret d_FG_gain_33 rfl (Nat.le_refl _) (Nat.le_refl _) ?_
        simp only [sp_gain, inn, inb, inm, btw, inn_t hr1, tnl hr1, inn_t hs1, tnl hs1, hv1, not_true_eq_false, not_false_eq_true, or_false, false_or, or_true, true_or, and_true, true_and, and_false, false_and, or_self, and_self, if_true, if_false, ite_true, ite_false, eq_self] at hK
        first | exact hK | (simp (disch := omega) only [tput_eq, tput2, tput_ne, upd_eq, upd_ne, ne_eq, va_upeq, va_upne, va_up2, sl_at, not_true_eq_false, not_false_eq_true, or_false, false_or, or_true, true_or, and_true, true_and, and_false, false_and, or_self, and_self, if_true, if_false, ite_true, ite_false, eq_self] at hK ⊢; exact hK) | (simp (disch := omega) only [tput_eq, tput2, tput_ne, upd_eq, upd_ne, ne_eq, va_upeq, va_upne, va_up2, sl_at, not_true_eq_false, not_false_eq_true, or_false, false_or, or_true, true_or, and_true, true_and, and_false, false_and, or_self, and_self, if_true, if_false, ite_true, ite_false, eq_self]; exact hK) | (simp (disch := omega) only [tput_eq, tput2, tput_ne, upd_eq, upd_ne, ne_eq, va_upeq, va_upne, va_up2, sl_at, not_true_eq_false, not_false_eq_true, or_false, false_or, or_true, true_or, and_true, true_and, and_false, false_and, or_self, and_self, if_true, if_false, ite_true, ite_false, eq_self] at hK; exact hK)
    · refine wp_if_ne_f (q := 18) (tgt := 20) d_FG_gain_15 (by decide) rfl (by decide) ?_
      refine wp_iconst (q := 19) d_FG_gain_18 rfl ic_m1 ?_
      refine wp_iret d_FG_gain_19 rfl (Nat.le_refl _) (Nat.le_refl _) ?_
      simp only [sp_gain, inn, inb, inm, btw, inn_t hr1, tnl hr1, hs1, not_true_eq_false, not_false_eq_true, or_false, false_or, or_true, true_or, and_true, true_and, and_false, false_and, or_self, and_self, if_true, if_false, ite_true, ite_false, eq_self] at hK
      first | exact hK | (simp (disch := omega) only [tput_eq, tput2, tput_ne, upd_eq, upd_ne, ne_eq, va_upeq, va_upne, va_up2, sl_at, not_true_eq_false, not_false_eq_true, or_false, false_or, or_true, true_or, and_true, true_and, and_false, false_and, or_self, and_self, if_true, if_false, ite_true, ite_false, eq_self] at hK ⊢; exact hK) | (simp (disch := omega) only [tput_eq, tput2, tput_ne, upd_eq, upd_ne, ne_eq, va_upeq, va_upne, va_up2, sl_at, not_true_eq_false, not_false_eq_true, or_false, false_or, or_true, true_or, and_true, true_and, and_false, false_and, or_self, and_self, if_true, if_false, ite_true, ite_false, eq_self]; exact hK) | (simp (disch := omega) only [tput_eq, tput2, tput_ne, upd_eq, upd_ne, ne_eq, va_upeq, va_upne, va_up2, sl_at, not_true_eq_false, not_false_eq_true, or_false, false_or, or_true, true_or, and_true, true_and, and_false, false_and, or_self, and_self, if_true, if_false, ite_true, ite_false, eq_self] at hK; exact hK)
  · refine wp_if_eq_t (tgt := 18) d_FG_gain_6 (by decide) (by decide) ?_
    refine wp_iconst (q := 19) d_FG_gain_18 rfl ic_m1 ?_
    refine wp_iret d_FG_gain_19 rfl (Nat.le_refl _) (Nat.le_refl _) ?_
    simp only [sp_gain, inn, inb, inm, btw, hr1, not_true_eq_false, not_false_eq_true, or_false, false_or, or_true, true_or, and_true, true_and, and_false, false_and, or_self, and_self, if_true, if_false, ite_true, ite_false, eq_self] at hK
    first | exact hK | (simp (disch := omega) only [tput_eq, tput2, tput_ne, upd_eq, upd_ne, ne_eq, va_upeq, va_upne, va_up2, sl_at, not_true_eq_false, not_false_eq_true, or_false, false_or, or_true, true_or, and_true, true_and, and_false, false_and, or_self, and_self, if_true, if_false, ite_true, ite_false, eq_self] at hK ⊢; exact hK) | (simp (disch := omega) only [tput_eq, tput2, tput_ne, upd_eq, upd_ne, ne_eq, va_upeq, va_upne, va_up2, sl_at, not_true_eq_false, not_false_eq_true, or_false, false_or, or_true, true_or, and_true, true_and, and_false, false_and, or_self, and_self, if_true, if_false, ite_true, ite_false, eq_self]; exact hK) | (simp (disch := omega) only [tput_eq, tput2, tput_ne, upd_eq, upd_ne, ne_eq, va_upeq, va_upne, va_up2, sl_at, not_true_eq_false, not_false_eq_true, or_false, false_or, or_true, true_or, and_true, true_and, and_false, false_and, or_self, and_self, if_true, if_false, ite_true, ite_false, eq_self] at hK; exact hK)
theorem d_Rf_gain_0 : decode M_Rf_gain.2.1 0 = .ok (.iload_n 1, 1) := by decide +kernel
theorem d_Rf_gain_1 : decode M_Rf_gain.2.1 1 = .ok (.iconst 0, 1) := by decide +kernel
theorem d_Rf_gain_2 : decode M_Rf_gain.2.1 2 = .ok (.iconst 5, 1) := by decide +kernel
theorem d_Rf_gain_3 : decode M_Rf_gain.2.1 3 = .ok (.invokestatic 151, 3) := by decide +kernel
theorem d_Rf_gain_6 : decode M_Rf_gain.2.1 6 = .ok (.ifCond .eq 12, 3) := by decide +kernel
theorem d_Rf_gain_9 : decode M_Rf_gain.2.1 9 = .ok (.iload_n 2, 1) := by decide +kernel
theorem d_Rf_gain_10 : decode M_Rf_gain.2.1 10 = .ok (.iconst 0, 1) := by decide +kernel
theorem d_Rf_gain_11 : decode M_Rf_gain.2.1 11 = .ok (.iconst 3, 1) := by decide +kernel
theorem d_Rf_gain_12 : decode M_Rf_gain.2.1 12 = .ok (.invokestatic 151, 3) := by decide +kernel
theorem d_Rf_gain_15 : decode M_Rf_gain.2.1 15 = .ok (.ifCond .ne 5, 3) := by decide +kernel
theorem d_Rf_gain_18 : decode M_Rf_gain.2.1 18 = .ok (.iconst (-1), 1) := by decide +kernel
theorem d_Rf_gain_19 : decode M_Rf_gain.2.1 19 = .ok (.ireturn, 1) := by decide +kernel
theorem d_Rf_gain_20 : decode M_Rf_gain.2.1 20 = .ok (.iload_n 3, 1) := by decide +kernel
theorem d_Rf_gain_21 : decode M_Rf_gain.2.1 21 = .ok (.iconst 0, 1) := by decide +kernel
theorem d_Rf_gain_22 : decode M_Rf_gain.2.1 22 = .ok (.sipush 9999, 3) := by decide +kernel
theorem d_Rf_gain_25 : decode M_Rf_gain.2.1 25 = .ok (.invokestatic 151, 3) := by decide +kernel
theorem d_Rf_gain_28 : decode M_Rf_gain.2.1 28 = .ok (.ifCond .ne 6, 3) := by decide +kernel
theorem d_Rf_gain_31 : decode M_Rf_gain.2.1 31 = .ok (.bipush (-2), 2) := by decide +kernel
theorem d_Rf_gain_33 : decode M_Rf_gain.2.1 33 = .ok (.ireturn, 1) := by decide +kernel
theorem d_Rf_gain_34 : decode M_Rf_gain.2.1 34 = .ok (.aload_n 0, 1) := by decide +kernel
theorem d_Rf_gain_35 : decode M_Rf_gain.2.1 35 = .ok (.getfield 46, 3) := by decide +kernel
theorem d_Rf_gain_38 : decode M_Rf_gain.2.1 38 = .ok (.iconst 4, 1) := by decide +kernel
theorem d_Rf_gain_39 : decode M_Rf_gain.2.1 39 = .ok (.iload_n 1, 1) := by decide +kernel
theorem d_Rf_gain_40 : decode M_Rf_gain.2.1 40 = .ok (.imul, 1) := by decide +kernel
theorem d_Rf_gain_41 : decode M_Rf_gain.2.1 41 = .ok (.iload_n 2, 1) := by decide +kernel
theorem d_Rf_gain_42 : decode M_Rf_gain.2.1 42 = .ok (.iadd, 1) := by decide +kernel
theorem d_Rf_gain_43 : decode M_Rf_gain.2.1 43 = .ok (.iaload, 1) := by decide +kernel
theorem d_Rf_gain_44 : decode M_Rf_gain.2.1 44 = .ok (.istore 4, 2) := by decide +kernel
theorem d_Rf_gain_46 : decode M_Rf_gain.2.1 46 = .ok (.aload_n 0, 1) := by decide +kernel
theorem d_Rf_gain_47 : decode M_Rf_gain.2.1 47 = .ok (.getfield 46, 3) := by decide +kernel
theorem d_Rf_gain_50 : decode M_Rf_gain.2.1 50 = .ok (.iconst 4, 1) := by decide +kernel
theorem d_Rf_gain_51 : decode M_Rf_gain.2.1 51 = .ok (.iload_n 1, 1) := by decide +kernel
theorem d_Rf_gain_52 : decode M_Rf_gain.2.1 52 = .ok (.imul, 1) := by decide +kernel
theorem d_Rf_gain_53 : decode M_Rf_gain.2.1 53 = .ok (.iload_n 2, 1) := by decide +kernel
theorem d_Rf_gain_54 : decode M_Rf_gain.2.1 54 = .ok (.iadd, 1) := by decide +kernel
theorem d_Rf_gain_55 : decode M_Rf_gain.2.1 55 = .ok (.iload_n 3, 1) := by decide +kernel
theorem d_Rf_gain_56 : decode M_Rf_gain.2.1 56 = .ok (.iastore, 1) := by decide +kernel
theorem d_Rf_gain_57 : decode M_Rf_gain.2.1 57 = .ok (.iload 4, 2) := by decide +kernel
theorem d_Rf_gain_59 : decode M_Rf_gain.2.1 59 = .ok (.ireturn, 1) := by decide +kernel
set_option maxHeartbeats 4000000 in
set_option maxRecDepth 100000 in
theorem ok_Rf_gain {D : xD} {N : Nat} {l : Launch} {d : Nat} {c z : T2} {P Q : Nat → Int32} {rest : List va_E} {K : Option Value → List va_E → Prop} {r : Int32} {s : Int32} {v : Int32}   (hK : K (some (.int (sp_gain c r s v).1)) (encR D N (sp_gain c r s v).2 z P Q ++ rest)) : Ok D N l (d + 1) M_Rf_gain [.ref (N + 0), .int r, .int s, .int v] (encR D N c z P Q ++ rest) 0 0 K := by
  refine ok_of (L := [(0, _), (1, _), (2, _), (3, _)]) (by decide) (Nat.le_of_ble_eq_true rfl) rfl ?_
  refine wp_iload_n (q := 1) d_Rf_gain_0 rfl rfl ?_
  refine wp_iconst (q := 2) d_Rf_gain_1 rfl ic_0 ?_
  refine wp_iconst (q := 3) d_Rf_gain_2 rfl ic_5 ?_
  refine wp_cs3 (q := 6) lk_Rf_151 (ro _ _ _) d_Rf_gain_3 rfl (Nat.le_of_ble_eq_true rfl) (Nat.zero_le _) (Nat.zero_le _) ?_
  refine ok_Rf_in0 (b := 5) (by decide) (fun r1 hr1 e => ?_) (fun hr1 => ?_)
  · subst e
    refine wp_if_eq_f (q := 9) (tgt := 18) d_Rf_gain_6 (by decide) rfl (by decide) ?_
    refine wp_iload_n (q := 10) d_Rf_gain_9 rfl rfl ?_
    refine wp_iconst (q := 11) d_Rf_gain_10 rfl ic_0 ?_
    refine wp_iconst (q := 12) d_Rf_gain_11 rfl ic_3 ?_
    refine wp_cs3 (q := 15) lk_Rf_151 (ro _ _ _) d_Rf_gain_12 rfl (Nat.le_of_ble_eq_true rfl) (Nat.zero_le _) (Nat.zero_le _) ?_
    refine ok_Rf_in0 (b := 3) (by decide) (fun s1 hs1 e => ?_) (fun hs1 => ?_)
    · subst e
      refine wp_if_ne_t (tgt := 20) d_Rf_gain_15 (by decide) (by decide) ?_
      refine wp_iload_n (q := 21) d_Rf_gain_20 rfl rfl ?_
      refine wp_iconst (q := 22) d_Rf_gain_21 rfl ic_0 ?_
      refine wp_sipush (q := 25) d_Rf_gain_22 rfl sp_9999 ?_
      refine wp_cs3 (q := 28) lk_Rf_151 (ro _ _ _) d_Rf_gain_25 rfl (Nat.le_of_ble_eq_true rfl) (Nat.zero_le _) (Nat.zero_le _) ?_
      refine ok_Rf_in0 (b := 9999) (by decide) (fun v1 hv1 e => ?_) (fun hv1 => ?_)
      · subst e
        refine wp_if_ne_t (tgt := 34) d_Rf_gain_28 (by decide) (by decide) ?_
        refine wp_aload_n (q := 35) d_Rf_gain_34 rfl rfl ?_
        refine wp_get (q := 38) fl_Rf_46 d_Rf_gain_35 rfl rfl rfl ?_
        refine wp_iconst (q := 39) d_Rf_gain_38 rfl ic_4 ?_
        refine wp_iload_n (q := 40) d_Rf_gain_39 rfl rfl ?_
        first | refine wp_imulN (q := 41) d_Rf_gain_40 rfl ?_ | refine wp_imul (q := 41) d_Rf_gain_40 rfl ?_
        refine wp_iload_n (q := 42) d_Rf_gain_41 rfl rfl ?_
        first | refine wp_iaddN (q := 43) d_Rf_gain_42 rfl ?_ | refine wp_iadd (q := 43) d_Rf_gain_42 rfl ?_
        refine wp_iald (q := 44) d_Rf_gain_43 rfl (rfl) (by omega) (by decide) ?_
        refine wp_istore (q := 46) (L2 := [(4, _), (0, _), (1, _), (2, _), (3, _)]) d_Rf_gain_44 rfl (by decide) rfl ?_
        refine wp_aload_n (q := 47) d_Rf_gain_46 rfl rfl ?_
        refine wp_get (q := 50) fl_Rf_46 d_Rf_gain_47 rfl rfl rfl ?_
        refine wp_iconst (q := 51) d_Rf_gain_50 rfl ic_4 ?_
        refine wp_iload_n (q := 52) d_Rf_gain_51 rfl rfl ?_
        first | refine wp_imulN (q := 53) d_Rf_gain_52 rfl ?_ | refine wp_imul (q := 53) d_Rf_gain_52 rfl ?_
        refine wp_iload_n (q := 54) d_Rf_gain_53 rfl rfl ?_
        first | refine wp_iaddN (q := 55) d_Rf_gain_54 rfl ?_ | refine wp_iadd (q := 55) d_Rf_gain_54 rfl ?_
        refine wp_iload_n (q := 56) d_Rf_gain_55 rfl rfl ?_
        refine wp_iast (q := 57) d_Rf_gain_56 rfl (rfl) (by omega) (by decide) (fr_13) ?_
        refine wp_iload (q := 59) d_Rf_gain_57 rfl rfl ?_
        refine wp_iret d_Rf_gain_59 rfl (Nat.le_refl _) (Nat.le_refl _) ?_
        simp only [sp_gain, inn, inb, inm, btw, inn_t hr1, tnl hr1, inn_t hs1, tnl hs1, inn_t hv1, tnl hv1, not_true_eq_false, not_false_eq_true, or_false, false_or, or_true, true_or, and_true, true_and, and_false, false_and, or_self, and_self, if_true, if_false, ite_true, ite_false, eq_self] at hK
        first | exact hK | (simp (disch := omega) only [tput_eq, tput2, tput_ne, upd_eq, upd_ne, ne_eq, va_upeq, va_upne, va_up2, not_true_eq_false, not_false_eq_true, or_false, false_or, or_true, true_or, and_true, true_and, and_false, false_and, or_self, and_self, if_true, if_false, ite_true, ite_false, eq_self] at hK ⊢; exact hK) | (simp (disch := omega) only [tput_eq, tput2, tput_ne, upd_eq, upd_ne, ne_eq, va_upeq, va_upne, va_up2, not_true_eq_false, not_false_eq_true, or_false, false_or, or_true, true_or, and_true, true_and, and_false, false_and, or_self, and_self, if_true, if_false, ite_true, ite_false, eq_self]; exact hK) | (simp (disch := omega) only [tput_eq, tput2, tput_ne, upd_eq, upd_ne, ne_eq, va_upeq, va_upne, va_up2, not_true_eq_false, not_false_eq_true, or_false, false_or, or_true, true_or, and_true, true_and, and_false, false_and, or_self, and_self, if_true, if_false, ite_true, ite_false, eq_self] at hK; exact hK)
      · refine wp_if_ne_f (q := 31) (tgt := 34) d_Rf_gain_28 (by decide) rfl (by decide) ?_
        refine wp_bipush (q := 33) d_Rf_gain_31 rfl bp_m2 ?_
        refine wp_iret d_Rf_gain_33 rfl (Nat.le_refl _) (Nat.le_refl _) ?_
        simp only [sp_gain, inn, inb, inm, btw, inn_t hr1, tnl hr1, inn_t hs1, tnl hs1, hv1, not_true_eq_false, not_false_eq_true, or_false, false_or, or_true, true_or, and_true, true_and, and_false, false_and, or_self, and_self, if_true, if_false, ite_true, ite_false, eq_self] at hK
        first | exact hK | (simp (disch := omega) only [tput_eq, tput2, tput_ne, upd_eq, upd_ne, ne_eq, va_upeq, va_upne, va_up2, not_true_eq_false, not_false_eq_true, or_false, false_or, or_true, true_or, and_true, true_and, and_false, false_and, or_self, and_self, if_true, if_false, ite_true, ite_false, eq_self] at hK ⊢; exact hK) | (simp (disch := omega) only [tput_eq, tput2, tput_ne, upd_eq, upd_ne, ne_eq, va_upeq, va_upne, va_up2, not_true_eq_false, not_false_eq_true, or_false, false_or, or_true, true_or, and_true, true_and, and_false, false_and, or_self, and_self, if_true, if_false, ite_true, ite_false, eq_self]; exact hK) | (simp (disch := omega) only [tput_eq, tput2, tput_ne, upd_eq, upd_ne, ne_eq, va_upeq, va_upne, va_up2, not_true_eq_false, not_false_eq_true, or_false, false_or, or_true, true_or, and_true, true_and, and_false, false_and, or_self, and_self, if_true, if_false, ite_true, ite_false, eq_self] at hK; exact hK)
    · refine wp_if_ne_f (q := 18) (tgt := 20) d_Rf_gain_15 (by decide) rfl (by decide) ?_
      refine wp_iconst (q := 19) d_Rf_gain_18 rfl ic_m1 ?_
      refine wp_iret d_Rf_gain_19 rfl (Nat.le_refl _) (Nat.le_refl _) ?_
      simp only [sp_gain, inn, inb, inm, btw, inn_t hr1, tnl hr1, hs1, not_true_eq_false, not_false_eq_true, or_false, false_or, or_true, true_or, and_true, true_and, and_false, false_and, or_self, and_self, if_true, if_false, ite_true, ite_false, eq_self] at hK
      first | exact hK | (simp (disch := omega) only [tput_eq, tput2, tput_ne, upd_eq, upd_ne, ne_eq, va_upeq, va_upne, va_up2, not_true_eq_false, not_false_eq_true, or_false, false_or, or_true, true_or, and_true, true_and, and_false, false_and, or_self, and_self, if_true, if_false, ite_true, ite_false, eq_self] at hK ⊢; exact hK) | (simp (disch := omega) only [tput_eq, tput2, tput_ne, upd_eq, upd_ne, ne_eq, va_upeq, va_upne, va_up2, not_true_eq_false, not_false_eq_true, or_false, false_or, or_true, true_or, and_true, true_and, and_false, false_and, or_self, and_self, if_true, if_false, ite_true, ite_false, eq_self]; exact hK) | (simp (disch := omega) only [tput_eq, tput2, tput_ne, upd_eq, upd_ne, ne_eq, va_upeq, va_upne, va_up2, not_true_eq_false, not_false_eq_true, or_false, false_or, or_true, true_or, and_true, true_and, and_false, false_and, or_self, and_self, if_true, if_false, ite_true, ite_false, eq_self] at hK; exact hK)
  · refine wp_if_eq_t (tgt := 18) d_Rf_gain_6 (by decide) (by decide) ?_
    refine wp_iconst (q := 19) d_Rf_gain_18 rfl ic_m1 ?_
    refine wp_iret d_Rf_gain_19 rfl (Nat.le_refl _) (Nat.le_refl _) ?_
    simp only [sp_gain, inn, inb, inm, btw, hr1, not_true_eq_false, not_false_eq_true, or_false, false_or, or_true, true_or, and_true, true_and, and_false, false_and, or_self, and_self, if_true, if_false, ite_true, ite_false, eq_self] at hK
    first | exact hK | (simp (disch := omega) only [tput_eq, tput2, tput_ne, upd_eq, upd_ne, ne_eq, va_upeq, va_upne, va_up2, not_true_eq_false, not_false_eq_true, or_false, false_or, or_true, true_or, and_true, true_and, and_false, false_and, or_self, and_self, if_true, if_false, ite_true, ite_false, eq_self] at hK ⊢; exact hK) | (simp (disch := omega) only [tput_eq, tput2, tput_ne, upd_eq, upd_ne, ne_eq, va_upeq, va_upne, va_up2, not_true_eq_false, not_false_eq_true, or_false, false_or, or_true, true_or, and_true, true_and, and_false, false_and, or_self, and_self, if_true, if_false, ite_true, ite_false, eq_self]; exact hK) | (simp (disch := omega) only [tput_eq, tput2, tput_ne, upd_eq, upd_ne, ne_eq, va_upeq, va_upne, va_up2, not_true_eq_false, not_false_eq_true, or_false, false_or, or_true, true_or, and_true, true_and, and_false, false_and, or_self, and_self, if_true, if_false, ite_true, ite_false, eq_self] at hK; exact hK)
def sp_stops (c : T2) (m : Int32) : Int32 × T2 := if ¬ inm c m then (-1, c) else if ¬ c 14 (tn m) = 0 then (-3, c) else (c 12 (tn m) - c 13 (tn m), tput c 14 (upd (c 14) (tn m) (nI 1)))
theorem d_FG_stops_0 : decode M_FG_stops.2.1 0 = .ok (.aload_n 0, 1) := by decide +kernel
theorem d_FG_stops_1 : decode M_FG_stops.2.1 1 = .ok (.iload_n 1, 1) := by decide +kernel
theorem d_FG_stops_2 : decode M_FG_stops.2.1 2 = .ok (.invokevirtual 287, 3) := by decide +kernel
theorem d_FG_stops_5 : decode M_FG_stops.2.1 5 = .ok (.ifCond .ne 5, 3) := by decide +kernel
theorem d_FG_stops_8 : decode M_FG_stops.2.1 8 = .ok (.iconst (-1), 1) := by decide +kernel
theorem d_FG_stops_9 : decode M_FG_stops.2.1 9 = .ok (.ireturn, 1) := by decide +kernel
theorem d_FG_stops_10 : decode M_FG_stops.2.1 10 = .ok (.aload_n 0, 1) := by decide +kernel
theorem d_FG_stops_11 : decode M_FG_stops.2.1 11 = .ok (.getfield 41, 3) := by decide +kernel
theorem d_FG_stops_14 : decode M_FG_stops.2.1 14 = .ok (.iconst 2, 1) := by decide +kernel
theorem d_FG_stops_15 : decode M_FG_stops.2.1 15 = .ok (.aaload, 1) := by decide +kernel
theorem d_FG_stops_16 : decode M_FG_stops.2.1 16 = .ok (.iload_n 1, 1) := by decide +kernel
theorem d_FG_stops_17 : decode M_FG_stops.2.1 17 = .ok (.iaload, 1) := by decide +kernel
theorem d_FG_stops_18 : decode M_FG_stops.2.1 18 = .ok (.ifCond .eq 6, 3) := by decide +kernel
theorem d_FG_stops_21 : decode M_FG_stops.2.1 21 = .ok (.bipush (-3), 2) := by decide +kernel
theorem d_FG_stops_23 : decode M_FG_stops.2.1 23 = .ok (.ireturn, 1) := by decide +kernel
theorem d_FG_stops_24 : decode M_FG_stops.2.1 24 = .ok (.aload_n 0, 1) := by decide +kernel
theorem d_FG_stops_25 : decode M_FG_stops.2.1 25 = .ok (.getfield 41, 3) := by decide +kernel
theorem d_FG_stops_28 : decode M_FG_stops.2.1 28 = .ok (.iconst 2, 1) := by decide +kernel
theorem d_FG_stops_29 : decode M_FG_stops.2.1 29 = .ok (.aaload, 1) := by decide +kernel
theorem d_FG_stops_30 : decode M_FG_stops.2.1 30 = .ok (.iload_n 1, 1) := by decide +kernel
theorem d_FG_stops_31 : decode M_FG_stops.2.1 31 = .ok (.iconst 1, 1) := by decide +kernel
theorem d_FG_stops_32 : decode M_FG_stops.2.1 32 = .ok (.iastore, 1) := by decide +kernel
theorem d_FG_stops_33 : decode M_FG_stops.2.1 33 = .ok (.aload_n 0, 1) := by decide +kernel
theorem d_FG_stops_34 : decode M_FG_stops.2.1 34 = .ok (.getfield 41, 3) := by decide +kernel
theorem d_FG_stops_37 : decode M_FG_stops.2.1 37 = .ok (.iconst 0, 1) := by decide +kernel
theorem d_FG_stops_38 : decode M_FG_stops.2.1 38 = .ok (.aaload, 1) := by decide +kernel
theorem d_FG_stops_39 : decode M_FG_stops.2.1 39 = .ok (.iload_n 1, 1) := by decide +kernel
theorem d_FG_stops_40 : decode M_FG_stops.2.1 40 = .ok (.iaload, 1) := by decide +kernel
theorem d_FG_stops_41 : decode M_FG_stops.2.1 41 = .ok (.aload_n 0, 1) := by decide +kernel
theorem d_FG_stops_42 : decode M_FG_stops.2.1 42 = .ok (.getfield 41, 3) := by decide +kernel
theorem d_FG_stops_45 : decode M_FG_stops.2.1 45 = .ok (.iconst 1, 1) := by decide +kernel
theorem d_FG_stops_46 : decode M_FG_stops.2.1 46 = .ok (.aaload, 1) := by decide +kernel
theorem d_FG_stops_47 : decode M_FG_stops.2.1 47 = .ok (.iload_n 1, 1) := by decide +kernel
theorem d_FG_stops_48 : decode M_FG_stops.2.1 48 = .ok (.iaload, 1) := by decide +kernel
theorem d_FG_stops_49 : decode M_FG_stops.2.1 49 = .ok (.isub, 1) := by decide +kernel
theorem d_FG_stops_50 : decode M_FG_stops.2.1 50 = .ok (.ireturn, 1) := by decide +kernel
set_option maxHeartbeats 4000000 in
set_option maxRecDepth 100000 in
theorem ok_FG_stops {D : xD} {N : Nat} {l : Launch} {d : Nat} {c x V : T2} {P : Nat → Int32} {ln df : Nat → Option Nat} {rest : List va_E} {K : Option Value → List va_E → Prop} {m : Int32} {nb : Nat} (hnm : c 32 4 = nI nb) (hm6 : nb ≤ 6)  (hK : K (some (.int (sp_stops c m).1)) (encC D N (sp_stops c m).2 x (va_up V 0 P) ln df ++ rest)) : Ok D N l (d + 2) M_FG_stops [.ref (N + 0), .int m] (encC D N c x (va_up V 0 P) ln df ++ rest) 0 0 K := by
  refine ok_of (L := [(0, _), (1, _)]) (by decide) (Nat.le_of_ble_eq_true rfl) rfl ?_
  refine wp_aload_n (q := 1) d_FG_stops_0 rfl rfl ?_
  refine wp_iload_n (q := 2) d_FG_stops_1 rfl rfl ?_
  refine wp_cv1 (q := 5) lk_FG_287 (ro _ _ _) d_FG_stops_2 rfl (Nat.le_of_ble_eq_true rfl) (rfl) rfl (Nat.zero_le _) (Nat.zero_le _) ?_
  refine ok_FG_isMember hnm hm6 (fun m1 hm1 e => ?_) (fun hm1 => ?_)
  · subst e
    refine wp_if_ne_t (tgt := 10) d_FG_stops_5 (by decide) (by decide) ?_
    refine wp_aload_n (q := 11) d_FG_stops_10 rfl rfl ?_
    refine wp_get (q := 14) fl_FG_41 d_FG_stops_11 rfl rfl rfl ?_
    refine wp_iconst (q := 15) d_FG_stops_14 rfl ic_2 ?_
    refine wp_aldA (q := 16) d_FG_stops_15 rfl (rfl) (by omega) (by decide) (rows_at (by omega)) ?_
    refine wp_iload_n (q := 17) d_FG_stops_16 rfl rfl ?_
    refine wp_iald (q := 18) d_FG_stops_17 rfl (rfl) (by omega) (by decide) ?_
    refine wp_if_eq (q := 21) (tgt := 24) d_FG_stops_18 (by decide) rfl (fun hc_18 => ?_) (fun hc_18 => ?_)
    · refine wp_aload_n (q := 25) d_FG_stops_24 rfl rfl ?_
      refine wp_get (q := 28) fl_FG_41 d_FG_stops_25 rfl rfl rfl ?_
      refine wp_iconst (q := 29) d_FG_stops_28 rfl ic_2 ?_
      refine wp_aldA (q := 30) d_FG_stops_29 rfl (rfl) (by omega) (by decide) (rows_at (by omega)) ?_
      refine wp_iload_n (q := 31) d_FG_stops_30 rfl rfl ?_
      refine wp_iconst (q := 32) d_FG_stops_31 rfl ic_1 ?_
      refine wp_iast (q := 33) d_FG_stops_32 rfl (rfl) (by omega) (by decide) (fc_85) ?_
      refine wp_aload_n (q := 34) d_FG_stops_33 rfl rfl ?_
      refine wp_get (q := 37) fl_FG_41 d_FG_stops_34 rfl rfl rfl ?_
      refine wp_iconst (q := 38) d_FG_stops_37 rfl ic_0 ?_
      refine wp_aldA (q := 39) d_FG_stops_38 rfl (rfl) (by omega) (by decide) (rows_at (by omega)) ?_
      refine wp_iload_n (q := 40) d_FG_stops_39 rfl rfl ?_
      refine wp_iald (q := 41) d_FG_stops_40 rfl (rfl) (by omega) (by decide) ?_
      refine wp_aload_n (q := 42) d_FG_stops_41 rfl rfl ?_
      refine wp_get (q := 45) fl_FG_41 d_FG_stops_42 rfl rfl rfl ?_
      refine wp_iconst (q := 46) d_FG_stops_45 rfl ic_1 ?_
      refine wp_aldA (q := 47) d_FG_stops_46 rfl (rfl) (by omega) (by decide) (rows_at (by omega)) ?_
      refine wp_iload_n (q := 48) d_FG_stops_47 rfl rfl ?_
      refine wp_iald (q := 49) d_FG_stops_48 rfl (rfl) (by omega) (by decide) ?_
      refine wp_isub (q := 50) d_FG_stops_49 rfl ?_
      refine wp_iret d_FG_stops_50 rfl (Nat.le_refl _) (Nat.le_refl _) ?_
      simp only [sp_stops, inn, inb, inm, btw, inm_t hnm hm6 hm1, tnt (Nat.lt_of_lt_of_le hm1 hm6), hc_18, not_true_eq_false, not_false_eq_true, or_false, false_or, or_true, true_or, and_true, true_and, and_false, false_and, or_self, and_self, if_true, if_false, ite_true, ite_false, eq_self] at hK
      first | exact hK | (simp (disch := omega) only [tput_eq, tput2, tput_ne, upd_eq, upd_ne, ne_eq, va_upeq, va_upne, va_up2, not_true_eq_false, not_false_eq_true, or_false, false_or, or_true, true_or, and_true, true_and, and_false, false_and, or_self, and_self, if_true, if_false, ite_true, ite_false, eq_self] at hK ⊢; exact hK) | (simp (disch := omega) only [tput_eq, tput2, tput_ne, upd_eq, upd_ne, ne_eq, va_upeq, va_upne, va_up2, not_true_eq_false, not_false_eq_true, or_false, false_or, or_true, true_or, and_true, true_and, and_false, false_and, or_self, and_self, if_true, if_false, ite_true, ite_false, eq_self]; exact hK) | (simp (disch := omega) only [tput_eq, tput2, tput_ne, upd_eq, upd_ne, ne_eq, va_upeq, va_upne, va_up2, not_true_eq_false, not_false_eq_true, or_false, false_or, or_true, true_or, and_true, true_and, and_false, false_and, or_self, and_self, if_true, if_false, ite_true, ite_false, eq_self] at hK; exact hK)
    · refine wp_bipush (q := 23) d_FG_stops_21 rfl bp_m3 ?_
      refine wp_iret d_FG_stops_23 rfl (Nat.le_refl _) (Nat.le_refl _) ?_
      simp only [sp_stops, inn, inb, inm, btw, inm_t hnm hm6 hm1, tnt (Nat.lt_of_lt_of_le hm1 hm6), hc_18, not_true_eq_false, not_false_eq_true, or_false, false_or, or_true, true_or, and_true, true_and, and_false, false_and, or_self, and_self, if_true, if_false, ite_true, ite_false, eq_self] at hK
      first | exact hK | (simp (disch := omega) only [tput_eq, tput2, tput_ne, upd_eq, upd_ne, ne_eq, va_upeq, va_upne, va_up2, not_true_eq_false, not_false_eq_true, or_false, false_or, or_true, true_or, and_true, true_and, and_false, false_and, or_self, and_self, if_true, if_false, ite_true, ite_false, eq_self] at hK ⊢; exact hK) | (simp (disch := omega) only [tput_eq, tput2, tput_ne, upd_eq, upd_ne, ne_eq, va_upeq, va_upne, va_up2, not_true_eq_false, not_false_eq_true, or_false, false_or, or_true, true_or, and_true, true_and, and_false, false_and, or_self, and_self, if_true, if_false, ite_true, ite_false, eq_self]; exact hK) | (simp (disch := omega) only [tput_eq, tput2, tput_ne, upd_eq, upd_ne, ne_eq, va_upeq, va_upne, va_up2, not_true_eq_false, not_false_eq_true, or_false, false_or, or_true, true_or, and_true, true_and, and_false, false_and, or_self, and_self, if_true, if_false, ite_true, ite_false, eq_self] at hK; exact hK)
  · refine wp_if_ne_f (q := 8) (tgt := 10) d_FG_stops_5 (by decide) rfl (by decide) ?_
    refine wp_iconst (q := 9) d_FG_stops_8 rfl ic_m1 ?_
    refine wp_iret d_FG_stops_9 rfl (Nat.le_refl _) (Nat.le_refl _) ?_
    simp only [sp_stops, inn, inb, inm, btw, hm1, not_true_eq_false, not_false_eq_true, or_false, false_or, or_true, true_or, and_true, true_and, and_false, false_and, or_self, and_self, if_true, if_false, ite_true, ite_false, eq_self] at hK
    first | exact hK | (simp (disch := omega) only [tput_eq, tput2, tput_ne, upd_eq, upd_ne, ne_eq, va_upeq, va_upne, va_up2, not_true_eq_false, not_false_eq_true, or_false, false_or, or_true, true_or, and_true, true_and, and_false, false_and, or_self, and_self, if_true, if_false, ite_true, ite_false, eq_self] at hK ⊢; exact hK) | (simp (disch := omega) only [tput_eq, tput2, tput_ne, upd_eq, upd_ne, ne_eq, va_upeq, va_upne, va_up2, not_true_eq_false, not_false_eq_true, or_false, false_or, or_true, true_or, and_true, true_and, and_false, false_and, or_self, and_self, if_true, if_false, ite_true, ite_false, eq_self]; exact hK) | (simp (disch := omega) only [tput_eq, tput2, tput_ne, upd_eq, upd_ne, ne_eq, va_upeq, va_upne, va_up2, not_true_eq_false, not_false_eq_true, or_false, false_or, or_true, true_or, and_true, true_and, and_false, false_and, or_self, and_self, if_true, if_false, ite_true, ite_false, eq_self] at hK; exact hK)
theorem d_Rf_stops_0 : decode M_Rf_stops.2.1 0 = .ok (.aload_n 0, 1) := by decide +kernel
theorem d_Rf_stops_1 : decode M_Rf_stops.2.1 1 = .ok (.iload_n 1, 1) := by decide +kernel
theorem d_Rf_stops_2 : decode M_Rf_stops.2.1 2 = .ok (.invokevirtual 300, 3) := by decide +kernel
theorem d_Rf_stops_5 : decode M_Rf_stops.2.1 5 = .ok (.ifCond .ne 5, 3) := by decide +kernel
theorem d_Rf_stops_8 : decode M_Rf_stops.2.1 8 = .ok (.iconst (-1), 1) := by decide +kernel
theorem d_Rf_stops_9 : decode M_Rf_stops.2.1 9 = .ok (.ireturn, 1) := by decide +kernel
theorem d_Rf_stops_10 : decode M_Rf_stops.2.1 10 = .ok (.aload_n 0, 1) := by decide +kernel
theorem d_Rf_stops_11 : decode M_Rf_stops.2.1 11 = .ok (.getfield 55, 3) := by decide +kernel
theorem d_Rf_stops_14 : decode M_Rf_stops.2.1 14 = .ok (.iload_n 1, 1) := by decide +kernel
theorem d_Rf_stops_15 : decode M_Rf_stops.2.1 15 = .ok (.baload, 1) := by decide +kernel
theorem d_Rf_stops_16 : decode M_Rf_stops.2.1 16 = .ok (.ifCond .eq 6, 3) := by decide +kernel
theorem d_Rf_stops_19 : decode M_Rf_stops.2.1 19 = .ok (.bipush (-3), 2) := by decide +kernel
theorem d_Rf_stops_21 : decode M_Rf_stops.2.1 21 = .ok (.ireturn, 1) := by decide +kernel
theorem d_Rf_stops_22 : decode M_Rf_stops.2.1 22 = .ok (.aload_n 0, 1) := by decide +kernel
theorem d_Rf_stops_23 : decode M_Rf_stops.2.1 23 = .ok (.getfield 55, 3) := by decide +kernel
theorem d_Rf_stops_26 : decode M_Rf_stops.2.1 26 = .ok (.iload_n 1, 1) := by decide +kernel
theorem d_Rf_stops_27 : decode M_Rf_stops.2.1 27 = .ok (.iconst 1, 1) := by decide +kernel
theorem d_Rf_stops_28 : decode M_Rf_stops.2.1 28 = .ok (.bastore, 1) := by decide +kernel
theorem d_Rf_stops_29 : decode M_Rf_stops.2.1 29 = .ok (.aload_n 0, 1) := by decide +kernel
theorem d_Rf_stops_30 : decode M_Rf_stops.2.1 30 = .ok (.getfield 49, 3) := by decide +kernel
theorem d_Rf_stops_33 : decode M_Rf_stops.2.1 33 = .ok (.iload_n 1, 1) := by decide +kernel
theorem d_Rf_stops_34 : decode M_Rf_stops.2.1 34 = .ok (.iaload, 1) := by decide +kernel
theorem d_Rf_stops_35 : decode M_Rf_stops.2.1 35 = .ok (.aload_n 0, 1) := by decide +kernel
theorem d_Rf_stops_36 : decode M_Rf_stops.2.1 36 = .ok (.getfield 52, 3) := by decide +kernel
theorem d_Rf_stops_39 : decode M_Rf_stops.2.1 39 = .ok (.iload_n 1, 1) := by decide +kernel
theorem d_Rf_stops_40 : decode M_Rf_stops.2.1 40 = .ok (.iaload, 1) := by decide +kernel
theorem d_Rf_stops_41 : decode M_Rf_stops.2.1 41 = .ok (.isub, 1) := by decide +kernel
theorem d_Rf_stops_42 : decode M_Rf_stops.2.1 42 = .ok (.ireturn, 1) := by decide +kernel
set_option maxHeartbeats 4000000 in
set_option maxRecDepth 100000 in
theorem ok_Rf_stops {D : xD} {N : Nat} {l : Launch} {d : Nat} {c z : T2} {P Q : Nat → Int32} {rest : List va_E} {K : Option Value → List va_E → Prop} {m : Int32} {nb : Nat} (hnm : c 32 4 = nI nb) (hm6 : nb ≤ 6)  (hK : K (some (.int (sp_stops c m).1)) (encR D N (sp_stops c m).2 z P Q ++ rest)) : Ok D N l (d + 2) M_Rf_stops [.ref (N + 0), .int m] (encR D N c z P Q ++ rest) 0 0 K := by
  refine ok_of (L := [(0, _), (1, _)]) (by decide) (Nat.le_of_ble_eq_true rfl) rfl ?_
  refine wp_aload_n (q := 1) d_Rf_stops_0 rfl rfl ?_
  refine wp_iload_n (q := 2) d_Rf_stops_1 rfl rfl ?_
  refine wp_cv1 (q := 5) lk_Rf_300 (ro _ _ _) d_Rf_stops_2 rfl (Nat.le_of_ble_eq_true rfl) (rfl) rfl (Nat.zero_le _) (Nat.zero_le _) ?_
  refine ok_Rf_isMember hnm hm6 (fun m1 hm1 e => ?_) (fun hm1 => ?_)
  · subst e
    refine wp_if_ne_t (tgt := 10) d_Rf_stops_5 (by decide) (by decide) ?_
    refine wp_aload_n (q := 11) d_Rf_stops_10 rfl rfl ?_
    refine wp_get (q := 14) fl_Rf_55 d_Rf_stops_11 rfl rfl rfl ?_
    refine wp_iload_n (q := 15) d_Rf_stops_14 rfl rfl ?_
    refine wp_zald (q := 16) d_Rf_stops_15 rfl (rfl) (by omega) (by decide) ?_
    refine wp_if_eq (q := 19) (tgt := 22) d_Rf_stops_16 (by decide) rfl (fun hc_16 => ?_) (fun hc_16 => ?_)
    · refine wp_aload_n (q := 23) d_Rf_stops_22 rfl rfl ?_
      refine wp_get (q := 26) fl_Rf_55 d_Rf_stops_23 rfl rfl rfl ?_
      refine wp_iload_n (q := 27) d_Rf_stops_26 rfl rfl ?_
      refine wp_iconst (q := 28) d_Rf_stops_27 rfl ic_1 ?_
      refine wp_zast (q := 29) d_Rf_stops_28 rfl (rfl) (by omega) (by decide) (rfl) (fr_16) ?_
      refine wp_aload_n (q := 30) d_Rf_stops_29 rfl rfl ?_
      refine wp_get (q := 33) fl_Rf_49 d_Rf_stops_30 rfl rfl rfl ?_
      refine wp_iload_n (q := 34) d_Rf_stops_33 rfl rfl ?_
      refine wp_iald (q := 35) d_Rf_stops_34 rfl (rfl) (by omega) (by decide) ?_
      refine wp_aload_n (q := 36) d_Rf_stops_35 rfl rfl ?_
      refine wp_get (q := 39) fl_Rf_52 d_Rf_stops_36 rfl rfl rfl ?_
      refine wp_iload_n (q := 40) d_Rf_stops_39 rfl rfl ?_
      refine wp_iald (q := 41) d_Rf_stops_40 rfl (rfl) (by omega) (by decide) ?_
      refine wp_isub (q := 42) d_Rf_stops_41 rfl ?_
      refine wp_iret d_Rf_stops_42 rfl (Nat.le_refl _) (Nat.le_refl _) ?_
      simp only [sp_stops, inn, inb, inm, btw, inm_t hnm hm6 hm1, tnt (Nat.lt_of_lt_of_le hm1 hm6), hc_16, not_true_eq_false, not_false_eq_true, or_false, false_or, or_true, true_or, and_true, true_and, and_false, false_and, or_self, and_self, if_true, if_false, ite_true, ite_false, eq_self] at hK
      first | exact hK | (simp (disch := omega) only [tput_eq, tput2, tput_ne, upd_eq, upd_ne, ne_eq, va_upeq, va_upne, va_up2, not_true_eq_false, not_false_eq_true, or_false, false_or, or_true, true_or, and_true, true_and, and_false, false_and, or_self, and_self, if_true, if_false, ite_true, ite_false, eq_self] at hK ⊢; exact hK) | (simp (disch := omega) only [tput_eq, tput2, tput_ne, upd_eq, upd_ne, ne_eq, va_upeq, va_upne, va_up2, not_true_eq_false, not_false_eq_true, or_false, false_or, or_true, true_or, and_true, true_and, and_false, false_and, or_self, and_self, if_true, if_false, ite_true, ite_false, eq_self]; exact hK) | (simp (disch := omega) only [tput_eq, tput2, tput_ne, upd_eq, upd_ne, ne_eq, va_upeq, va_upne, va_up2, not_true_eq_false, not_false_eq_true, or_false, false_or, or_true, true_or, and_true, true_and, and_false, false_and, or_self, and_self, if_true, if_false, ite_true, ite_false, eq_self] at hK; exact hK)
    · refine wp_bipush (q := 21) d_Rf_stops_19 rfl bp_m3 ?_
      refine wp_iret d_Rf_stops_21 rfl (Nat.le_refl _) (Nat.le_refl _) ?_
      simp only [sp_stops, inn, inb, inm, btw, inm_t hnm hm6 hm1, tnt (Nat.lt_of_lt_of_le hm1 hm6), hc_16, not_true_eq_false, not_false_eq_true, or_false, false_or, or_true, true_or, and_true, true_and, and_false, false_and, or_self, and_self, if_true, if_false, ite_true, ite_false, eq_self] at hK
      first | exact hK | (simp (disch := omega) only [tput_eq, tput2, tput_ne, upd_eq, upd_ne, ne_eq, va_upeq, va_upne, va_up2, not_true_eq_false, not_false_eq_true, or_false, false_or, or_true, true_or, and_true, true_and, and_false, false_and, or_self, and_self, if_true, if_false, ite_true, ite_false, eq_self] at hK ⊢; exact hK) | (simp (disch := omega) only [tput_eq, tput2, tput_ne, upd_eq, upd_ne, ne_eq, va_upeq, va_upne, va_up2, not_true_eq_false, not_false_eq_true, or_false, false_or, or_true, true_or, and_true, true_and, and_false, false_and, or_self, and_self, if_true, if_false, ite_true, ite_false, eq_self]; exact hK) | (simp (disch := omega) only [tput_eq, tput2, tput_ne, upd_eq, upd_ne, ne_eq, va_upeq, va_upne, va_up2, not_true_eq_false, not_false_eq_true, or_false, false_or, or_true, true_or, and_true, true_and, and_false, false_and, or_self, and_self, if_true, if_false, ite_true, ite_false, eq_self] at hK; exact hK)
  · refine wp_if_ne_f (q := 8) (tgt := 10) d_Rf_stops_5 (by decide) rfl (by decide) ?_
    refine wp_iconst (q := 9) d_Rf_stops_8 rfl ic_m1 ?_
    refine wp_iret d_Rf_stops_9 rfl (Nat.le_refl _) (Nat.le_refl _) ?_
    simp only [sp_stops, inn, inb, inm, btw, hm1, not_true_eq_false, not_false_eq_true, or_false, false_or, or_true, true_or, and_true, true_and, and_false, false_and, or_self, and_self, if_true, if_false, ite_true, ite_false, eq_self] at hK
    first | exact hK | (simp (disch := omega) only [tput_eq, tput2, tput_ne, upd_eq, upd_ne, ne_eq, va_upeq, va_upne, va_up2, not_true_eq_false, not_false_eq_true, or_false, false_or, or_true, true_or, and_true, true_and, and_false, false_and, or_self, and_self, if_true, if_false, ite_true, ite_false, eq_self] at hK ⊢; exact hK) | (simp (disch := omega) only [tput_eq, tput2, tput_ne, upd_eq, upd_ne, ne_eq, va_upeq, va_upne, va_up2, not_true_eq_false, not_false_eq_true, or_false, false_or, or_true, true_or, and_true, true_and, and_false, false_and, or_self, and_self, if_true, if_false, ite_true, ite_false, eq_self]; exact hK) | (simp (disch := omega) only [tput_eq, tput2, tput_ne, upd_eq, upd_ne, ne_eq, va_upeq, va_upne, va_up2, not_true_eq_false, not_false_eq_true, or_false, false_or, or_true, true_or, and_true, true_and, and_false, false_and, or_self, and_self, if_true, if_false, ite_true, ite_false, eq_self] at hK; exact hK)
