theorem fd_b (y : Int64) : y.toInt32.toInt8.toInt32.toInt8.toInt32 = (y &&& 255).toInt32.toInt8.toInt32 := by
  have h1 : ∀ z : Int8, z.toInt32.toInt8 = z := fun z => by simp
  rw [h1]
  congr 1
  have h2 : ∀ z : Int64, z.toInt32.toInt8 = z.toInt8 := fun z => by simp
  rw [h2, h2, Int64.toInt8_and]
  have h3 : (255 : Int64).toInt8 = -1 := by decide
  rw [h3]
  simp
def bv (w : Int64) (k : Nat) : Int32 := (w >>> ((nI (8 * k)).toInt64 &&& 63) &&& 255).toInt32
def ftN (f : Nat → Int32) (w : Int64) (tp n : Nat) : Nat → (Nat → Int32)
  | 0 => f
  | j + 1 => upd (ftN f w tp n j) (tp + j) (bv w (n - 1 - j))
theorem lv_0 : ∀ n, n < 9 → ∀ j, j < n → nI n - nI (j + 1) = nI (n - 1 - j) := by decide +kernel
theorem lv_1 : ∀ n, n < 9 → ∀ j, j < n → nI (n - 1 - j) + Int32.ofInt (-1) = nI n - nI (j + 1 + 1) := by decide +kernel
theorem lv_e : ∀ n, n < 9 → nI n - nI (n + 1) < 0 := by decide +kernel
def sp_feed (c : T2) (tp : Nat) (w : Int64) (n : Int32) : Int32 × T2 := if ¬ btw (nI 1) n (nI 8) then (-2, c) else if ¬ nI tp + n ≤ nI 160 then (-4, c) else (nI (tp + tn n), tput (tput c 21 (ftN (c 21) w tp (tn n) (tn n))) 32 (upd (c 32) 8 (nI (tp + tn n))))
theorem tput_cm (c : T2) {a b : Nat} (f g f2 g2 : Nat → Int32) (h : a ≠ b := by decide) : tput (tput (tput (tput c a f) b g) a f2) b g2 = tput (tput c a f2) b g2 := by
  funext k; simp only [tput]
  repeat' split
  all_goals rfl
theorem d_Tp_append_0 : decode M_Tp_append.2.1 0 = .ok (.iload_n 3, 1) := by decide +kernel
theorem d_Tp_append_1 : decode M_Tp_append.2.1 1 = .ok (.iconst 1, 1) := by decide +kernel
theorem d_Tp_append_2 : decode M_Tp_append.2.1 2 = .ok (.isub, 1) := by decide +kernel
theorem d_Tp_append_3 : decode M_Tp_append.2.1 3 = .ok (.istore 4, 2) := by decide +kernel
theorem d_Tp_append_5 : decode M_Tp_append.2.1 5 = .ok (.iload 4, 2) := by decide +kernel
theorem d_Tp_append_7 : decode M_Tp_append.2.1 7 = .ok (.ifCond .lt 47, 3) := by decide +kernel
theorem d_Tp_append_10 : decode M_Tp_append.2.1 10 = .ok (.aload_n 0, 1) := by decide +kernel
theorem d_Tp_append_11 : decode M_Tp_append.2.1 11 = .ok (.getfield 21, 3) := by decide +kernel
theorem d_Tp_append_14 : decode M_Tp_append.2.1 14 = .ok (.sipush 160, 3) := by decide +kernel
theorem d_Tp_append_17 : decode M_Tp_append.2.1 17 = .ok (.if_icmp .ge 37, 3) := by decide +kernel
theorem d_Tp_append_20 : decode M_Tp_append.2.1 20 = .ok (.aload_n 0, 1) := by decide +kernel
theorem d_Tp_append_21 : decode M_Tp_append.2.1 21 = .ok (.getfield 9, 3) := by decide +kernel
theorem d_Tp_append_24 : decode M_Tp_append.2.1 24 = .ok (.aload_n 0, 1) := by decide +kernel
theorem d_Tp_append_25 : decode M_Tp_append.2.1 25 = .ok (.getfield 21, 3) := by decide +kernel
theorem d_Tp_append_28 : decode M_Tp_append.2.1 28 = .ok (.lload_n 1, 1) := by decide +kernel
theorem d_Tp_append_29 : decode M_Tp_append.2.1 29 = .ok (.bipush 8, 2) := by decide +kernel
theorem d_Tp_append_31 : decode M_Tp_append.2.1 31 = .ok (.iload 4, 2) := by decide +kernel
theorem d_Tp_append_33 : decode M_Tp_append.2.1 33 = .ok (.imul, 1) := by decide +kernel
theorem d_Tp_append_34 : decode M_Tp_append.2.1 34 = .ok (.lshr, 1) := by decide +kernel
theorem d_Tp_append_35 : decode M_Tp_append.2.1 35 = .ok (.l2i, 1) := by decide +kernel
theorem d_Tp_append_36 : decode M_Tp_append.2.1 36 = .ok (.i2b, 1) := by decide +kernel
theorem d_Tp_append_37 : decode M_Tp_append.2.1 37 = .ok (.bastore, 1) := by decide +kernel
theorem d_Tp_append_38 : decode M_Tp_append.2.1 38 = .ok (.aload_n 0, 1) := by decide +kernel
theorem d_Tp_append_39 : decode M_Tp_append.2.1 39 = .ok (.dup, 1) := by decide +kernel
theorem d_Tp_append_40 : decode M_Tp_append.2.1 40 = .ok (.getfield 21, 3) := by decide +kernel
theorem d_Tp_append_43 : decode M_Tp_append.2.1 43 = .ok (.iconst 1, 1) := by decide +kernel
theorem d_Tp_append_44 : decode M_Tp_append.2.1 44 = .ok (.iadd, 1) := by decide +kernel
theorem d_Tp_append_45 : decode M_Tp_append.2.1 45 = .ok (.putfield 21, 3) := by decide +kernel
theorem d_Tp_append_48 : decode M_Tp_append.2.1 48 = .ok (.iinc 4 (-1), 3) := by decide +kernel
theorem d_Tp_append_51 : decode M_Tp_append.2.1 51 = .ok (.goto (-46), 3) := by decide +kernel
theorem d_Tp_append_54 : decode M_Tp_append.2.1 54 = .ok (.aload_n 0, 1) := by decide +kernel
theorem d_Tp_append_55 : decode M_Tp_append.2.1 55 = .ok (.getfield 21, 3) := by decide +kernel
theorem d_Tp_append_58 : decode M_Tp_append.2.1 58 = .ok (.ireturn, 1) := by decide +kernel
set_option maxHeartbeats 4000000 in
set_option maxRecDepth 100000 in
theorem ok_Tp_append {D : xD} {N : Nat} {l : Launch} {d : Nat} {c x V : T2} {ln df : Nat → Option Nat} {rest : List va_E} {K : Option Value → List va_E → Prop} {tp : Nat} (htp : c 32 8 = nI tp) (h160 : tp ≤ 160) {w : Int64} {n : Nat} (hn : n ≤ 8) (hs : tp + n ≤ 160) (hK : K (some (.int (nI (tp + n)))) (encC D N (tput (tput c 21 (ftN (c 21) w tp n n)) 32 (upd (c 32) 8 (nI (tp + n)))) x V ln df ++ rest)) : Ok D N l d M_Tp_append [.ref (N + 72), .long w, .int (nI n)] (encC D N c x V ln df ++ rest) 0 0 K := by
  have lp : ∀ j : Nat, j ≤ n → Wp D N l (EI M_Tp_append) M_Tp_append (Rm d 0 0) (Qm D N K 0 0) 0 0 5 [(4, .int (nI n - nI (j + 1))), (0, .ref (N + 72)), (1, .long w), (3, .int (nI n))] [] (encC D N (tput (tput c 21 (ftN (c 21) w tp n j)) 32 (upd (c 32) 8 (nI (tp + j)))) x V ln df ++ rest) := by
    refine up_loop ?_ ?_
    · skip
      refine wp_iload (q := 7) d_Tp_append_5 rfl rfl ?_
      refine wp_if_lt_t (tgt := 54) d_Tp_append_7 (by decide) (lv_e n (by omega)) ?_
      refine wp_aload_n (q := 55) d_Tp_append_54 rfl rfl ?_
      refine wp_get (q := 58) fl_Tp_21 d_Tp_append_55 rfl rfl rfl ?_
      try simp (disch := omega) only [tput_ne, tput_eq, ne_eq, not_false_eq_true, upd_eq, htp]
      refine wp_iret d_Tp_append_58 rfl (Nat.le_refl _) (Nat.le_refl _) ?_
      exact hK
    · intro j hj ih
      rw [lv_0 n (by omega) j hj]
      refine wp_iload (q := 7) d_Tp_append_5 rfl rfl ?_
      refine wp_if_lt_f (q := 10) (tgt := 54) d_Tp_append_7 (by decide) rfl (nI_pos (by omega)) ?_
      refine wp_aload_n (q := 11) d_Tp_append_10 rfl rfl ?_
      refine wp_get (q := 14) fl_Tp_21 d_Tp_append_11 rfl rfl rfl ?_
      try simp (disch := omega) only [tput_ne, tput_eq, ne_eq, not_false_eq_true, upd_eq, htp]
      refine wp_sipush (q := 17) d_Tp_append_14 rfl sp_160 ?_
      refine wp_icmp_ge_f (q := 20) (tgt := 54) d_Tp_append_17 (by decide) rfl (nI_ge (by omega) (by decide)) ?_
      refine wp_aload_n (q := 21) d_Tp_append_20 rfl rfl ?_
      refine wp_get (q := 24) fl_Tp_9 d_Tp_append_21 rfl rfl rfl ?_
      refine wp_aload_n (q := 25) d_Tp_append_24 rfl rfl ?_
      refine wp_get (q := 28) fl_Tp_21 d_Tp_append_25 rfl rfl rfl ?_
      try simp (disch := omega) only [tput_ne, tput_eq, ne_eq, not_false_eq_true, upd_eq, htp]
      refine wp_lload_n (q := 29) d_Tp_append_28 rfl rfl ?_
      refine wp_bipush (q := 31) d_Tp_append_29 rfl bp_8 ?_
      refine wp_iload (q := 33) d_Tp_append_31 rfl rfl ?_
      first | refine wp_imulN (q := 34) d_Tp_append_33 rfl ?_ | refine wp_imul (q := 34) d_Tp_append_33 rfl ?_
      refine wp_lshr (q := 35) d_Tp_append_34 rfl ?_
      refine wp_l2i (q := 36) d_Tp_append_35 rfl ?_
      refine wp_i2b (q := 37) d_Tp_append_36 rfl ?_
      refine wp_bast (q := 38) d_Tp_append_37 rfl (rfl) (by omega) (by decide) (rfl) (fc_73 (v := bv w (n - 1 - j)) (fd_b _)) ?_
      refine wp_aload_n (q := 39) d_Tp_append_38 rfl rfl ?_
      refine wp_dup (q := 40) d_Tp_append_39 rfl rfl ?_
      refine wp_get (q := 43) fl_Tp_21 d_Tp_append_40 rfl rfl rfl ?_
      try simp (disch := omega) only [tput_ne, tput_eq, ne_eq, not_false_eq_true, upd_eq, htp]
      refine wp_iconst (q := 44) d_Tp_append_43 rfl ic_1 ?_
      first | refine wp_iaddN (q := 45) d_Tp_append_44 rfl ?_ | refine wp_iadd (q := 45) d_Tp_append_44 rfl ?_
      refine wp_put (q := 48) fl_Tp_21 d_Tp_append_45 rfl rfl (Nat.le_of_ble_eq_true rfl) rfl rfl (fc_s8) ?_
      refine wp_iinc (q := 51) (L2 := [(4, _), (0, _), (1, _), (3, _)]) d_Tp_append_48 rfl rfl (iinc_g) (by decide) rfl ?_
      refine wp_goto (tgt := 5) d_Tp_append_51 (by decide) ?_
      rw [lv_1 n (by omega) j hj]
      rw [ftN, ← Nat.add_assoc] at ih
      try simp (disch := omega) only [tput_ne, tput_eq, ne_eq, not_false_eq_true, upd_eq, upd_upd, tput_cm]
      exact ih
  refine ok_of (L := [(0, _), (1, _), (3, _)]) (by decide) (Nat.le_of_ble_eq_true rfl) rfl ?_
  refine wp_iload_n (q := 1) d_Tp_append_0 rfl rfl ?_
  refine wp_iconst (q := 2) d_Tp_append_1 rfl ic_1 ?_
  refine wp_isub (q := 3) d_Tp_append_2 rfl ?_
  refine wp_istore (q := 5) (L2 := [(4, _), (0, _), (1, _), (3, _)]) d_Tp_append_3 rfl (by decide) rfl ?_
  have h0 := lp 0 (Nat.zero_le _)
  rw [ftN, tput_id, Nat.add_zero tp, upd_id htp, tput_id] at h0
  exact h0
theorem d_FG_feed_0 : decode M_FG_feed.2.1 0 = .ok (.iload_n 3, 1) := by decide +kernel
theorem d_FG_feed_1 : decode M_FG_feed.2.1 1 = .ok (.iconst 1, 1) := by decide +kernel
theorem d_FG_feed_2 : decode M_FG_feed.2.1 2 = .ok (.bipush 8, 2) := by decide +kernel
theorem d_FG_feed_4 : decode M_FG_feed.2.1 4 = .ok (.invokestatic 61, 3) := by decide +kernel
theorem d_FG_feed_7 : decode M_FG_feed.2.1 7 = .ok (.ifCond .ne 6, 3) := by decide +kernel
theorem d_FG_feed_10 : decode M_FG_feed.2.1 10 = .ok (.bipush (-2), 2) := by decide +kernel
theorem d_FG_feed_12 : decode M_FG_feed.2.1 12 = .ok (.ireturn, 1) := by decide +kernel
theorem d_FG_feed_13 : decode M_FG_feed.2.1 13 = .ok (.aload_n 0, 1) := by decide +kernel
theorem d_FG_feed_14 : decode M_FG_feed.2.1 14 = .ok (.getfield 32, 3) := by decide +kernel
theorem d_FG_feed_17 : decode M_FG_feed.2.1 17 = .ok (.getfield 126, 3) := by decide +kernel
theorem d_FG_feed_20 : decode M_FG_feed.2.1 20 = .ok (.iload_n 3, 1) := by decide +kernel
theorem d_FG_feed_21 : decode M_FG_feed.2.1 21 = .ok (.iadd, 1) := by decide +kernel
theorem d_FG_feed_22 : decode M_FG_feed.2.1 22 = .ok (.sipush 160, 3) := by decide +kernel
theorem d_FG_feed_25 : decode M_FG_feed.2.1 25 = .ok (.if_icmp .le 6, 3) := by decide +kernel
theorem d_FG_feed_28 : decode M_FG_feed.2.1 28 = .ok (.bipush (-4), 2) := by decide +kernel
theorem d_FG_feed_30 : decode M_FG_feed.2.1 30 = .ok (.ireturn, 1) := by decide +kernel
theorem d_FG_feed_31 : decode M_FG_feed.2.1 31 = .ok (.aload_n 0, 1) := by decide +kernel
theorem d_FG_feed_32 : decode M_FG_feed.2.1 32 = .ok (.getfield 32, 3) := by decide +kernel
theorem d_FG_feed_35 : decode M_FG_feed.2.1 35 = .ok (.lload_n 1, 1) := by decide +kernel
theorem d_FG_feed_36 : decode M_FG_feed.2.1 36 = .ok (.iload_n 3, 1) := by decide +kernel
theorem d_FG_feed_37 : decode M_FG_feed.2.1 37 = .ok (.invokevirtual 129, 3) := by decide +kernel
theorem d_FG_feed_40 : decode M_FG_feed.2.1 40 = .ok (.ireturn, 1) := by decide +kernel
set_option maxHeartbeats 4000000 in
set_option maxRecDepth 100000 in
theorem ok_FG_feed {D : xD} {N : Nat} {l : Launch} {d : Nat} {c x V : T2} {ln df : Nat → Option Nat} {rest : List va_E} {K : Option Value → List va_E → Prop} {w : Int64} {n : Int32} {tp : Nat} (htp : c 32 8 = nI tp) (h160 : tp ≤ 160) (hK : K (some (.int (sp_feed c tp w n).1)) (encC D N (sp_feed c tp w n).2 x V ln df ++ rest)) : Ok D N l (d + 1) M_FG_feed [.ref (N + 0), .long w, .int n] (encC D N c x V ln df ++ rest) 0 0 K := by
  refine ok_of (L := [(0, _), (1, _), (3, _)]) (by decide) (Nat.le_of_ble_eq_true rfl) rfl ?_
  refine wp_iload_n (q := 1) d_FG_feed_0 rfl rfl ?_
  refine wp_iconst (q := 2) d_FG_feed_1 rfl ic_1 ?_
  refine wp_bipush (q := 4) d_FG_feed_2 rfl bp_8 ?_
  refine wp_cs3 (q := 7) lk_FG_61 (ro _ _ _) d_FG_feed_4 rfl (Nat.le_of_ble_eq_true rfl) (Nat.zero_le _) (Nat.zero_le _) ?_
  refine ok_FG_within (fun hna hnb2 => ?_) (fun hn => ?_)
  · obtain ⟨n, hn1, hn2, rfl⟩ := nI_btw1 (by decide) hna hnb2
    refine wp_if_ne_t (tgt := 13) d_FG_feed_7 (by decide) (by decide) ?_
    refine wp_aload_n (q := 14) d_FG_feed_13 rfl rfl ?_
    refine wp_get (q := 17) fl_FG_32 d_FG_feed_14 rfl rfl rfl ?_
    refine wp_get (q := 20) fl_FG_126 d_FG_feed_17 rfl rfl rfl ?_
    try simp (disch := omega) only [tput_ne, tput_eq, ne_eq, not_false_eq_true, upd_eq, htp]
    refine wp_iload_n (q := 21) d_FG_feed_20 rfl rfl ?_
    first | refine wp_iaddN (q := 22) d_FG_feed_21 rfl ?_ | refine wp_iadd (q := 22) d_FG_feed_21 rfl ?_
    refine wp_sipush (q := 25) d_FG_feed_22 rfl sp_160 ?_
    refine wp_icmp_le (q := 28) (tgt := 31) d_FG_feed_25 (by decide) rfl (fun hc_25 => ?_) (fun hc_25 => ?_)
    · have hmk : tp + n ≤ 160 := (nI_leI (by omega) (by decide)).mp hc_25
      refine wp_aload_n (q := 32) d_FG_feed_31 rfl rfl ?_
      refine wp_get (q := 35) fl_FG_32 d_FG_feed_32 rfl rfl rfl ?_
      refine wp_lload_n (q := 36) d_FG_feed_35 rfl rfl ?_
      refine wp_iload_n (q := 37) d_FG_feed_36 rfl rfl ?_
      refine wp_cv2 (q := 40) lk_FG_129 (ro _ _ _) d_FG_feed_37 rfl (Nat.le_of_ble_eq_true rfl) (rfl) rfl (Nat.zero_le _) (Nat.zero_le _) ?_
      refine ok_Tp_append htp h160 hn2 hmk ?_
      refine wp_iret d_FG_feed_40 rfl (Nat.le_refl _) (Nat.le_refl _) ?_
      simp only [sp_feed, btw, hna, hnb2, nI_add, hc_25, tnl hn2, not_true_eq_false, not_false_eq_true, if_true, if_false, and_self, ite_true, ite_false] at hK; exact hK
    · refine wp_bipush (q := 30) d_FG_feed_28 rfl bp_m4 ?_
      refine wp_iret d_FG_feed_30 rfl (Nat.le_refl _) (Nat.le_refl _) ?_
      simp only [sp_feed, btw, hna, hnb2, nI_add, hc_25, not_true_eq_false, not_false_eq_true, if_true, if_false, and_self, ite_true, ite_false] at hK; exact hK
  · refine wp_if_ne_f (q := 10) (tgt := 13) d_FG_feed_7 (by decide) rfl (by decide) ?_
    refine wp_bipush (q := 12) d_FG_feed_10 rfl bp_m2 ?_
    refine wp_iret d_FG_feed_12 rfl (Nat.le_refl _) (Nat.le_refl _) ?_
    simp only [sp_feed, btw, hn, not_true_eq_false, not_false_eq_true, if_true, if_false, and_self, ite_true, ite_false] at hK; exact hK
theorem d_Rf_feed_0 : decode M_Rf_feed.2.1 0 = .ok (.iload_n 3, 1) := by decide +kernel
theorem d_Rf_feed_1 : decode M_Rf_feed.2.1 1 = .ok (.iconst 1, 1) := by decide +kernel
theorem d_Rf_feed_2 : decode M_Rf_feed.2.1 2 = .ok (.bipush 8, 2) := by decide +kernel
theorem d_Rf_feed_4 : decode M_Rf_feed.2.1 4 = .ok (.invokestatic 151, 3) := by decide +kernel
theorem d_Rf_feed_7 : decode M_Rf_feed.2.1 7 = .ok (.ifCond .ne 6, 3) := by decide +kernel
theorem d_Rf_feed_10 : decode M_Rf_feed.2.1 10 = .ok (.bipush (-2), 2) := by decide +kernel
theorem d_Rf_feed_12 : decode M_Rf_feed.2.1 12 = .ok (.ireturn, 1) := by decide +kernel
theorem d_Rf_feed_13 : decode M_Rf_feed.2.1 13 = .ok (.aload_n 0, 1) := by decide +kernel
theorem d_Rf_feed_14 : decode M_Rf_feed.2.1 14 = .ok (.getfield 191, 3) := by decide +kernel
theorem d_Rf_feed_17 : decode M_Rf_feed.2.1 17 = .ok (.iload_n 3, 1) := by decide +kernel
theorem d_Rf_feed_18 : decode M_Rf_feed.2.1 18 = .ok (.iadd, 1) := by decide +kernel
theorem d_Rf_feed_19 : decode M_Rf_feed.2.1 19 = .ok (.sipush 160, 3) := by decide +kernel
theorem d_Rf_feed_22 : decode M_Rf_feed.2.1 22 = .ok (.if_icmp .le 6, 3) := by decide +kernel
theorem d_Rf_feed_25 : decode M_Rf_feed.2.1 25 = .ok (.bipush (-4), 2) := by decide +kernel
theorem d_Rf_feed_27 : decode M_Rf_feed.2.1 27 = .ok (.ireturn, 1) := by decide +kernel
theorem d_Rf_feed_28 : decode M_Rf_feed.2.1 28 = .ok (.iload_n 3, 1) := by decide +kernel
theorem d_Rf_feed_29 : decode M_Rf_feed.2.1 29 = .ok (.iconst 1, 1) := by decide +kernel
theorem d_Rf_feed_30 : decode M_Rf_feed.2.1 30 = .ok (.isub, 1) := by decide +kernel
theorem d_Rf_feed_31 : decode M_Rf_feed.2.1 31 = .ok (.istore 4, 2) := by decide +kernel
theorem d_Rf_feed_33 : decode M_Rf_feed.2.1 33 = .ok (.iload 4, 2) := by decide +kernel
theorem d_Rf_feed_35 : decode M_Rf_feed.2.1 35 = .ok (.ifCond .lt 40, 3) := by decide +kernel
theorem d_Rf_feed_38 : decode M_Rf_feed.2.1 38 = .ok (.aload_n 0, 1) := by decide +kernel
theorem d_Rf_feed_39 : decode M_Rf_feed.2.1 39 = .ok (.getfield 77, 3) := by decide +kernel
theorem d_Rf_feed_42 : decode M_Rf_feed.2.1 42 = .ok (.aload_n 0, 1) := by decide +kernel
theorem d_Rf_feed_43 : decode M_Rf_feed.2.1 43 = .ok (.getfield 191, 3) := by decide +kernel
theorem d_Rf_feed_46 : decode M_Rf_feed.2.1 46 = .ok (.lload_n 1, 1) := by decide +kernel
theorem d_Rf_feed_47 : decode M_Rf_feed.2.1 47 = .ok (.bipush 8, 2) := by decide +kernel
theorem d_Rf_feed_49 : decode M_Rf_feed.2.1 49 = .ok (.iload 4, 2) := by decide +kernel
theorem d_Rf_feed_51 : decode M_Rf_feed.2.1 51 = .ok (.imul, 1) := by decide +kernel
theorem d_Rf_feed_52 : decode M_Rf_feed.2.1 52 = .ok (.lshr, 1) := by decide +kernel
theorem d_Rf_feed_53 : decode M_Rf_feed.2.1 53 = .ok (.ldc2_w 194, 3) := by decide +kernel
theorem d_Rf_feed_56 : decode M_Rf_feed.2.1 56 = .ok (.land, 1) := by decide +kernel
theorem d_Rf_feed_57 : decode M_Rf_feed.2.1 57 = .ok (.l2i, 1) := by decide +kernel
theorem d_Rf_feed_58 : decode M_Rf_feed.2.1 58 = .ok (.iastore, 1) := by decide +kernel
theorem d_Rf_feed_59 : decode M_Rf_feed.2.1 59 = .ok (.aload_n 0, 1) := by decide +kernel
theorem d_Rf_feed_60 : decode M_Rf_feed.2.1 60 = .ok (.dup, 1) := by decide +kernel
theorem d_Rf_feed_61 : decode M_Rf_feed.2.1 61 = .ok (.getfield 191, 3) := by decide +kernel
theorem d_Rf_feed_64 : decode M_Rf_feed.2.1 64 = .ok (.iconst 1, 1) := by decide +kernel
theorem d_Rf_feed_65 : decode M_Rf_feed.2.1 65 = .ok (.iadd, 1) := by decide +kernel
theorem d_Rf_feed_66 : decode M_Rf_feed.2.1 66 = .ok (.putfield 191, 3) := by decide +kernel
theorem d_Rf_feed_69 : decode M_Rf_feed.2.1 69 = .ok (.iinc 4 (-1), 3) := by decide +kernel
theorem d_Rf_feed_72 : decode M_Rf_feed.2.1 72 = .ok (.goto (-39), 3) := by decide +kernel
theorem d_Rf_feed_75 : decode M_Rf_feed.2.1 75 = .ok (.aload_n 0, 1) := by decide +kernel
theorem d_Rf_feed_76 : decode M_Rf_feed.2.1 76 = .ok (.getfield 191, 3) := by decide +kernel
theorem d_Rf_feed_79 : decode M_Rf_feed.2.1 79 = .ok (.ireturn, 1) := by decide +kernel
set_option maxHeartbeats 4000000 in
set_option maxRecDepth 100000 in
theorem fe_Rf_feed {D : xD} {N : Nat} {l : Launch} {d : Nat} {c z : T2} {P Q : Nat → Int32} {rest : List va_E} {K : Option Value → List va_E → Prop} {tp : Nat} (htp : c 32 8 = nI tp) (h160 : tp ≤ 160) {w : Int64} {n : Nat} (hn : n ≤ 8) (hs : tp + n ≤ 160) (hK : K (some (.int (nI (tp + n)))) (encR D N (tput (tput c 21 (ftN (c 21) w tp n n)) 32 (upd (c 32) 8 (nI (tp + n)))) z P Q ++ rest)) : Wp D N l (EI M_Rf_feed) M_Rf_feed (Rm (d + 1) 0 0) (Qm D N K 0 0) 0 0 33 [(4, .int (nI n - nI (0 + 1))), (0, .ref (N + 0)), (1, .long w), (3, .int (nI n))] [] (encR D N c z P Q ++ rest) := by
  have lp : ∀ j : Nat, j ≤ n → Wp D N l (EI M_Rf_feed) M_Rf_feed (Rm (d + 1) 0 0) (Qm D N K 0 0) 0 0 33 [(4, .int (nI n - nI (j + 1))), (0, .ref (N + 0)), (1, .long w), (3, .int (nI n))] [] (encR D N (tput (tput c 21 (ftN (c 21) w tp n j)) 32 (upd (c 32) 8 (nI (tp + j)))) z P Q ++ rest) := by
    refine up_loop ?_ ?_
    · skip
      refine wp_iload (q := 35) d_Rf_feed_33 rfl rfl ?_
      refine wp_if_lt_t (tgt := 75) d_Rf_feed_35 (by decide) (lv_e n (by omega)) ?_
      refine wp_aload_n (q := 76) d_Rf_feed_75 rfl rfl ?_
      refine wp_get (q := 79) fl_Rf_191 d_Rf_feed_76 rfl rfl rfl ?_
      try simp (disch := omega) only [tput_ne, tput_eq, ne_eq, not_false_eq_true, upd_eq, htp]
      refine wp_iret d_Rf_feed_79 rfl (Nat.le_refl _) (Nat.le_refl _) ?_
      exact hK
    · intro j hj ih
      rw [lv_0 n (by omega) j hj]
      refine wp_iload (q := 35) d_Rf_feed_33 rfl rfl ?_
      refine wp_if_lt_f (q := 38) (tgt := 75) d_Rf_feed_35 (by decide) rfl (nI_pos (by omega)) ?_
      refine wp_aload_n (q := 39) d_Rf_feed_38 rfl rfl ?_
      refine wp_get (q := 42) fl_Rf_77 d_Rf_feed_39 rfl rfl rfl ?_
      refine wp_aload_n (q := 43) d_Rf_feed_42 rfl rfl ?_
      refine wp_get (q := 46) fl_Rf_191 d_Rf_feed_43 rfl rfl rfl ?_
      try simp (disch := omega) only [tput_ne, tput_eq, ne_eq, not_false_eq_true, upd_eq, htp]
      refine wp_lload_n (q := 47) d_Rf_feed_46 rfl rfl ?_
      refine wp_bipush (q := 49) d_Rf_feed_47 rfl bp_8 ?_
      refine wp_iload (q := 51) d_Rf_feed_49 rfl rfl ?_
      first | refine wp_imulN (q := 52) d_Rf_feed_51 rfl ?_ | refine wp_imul (q := 52) d_Rf_feed_51 rfl ?_
      refine wp_lshr (q := 53) d_Rf_feed_52 rfl ?_
      refine wp_ldc2 (q := 56) d_Rf_feed_53 rfl kl_Rf_194 ?_
      refine wp_land (q := 57) d_Rf_feed_56 rfl ?_
      refine wp_l2i (q := 58) d_Rf_feed_57 rfl ?_
      refine wp_iast (q := 59) d_Rf_feed_58 rfl (rfl) (by omega) (by decide) (fr_23) ?_
      refine wp_aload_n (q := 60) d_Rf_feed_59 rfl rfl ?_
      refine wp_dup (q := 61) d_Rf_feed_60 rfl rfl ?_
      refine wp_get (q := 64) fl_Rf_191 d_Rf_feed_61 rfl rfl rfl ?_
      try simp (disch := omega) only [tput_ne, tput_eq, ne_eq, not_false_eq_true, upd_eq, htp]
      refine wp_iconst (q := 65) d_Rf_feed_64 rfl ic_1 ?_
      first | refine wp_iaddN (q := 66) d_Rf_feed_65 rfl ?_ | refine wp_iadd (q := 66) d_Rf_feed_65 rfl ?_
      refine wp_put (q := 69) fl_Rf_191 d_Rf_feed_66 rfl rfl (Nat.le_of_ble_eq_true rfl) rfl rfl (fr_s8) ?_
      refine wp_iinc (q := 72) (L2 := [(4, _), (0, _), (1, _), (3, _)]) d_Rf_feed_69 rfl rfl (iinc_g) (by decide) rfl ?_
      refine wp_goto (tgt := 33) d_Rf_feed_72 (by decide) ?_
      rw [lv_1 n (by omega) j hj]
      rw [ftN, ← Nat.add_assoc] at ih
      try simp (disch := omega) only [tput_ne, tput_eq, ne_eq, not_false_eq_true, upd_eq, upd_upd, tput_cm]
      exact ih
  have h0 := lp 0 (Nat.zero_le _)
  rw [ftN, tput_id, Nat.add_zero tp, upd_id htp, tput_id] at h0
  exact h0
set_option maxHeartbeats 4000000 in
set_option maxRecDepth 100000 in
theorem ok_Rf_feed {D : xD} {N : Nat} {l : Launch} {d : Nat} {c z : T2} {P Q : Nat → Int32} {rest : List va_E} {K : Option Value → List va_E → Prop} {w : Int64} {n : Int32} {tp : Nat} (htp : c 32 8 = nI tp) (h160 : tp ≤ 160) (hK : K (some (.int (sp_feed c tp w n).1)) (encR D N (sp_feed c tp w n).2 z P Q ++ rest)) : Ok D N l (d + 1) M_Rf_feed [.ref (N + 0), .long w, .int n] (encR D N c z P Q ++ rest) 0 0 K := by
  refine ok_of (L := [(0, _), (1, _), (3, _)]) (by decide) (Nat.le_of_ble_eq_true rfl) rfl ?_
  refine wp_iload_n (q := 1) d_Rf_feed_0 rfl rfl ?_
  refine wp_iconst (q := 2) d_Rf_feed_1 rfl ic_1 ?_
  refine wp_bipush (q := 4) d_Rf_feed_2 rfl bp_8 ?_
  refine wp_cs3 (q := 7) lk_Rf_151 (ro _ _ _) d_Rf_feed_4 rfl (Nat.le_of_ble_eq_true rfl) (Nat.zero_le _) (Nat.zero_le _) ?_
  refine ok_Rf_in (fun hna hnb2 => ?_) (fun hn => ?_)
  · obtain ⟨n, hn1, hn2, rfl⟩ := nI_btw1 (by decide) hna hnb2
    refine wp_if_ne_t (tgt := 13) d_Rf_feed_7 (by decide) (by decide) ?_
    refine wp_aload_n (q := 14) d_Rf_feed_13 rfl rfl ?_
    refine wp_get (q := 17) fl_Rf_191 d_Rf_feed_14 rfl rfl rfl ?_
    try simp (disch := omega) only [tput_ne, tput_eq, ne_eq, not_false_eq_true, upd_eq, htp]
    refine wp_iload_n (q := 18) d_Rf_feed_17 rfl rfl ?_
    first | refine wp_iaddN (q := 19) d_Rf_feed_18 rfl ?_ | refine wp_iadd (q := 19) d_Rf_feed_18 rfl ?_
    refine wp_sipush (q := 22) d_Rf_feed_19 rfl sp_160 ?_
    refine wp_icmp_le (q := 25) (tgt := 28) d_Rf_feed_22 (by decide) rfl (fun hc_22 => ?_) (fun hc_22 => ?_)
    · have hmk : tp + n ≤ 160 := (nI_leI (by omega) (by decide)).mp hc_22
      refine wp_iload_n (q := 29) d_Rf_feed_28 rfl rfl ?_
      refine wp_iconst (q := 30) d_Rf_feed_29 rfl ic_1 ?_
      refine wp_isub (q := 31) d_Rf_feed_30 rfl ?_
      refine wp_istore (q := 33) (L2 := [(4, _), (0, _), (1, _), (3, _)]) d_Rf_feed_31 rfl (by decide) rfl ?_
      refine fe_Rf_feed htp h160 hn2 hmk ?_
      simp only [sp_feed, btw, hna, hnb2, nI_add, hc_22, tnl hn2, not_true_eq_false, not_false_eq_true, if_true, if_false, and_self, ite_true, ite_false] at hK; exact hK
    · refine wp_bipush (q := 27) d_Rf_feed_25 rfl bp_m4 ?_
      refine wp_iret d_Rf_feed_27 rfl (Nat.le_refl _) (Nat.le_refl _) ?_
      simp only [sp_feed, btw, hna, hnb2, nI_add, hc_22, not_true_eq_false, not_false_eq_true, if_true, if_false, and_self, ite_true, ite_false] at hK; exact hK
  · refine wp_if_ne_f (q := 10) (tgt := 13) d_Rf_feed_7 (by decide) rfl (by decide) ?_
    refine wp_bipush (q := 12) d_Rf_feed_10 rfl bp_m2 ?_
    refine wp_iret d_Rf_feed_12 rfl (Nat.le_refl _) (Nat.le_refl _) ?_
    simp only [sp_feed, btw, hn, not_true_eq_false, not_false_eq_true, if_true, if_false, and_self, ite_true, ite_false] at hK; exact hK
