theorem d_Rf_needOf_0 : decode M_Rf_needOf.2.1 0 = .ok (.iload_n 1, 1) := by decide +kernel
theorem d_Rf_needOf_1 : decode M_Rf_needOf.2.1 1 = .ok (.iconst 1, 1) := by decide +kernel
theorem d_Rf_needOf_2 : decode M_Rf_needOf.2.1 2 = .ok (.if_icmp .ge 7, 3) := by decide +kernel
theorem d_Rf_needOf_5 : decode M_Rf_needOf.2.1 5 = .ok (.iconst 1, 1) := by decide +kernel
theorem d_Rf_needOf_6 : decode M_Rf_needOf.2.1 6 = .ok (.goto 15, 3) := by decide +kernel
theorem d_Rf_needOf_9 : decode M_Rf_needOf.2.1 9 = .ok (.iload_n 1, 1) := by decide +kernel
theorem d_Rf_needOf_10 : decode M_Rf_needOf.2.1 10 = .ok (.bipush 100, 2) := by decide +kernel
theorem d_Rf_needOf_12 : decode M_Rf_needOf.2.1 12 = .ok (.if_icmp .le 8, 3) := by decide +kernel
theorem d_Rf_needOf_15 : decode M_Rf_needOf.2.1 15 = .ok (.bipush 100, 2) := by decide +kernel
theorem d_Rf_needOf_17 : decode M_Rf_needOf.2.1 17 = .ok (.goto 4, 3) := by decide +kernel
theorem d_Rf_needOf_20 : decode M_Rf_needOf.2.1 20 = .ok (.iload_n 1, 1) := by decide +kernel
theorem d_Rf_needOf_21 : decode M_Rf_needOf.2.1 21 = .ok (.istore_n 2, 1) := by decide +kernel
theorem d_Rf_needOf_22 : decode M_Rf_needOf.2.1 22 = .ok (.iload_n 0, 1) := by decide +kernel
theorem d_Rf_needOf_23 : decode M_Rf_needOf.2.1 23 = .ok (.iconst 2, 1) := by decide +kernel
theorem d_Rf_needOf_24 : decode M_Rf_needOf.2.1 24 = .ok (.if_icmp .eq 8, 3) := by decide +kernel
theorem d_Rf_needOf_27 : decode M_Rf_needOf.2.1 27 = .ok (.iload_n 0, 1) := by decide +kernel
theorem d_Rf_needOf_28 : decode M_Rf_needOf.2.1 28 = .ok (.iconst 5, 1) := by decide +kernel
theorem d_Rf_needOf_29 : decode M_Rf_needOf.2.1 29 = .ok (.if_icmp .ne 7, 3) := by decide +kernel
theorem d_Rf_needOf_32 : decode M_Rf_needOf.2.1 32 = .ok (.iconst 0, 1) := by decide +kernel
theorem d_Rf_needOf_33 : decode M_Rf_needOf.2.1 33 = .ok (.goto 22, 3) := by decide +kernel
theorem d_Rf_needOf_36 : decode M_Rf_needOf.2.1 36 = .ok (.iload_n 0, 1) := by decide +kernel
theorem d_Rf_needOf_37 : decode M_Rf_needOf.2.1 37 = .ok (.iconst 3, 1) := by decide +kernel
theorem d_Rf_needOf_38 : decode M_Rf_needOf.2.1 38 = .ok (.if_icmp .eq 8, 3) := by decide +kernel
theorem d_Rf_needOf_41 : decode M_Rf_needOf.2.1 41 = .ok (.iload_n 0, 1) := by decide +kernel
theorem d_Rf_needOf_42 : decode M_Rf_needOf.2.1 42 = .ok (.iconst 4, 1) := by decide +kernel
theorem d_Rf_needOf_43 : decode M_Rf_needOf.2.1 43 = .ok (.if_icmp .ne 11, 3) := by decide +kernel
theorem d_Rf_needOf_46 : decode M_Rf_needOf.2.1 46 = .ok (.iload_n 2, 1) := by decide +kernel
theorem d_Rf_needOf_47 : decode M_Rf_needOf.2.1 47 = .ok (.iconst 1, 1) := by decide +kernel
theorem d_Rf_needOf_48 : decode M_Rf_needOf.2.1 48 = .ok (.iadd, 1) := by decide +kernel
theorem d_Rf_needOf_49 : decode M_Rf_needOf.2.1 49 = .ok (.iconst 2, 1) := by decide +kernel
theorem d_Rf_needOf_50 : decode M_Rf_needOf.2.1 50 = .ok (.idiv, 1) := by decide +kernel
theorem d_Rf_needOf_51 : decode M_Rf_needOf.2.1 51 = .ok (.goto 4, 3) := by decide +kernel
theorem d_Rf_needOf_54 : decode M_Rf_needOf.2.1 54 = .ok (.iload_n 2, 1) := by decide +kernel
theorem d_Rf_needOf_55 : decode M_Rf_needOf.2.1 55 = .ok (.ireturn, 1) := by decide +kernel
set_option maxHeartbeats 4000000 in
set_option maxRecDepth 100000 in
theorem ok_Rf_needOf {D : xD} {N : Nat} {l : Launch} {d : Nat} {g : List va_E} {K : Option Value → List va_E → Prop} {kd : Nat} {v : Int32} (hk : kd < 6) (hK : K (some (.int (kNeed kd v))) g) : Ok D N l d M_Rf_needOf [.int (nI kd), .int v] g 0 0 K := by
  refine ok_of (L := [(0, _), (1, _)]) (by decide) (Nat.le_of_ble_eq_true rfl) rfl ?_
  rcases (show kd = 0 ∨ kd = 1 ∨ kd = 2 ∨ kd = 3 ∨ kd = 4 ∨ kd = 5 by omega) with rfl | rfl | rfl | rfl | rfl | rfl
  · skip
    refine wp_iload_n (q := 1) d_Rf_needOf_0 rfl rfl ?_
    refine wp_iconst (q := 2) d_Rf_needOf_1 rfl ic_1 ?_
    refine wp_icmp_ge (q := 5) (tgt := 9) d_Rf_needOf_2 (by decide) rfl (fun hc_2 => ?_) (fun hc_2 => ?_)
    · refine wp_iload_n (q := 10) d_Rf_needOf_9 rfl rfl ?_
      refine wp_bipush (q := 12) d_Rf_needOf_10 rfl bp_100 ?_
      refine wp_icmp_le (q := 15) (tgt := 20) d_Rf_needOf_12 (by decide) rfl (fun hc_12 => ?_) (fun hc_12 => ?_)
      · refine wp_iload_n (q := 21) d_Rf_needOf_20 rfl rfl ?_
        refine wp_istore_n (q := 22) (L2 := [(2, _), (0, _), (1, _)]) d_Rf_needOf_21 rfl (by decide) rfl ?_
        refine wp_iload_n (q := 23) d_Rf_needOf_22 rfl rfl ?_
        refine wp_iconst (q := 24) d_Rf_needOf_23 rfl ic_2 ?_
        refine wp_icmp_eq_f (q := 27) (tgt := 32) d_Rf_needOf_24 (by decide) rfl (by decide) ?_
        refine wp_iload_n (q := 28) d_Rf_needOf_27 rfl rfl ?_
        refine wp_iconst (q := 29) d_Rf_needOf_28 rfl ic_5 ?_
        refine wp_icmp_ne_t (tgt := 36) d_Rf_needOf_29 (by decide) (by decide) ?_
        refine wp_iload_n (q := 37) d_Rf_needOf_36 rfl rfl ?_
        refine wp_iconst (q := 38) d_Rf_needOf_37 rfl ic_3 ?_
        refine wp_icmp_eq_f (q := 41) (tgt := 46) d_Rf_needOf_38 (by decide) rfl (by decide) ?_
        refine wp_iload_n (q := 42) d_Rf_needOf_41 rfl rfl ?_
        refine wp_iconst (q := 43) d_Rf_needOf_42 rfl ic_4 ?_
        refine wp_icmp_ne_t (tgt := 54) d_Rf_needOf_43 (by decide) (by decide) ?_
        refine wp_iload_n (q := 55) d_Rf_needOf_54 rfl rfl ?_
        refine wp_iret d_Rf_needOf_55 rfl (Nat.le_refl _) (Nat.le_refl _) ?_
        first | exact hK | (rw [kNeed] at hK; simp only [nN_eq] at hK; first | (rw [if_pos (nle_lt hc_2)] at hK; exact hK) | (rw [if_neg (le_nlt hc_2), if_pos (nle_lt hc_12)] at hK; exact hK) | (rw [if_neg (le_nlt hc_2), if_neg (le_nlt hc_12)] at hK; exact hK))
      · refine wp_bipush (q := 17) d_Rf_needOf_15 rfl bp_100 ?_
        refine wp_goto (tgt := 21) d_Rf_needOf_17 (by decide) ?_
        refine wp_istore_n (q := 22) (L2 := [(2, _), (0, _), (1, _)]) d_Rf_needOf_21 rfl (by decide) rfl ?_
        refine wp_iload_n (q := 23) d_Rf_needOf_22 rfl rfl ?_
        refine wp_iconst (q := 24) d_Rf_needOf_23 rfl ic_2 ?_
        refine wp_icmp_eq_f (q := 27) (tgt := 32) d_Rf_needOf_24 (by decide) rfl (by decide) ?_
        refine wp_iload_n (q := 28) d_Rf_needOf_27 rfl rfl ?_
        refine wp_iconst (q := 29) d_Rf_needOf_28 rfl ic_5 ?_
        refine wp_icmp_ne_t (tgt := 36) d_Rf_needOf_29 (by decide) (by decide) ?_
        refine wp_iload_n (q := 37) d_Rf_needOf_36 rfl rfl ?_
        refine wp_iconst (q := 38) d_Rf_needOf_37 rfl ic_3 ?_
        refine wp_icmp_eq_f (q := 41) (tgt := 46) d_Rf_needOf_38 (by decide) rfl (by decide) ?_
        refine wp_iload_n (q := 42) d_Rf_needOf_41 rfl rfl ?_
        refine wp_iconst (q := 43) d_Rf_needOf_42 rfl ic_4 ?_
        refine wp_icmp_ne_t (tgt := 54) d_Rf_needOf_43 (by decide) (by decide) ?_
        refine wp_iload_n (q := 55) d_Rf_needOf_54 rfl rfl ?_
        refine wp_iret d_Rf_needOf_55 rfl (Nat.le_refl _) (Nat.le_refl _) ?_
        first | exact hK | (rw [kNeed] at hK; simp only [nN_eq] at hK; first | (rw [if_pos (nle_lt hc_2)] at hK; exact hK) | (rw [if_neg (le_nlt hc_2), if_pos (nle_lt hc_12)] at hK; exact hK) | (rw [if_neg (le_nlt hc_2), if_neg (le_nlt hc_12)] at hK; exact hK))
    · refine wp_iconst (q := 6) d_Rf_needOf_5 rfl ic_1 ?_
      refine wp_goto (tgt := 21) d_Rf_needOf_6 (by decide) ?_
      refine wp_istore_n (q := 22) (L2 := [(2, _), (0, _), (1, _)]) d_Rf_needOf_21 rfl (by decide) rfl ?_
      refine wp_iload_n (q := 23) d_Rf_needOf_22 rfl rfl ?_
      refine wp_iconst (q := 24) d_Rf_needOf_23 rfl ic_2 ?_
      refine wp_icmp_eq_f (q := 27) (tgt := 32) d_Rf_needOf_24 (by decide) rfl (by decide) ?_
      refine wp_iload_n (q := 28) d_Rf_needOf_27 rfl rfl ?_
      refine wp_iconst (q := 29) d_Rf_needOf_28 rfl ic_5 ?_
      refine wp_icmp_ne_t (tgt := 36) d_Rf_needOf_29 (by decide) (by decide) ?_
      refine wp_iload_n (q := 37) d_Rf_needOf_36 rfl rfl ?_
      refine wp_iconst (q := 38) d_Rf_needOf_37 rfl ic_3 ?_
      refine wp_icmp_eq_f (q := 41) (tgt := 46) d_Rf_needOf_38 (by decide) rfl (by decide) ?_
      refine wp_iload_n (q := 42) d_Rf_needOf_41 rfl rfl ?_
      refine wp_iconst (q := 43) d_Rf_needOf_42 rfl ic_4 ?_
      refine wp_icmp_ne_t (tgt := 54) d_Rf_needOf_43 (by decide) (by decide) ?_
      refine wp_iload_n (q := 55) d_Rf_needOf_54 rfl rfl ?_
      refine wp_iret d_Rf_needOf_55 rfl (Nat.le_refl _) (Nat.le_refl _) ?_
      first | exact hK | (rw [kNeed] at hK; simp only [nN_eq] at hK; first | (rw [if_pos (nle_lt hc_2)] at hK; exact hK) | (rw [if_neg (le_nlt hc_2), if_pos (nle_lt hc_12)] at hK; exact hK) | (rw [if_neg (le_nlt hc_2), if_neg (le_nlt hc_12)] at hK; exact hK))
  · skip
    refine wp_iload_n (q := 1) d_Rf_needOf_0 rfl rfl ?_
    refine wp_iconst (q := 2) d_Rf_needOf_1 rfl ic_1 ?_
    refine wp_icmp_ge (q := 5) (tgt := 9) d_Rf_needOf_2 (by decide) rfl (fun hc_2 => ?_) (fun hc_2 => ?_)
    · refine wp_iload_n (q := 10) d_Rf_needOf_9 rfl rfl ?_
      refine wp_bipush (q := 12) d_Rf_needOf_10 rfl bp_100 ?_
      refine wp_icmp_le (q := 15) (tgt := 20) d_Rf_needOf_12 (by decide) rfl (fun hc_12 => ?_) (fun hc_12 => ?_)
      · refine wp_iload_n (q := 21) d_Rf_needOf_20 rfl rfl ?_
        refine wp_istore_n (q := 22) (L2 := [(2, _), (0, _), (1, _)]) d_Rf_needOf_21 rfl (by decide) rfl ?_
        refine wp_iload_n (q := 23) d_Rf_needOf_22 rfl rfl ?_
        refine wp_iconst (q := 24) d_Rf_needOf_23 rfl ic_2 ?_
        refine wp_icmp_eq_f (q := 27) (tgt := 32) d_Rf_needOf_24 (by decide) rfl (by decide) ?_
        refine wp_iload_n (q := 28) d_Rf_needOf_27 rfl rfl ?_
        refine wp_iconst (q := 29) d_Rf_needOf_28 rfl ic_5 ?_
        refine wp_icmp_ne_t (tgt := 36) d_Rf_needOf_29 (by decide) (by decide) ?_
        refine wp_iload_n (q := 37) d_Rf_needOf_36 rfl rfl ?_
        refine wp_iconst (q := 38) d_Rf_needOf_37 rfl ic_3 ?_
        refine wp_icmp_eq_f (q := 41) (tgt := 46) d_Rf_needOf_38 (by decide) rfl (by decide) ?_
        refine wp_iload_n (q := 42) d_Rf_needOf_41 rfl rfl ?_
        refine wp_iconst (q := 43) d_Rf_needOf_42 rfl ic_4 ?_
        refine wp_icmp_ne_t (tgt := 54) d_Rf_needOf_43 (by decide) (by decide) ?_
        refine wp_iload_n (q := 55) d_Rf_needOf_54 rfl rfl ?_
        refine wp_iret d_Rf_needOf_55 rfl (Nat.le_refl _) (Nat.le_refl _) ?_
        first | exact hK | (rw [kNeed] at hK; simp only [nN_eq] at hK; first | (rw [if_pos (nle_lt hc_2)] at hK; exact hK) | (rw [if_neg (le_nlt hc_2), if_pos (nle_lt hc_12)] at hK; exact hK) | (rw [if_neg (le_nlt hc_2), if_neg (le_nlt hc_12)] at hK; exact hK))
      · refine wp_bipush (q := 17) d_Rf_needOf_15 rfl bp_100 ?_
        refine wp_goto (tgt := 21) d_Rf_needOf_17 (by decide) ?_
        refine wp_istore_n (q := 22) (L2 := [(2, _), (0, _), (1, _)]) d_Rf_needOf_21 rfl (by decide) rfl ?_
        refine wp_iload_n (q := 23) d_Rf_needOf_22 rfl rfl ?_
        refine wp_iconst (q := 24) d_Rf_needOf_23 rfl ic_2 ?_
        refine wp_icmp_eq_f (q := 27) (tgt := 32) d_Rf_needOf_24 (by decide) rfl (by decide) ?_
        refine wp_iload_n (q := 28) d_Rf_needOf_27 rfl rfl ?_
        refine wp_iconst (q := 29) d_Rf_needOf_28 rfl ic_5 ?_
        refine wp_icmp_ne_t (tgt := 36) d_Rf_needOf_29 (by decide) (by decide) ?_
        refine wp_iload_n (q := 37) d_Rf_needOf_36 rfl rfl ?_
        refine wp_iconst (q := 38) d_Rf_needOf_37 rfl ic_3 ?_
        refine wp_icmp_eq_f (q := 41) (tgt := 46) d_Rf_needOf_38 (by decide) rfl (by decide) ?_
        refine wp_iload_n (q := 42) d_Rf_needOf_41 rfl rfl ?_
        refine wp_iconst (q := 43) d_Rf_needOf_42 rfl ic_4 ?_
        refine wp_icmp_ne_t (tgt := 54) d_Rf_needOf_43 (by decide) (by decide) ?_
        refine wp_iload_n (q := 55) d_Rf_needOf_54 rfl rfl ?_
        refine wp_iret d_Rf_needOf_55 rfl (Nat.le_refl _) (Nat.le_refl _) ?_
        first | exact hK | (rw [kNeed] at hK; simp only [nN_eq] at hK; first | (rw [if_pos (nle_lt hc_2)] at hK; exact hK) | (rw [if_neg (le_nlt hc_2), if_pos (nle_lt hc_12)] at hK; exact hK) | (rw [if_neg (le_nlt hc_2), if_neg (le_nlt hc_12)] at hK; exact hK))
    · refine wp_iconst (q := 6) d_Rf_needOf_5 rfl ic_1 ?_
      refine wp_goto (tgt := 21) d_Rf_needOf_6 (by decide) ?_
      refine wp_istore_n (q := 22) (L2 := [(2, _), (0, _), (1, _)]) d_Rf_needOf_21 rfl (by decide) rfl ?_
      refine wp_iload_n (q := 23) d_Rf_needOf_22 rfl rfl ?_
      refine wp_iconst (q := 24) d_Rf_needOf_23 rfl ic_2 ?_
      refine wp_icmp_eq_f (q := 27) (tgt := 32) d_Rf_needOf_24 (by decide) rfl (by decide) ?_
      refine wp_iload_n (q := 28) d_Rf_needOf_27 rfl rfl ?_
      refine wp_iconst (q := 29) d_Rf_needOf_28 rfl ic_5 ?_
      refine wp_icmp_ne_t (tgt := 36) d_Rf_needOf_29 (by decide) (by decide) ?_
      refine wp_iload_n (q := 37) d_Rf_needOf_36 rfl rfl ?_
      refine wp_iconst (q := 38) d_Rf_needOf_37 rfl ic_3 ?_
      refine wp_icmp_eq_f (q := 41) (tgt := 46) d_Rf_needOf_38 (by decide) rfl (by decide) ?_
      refine wp_iload_n (q := 42) d_Rf_needOf_41 rfl rfl ?_
      refine wp_iconst (q := 43) d_Rf_needOf_42 rfl ic_4 ?_
      refine wp_icmp_ne_t (tgt := 54) d_Rf_needOf_43 (by decide) (by decide) ?_
      refine wp_iload_n (q := 55) d_Rf_needOf_54 rfl rfl ?_
      refine wp_iret d_Rf_needOf_55 rfl (Nat.le_refl _) (Nat.le_refl _) ?_
      first | exact hK | (rw [kNeed] at hK; simp only [nN_eq] at hK; first | (rw [if_pos (nle_lt hc_2)] at hK; exact hK) | (rw [if_neg (le_nlt hc_2), if_pos (nle_lt hc_12)] at hK; exact hK) | (rw [if_neg (le_nlt hc_2), if_neg (le_nlt hc_12)] at hK; exact hK))
  · skip
    refine wp_iload_n (q := 1) d_Rf_needOf_0 rfl rfl ?_
    refine wp_iconst (q := 2) d_Rf_needOf_1 rfl ic_1 ?_
    refine wp_icmp_ge (q := 5) (tgt := 9) d_Rf_needOf_2 (by decide) rfl (fun hc_2 => ?_) (fun hc_2 => ?_)
    · refine wp_iload_n (q := 10) d_Rf_needOf_9 rfl rfl ?_
      refine wp_bipush (q := 12) d_Rf_needOf_10 rfl bp_100 ?_
      refine wp_icmp_le (q := 15) (tgt := 20) d_Rf_needOf_12 (by decide) rfl (fun hc_12 => ?_) (fun hc_12 => ?_)
      · refine wp_iload_n (q := 21) d_Rf_needOf_20 rfl rfl ?_
        refine wp_istore_n (q := 22) (L2 := [(2, _), (0, _), (1, _)]) d_Rf_needOf_21 rfl (by decide) rfl ?_
        refine wp_iload_n (q := 23) d_Rf_needOf_22 rfl rfl ?_
        refine wp_iconst (q := 24) d_Rf_needOf_23 rfl ic_2 ?_
        refine wp_icmp_eq_t (tgt := 32) d_Rf_needOf_24 (by decide) (by decide) ?_
        refine wp_iconst (q := 33) d_Rf_needOf_32 rfl ic_0 ?_
        refine wp_goto (tgt := 55) d_Rf_needOf_33 (by decide) ?_
        refine wp_iret d_Rf_needOf_55 rfl (Nat.le_refl _) (Nat.le_refl _) ?_
        first | exact hK | (rw [kNeed] at hK; simp only [nN_eq] at hK; first | (rw [if_pos (nle_lt hc_2)] at hK; exact hK) | (rw [if_neg (le_nlt hc_2), if_pos (nle_lt hc_12)] at hK; exact hK) | (rw [if_neg (le_nlt hc_2), if_neg (le_nlt hc_12)] at hK; exact hK))
      · refine wp_bipush (q := 17) d_Rf_needOf_15 rfl bp_100 ?_
        refine wp_goto (tgt := 21) d_Rf_needOf_17 (by decide) ?_
        refine wp_istore_n (q := 22) (L2 := [(2, _), (0, _), (1, _)]) d_Rf_needOf_21 rfl (by decide) rfl ?_
        refine wp_iload_n (q := 23) d_Rf_needOf_22 rfl rfl ?_
        refine wp_iconst (q := 24) d_Rf_needOf_23 rfl ic_2 ?_
        refine wp_icmp_eq_t (tgt := 32) d_Rf_needOf_24 (by decide) (by decide) ?_
        refine wp_iconst (q := 33) d_Rf_needOf_32 rfl ic_0 ?_
        refine wp_goto (tgt := 55) d_Rf_needOf_33 (by decide) ?_
        refine wp_iret d_Rf_needOf_55 rfl (Nat.le_refl _) (Nat.le_refl _) ?_
        first | exact hK | (rw [kNeed] at hK; simp only [nN_eq] at hK; first | (rw [if_pos (nle_lt hc_2)] at hK; exact hK) | (rw [if_neg (le_nlt hc_2), if_pos (nle_lt hc_12)] at hK; exact hK) | (rw [if_neg (le_nlt hc_2), if_neg (le_nlt hc_12)] at hK; exact hK))
    · refine wp_iconst (q := 6) d_Rf_needOf_5 rfl ic_1 ?_
      refine wp_goto (tgt := 21) d_Rf_needOf_6 (by decide) ?_
      refine wp_istore_n (q := 22) (L2 := [(2, _), (0, _), (1, _)]) d_Rf_needOf_21 rfl (by decide) rfl ?_
      refine wp_iload_n (q := 23) d_Rf_needOf_22 rfl rfl ?_
      refine wp_iconst (q := 24) d_Rf_needOf_23 rfl ic_2 ?_
      refine wp_icmp_eq_t (tgt := 32) d_Rf_needOf_24 (by decide) (by decide) ?_
      refine wp_iconst (q := 33) d_Rf_needOf_32 rfl ic_0 ?_
      refine wp_goto (tgt := 55) d_Rf_needOf_33 (by decide) ?_
      refine wp_iret d_Rf_needOf_55 rfl (Nat.le_refl _) (Nat.le_refl _) ?_
      first | exact hK | (rw [kNeed] at hK; simp only [nN_eq] at hK; first | (rw [if_pos (nle_lt hc_2)] at hK; exact hK) | (rw [if_neg (le_nlt hc_2), if_pos (nle_lt hc_12)] at hK; exact hK) | (rw [if_neg (le_nlt hc_2), if_neg (le_nlt hc_12)] at hK; exact hK))
  · skip
    refine wp_iload_n (q := 1) d_Rf_needOf_0 rfl rfl ?_
    refine wp_iconst (q := 2) d_Rf_needOf_1 rfl ic_1 ?_
    refine wp_icmp_ge (q := 5) (tgt := 9) d_Rf_needOf_2 (by decide) rfl (fun hc_2 => ?_) (fun hc_2 => ?_)
    · refine wp_iload_n (q := 10) d_Rf_needOf_9 rfl rfl ?_
      refine wp_bipush (q := 12) d_Rf_needOf_10 rfl bp_100 ?_
      refine wp_icmp_le (q := 15) (tgt := 20) d_Rf_needOf_12 (by decide) rfl (fun hc_12 => ?_) (fun hc_12 => ?_)
      · refine wp_iload_n (q := 21) d_Rf_needOf_20 rfl rfl ?_
        refine wp_istore_n (q := 22) (L2 := [(2, _), (0, _), (1, _)]) d_Rf_needOf_21 rfl (by decide) rfl ?_
        refine wp_iload_n (q := 23) d_Rf_needOf_22 rfl rfl ?_
        refine wp_iconst (q := 24) d_Rf_needOf_23 rfl ic_2 ?_
        refine wp_icmp_eq_f (q := 27) (tgt := 32) d_Rf_needOf_24 (by decide) rfl (by decide) ?_
        refine wp_iload_n (q := 28) d_Rf_needOf_27 rfl rfl ?_
        refine wp_iconst (q := 29) d_Rf_needOf_28 rfl ic_5 ?_
        refine wp_icmp_ne_t (tgt := 36) d_Rf_needOf_29 (by decide) (by decide) ?_
        refine wp_iload_n (q := 37) d_Rf_needOf_36 rfl rfl ?_
        refine wp_iconst (q := 38) d_Rf_needOf_37 rfl ic_3 ?_
        refine wp_icmp_eq_t (tgt := 46) d_Rf_needOf_38 (by decide) (by decide) ?_
        refine wp_iload_n (q := 47) d_Rf_needOf_46 rfl rfl ?_
        refine wp_iconst (q := 48) d_Rf_needOf_47 rfl ic_1 ?_
        first | refine wp_iaddN (q := 49) d_Rf_needOf_48 rfl ?_ | refine wp_iadd (q := 49) d_Rf_needOf_48 rfl ?_
        refine wp_iconst (q := 50) d_Rf_needOf_49 rfl ic_2 ?_
        refine wp_idiv (q := 51) d_Rf_needOf_50 rfl (by decide) ?_
        refine wp_goto (tgt := 55) d_Rf_needOf_51 (by decide) ?_
        refine wp_iret d_Rf_needOf_55 rfl (Nat.le_refl _) (Nat.le_refl _) ?_
        first | exact hK | (rw [kNeed] at hK; simp only [nN_eq] at hK; first | (rw [if_pos (nle_lt hc_2)] at hK; exact hK) | (rw [if_neg (le_nlt hc_2), if_pos (nle_lt hc_12)] at hK; exact hK) | (rw [if_neg (le_nlt hc_2), if_neg (le_nlt hc_12)] at hK; exact hK))
      · refine wp_bipush (q := 17) d_Rf_needOf_15 rfl bp_100 ?_
        refine wp_goto (tgt := 21) d_Rf_needOf_17 (by decide) ?_
        refine wp_istore_n (q := 22) (L2 := [(2, _), (0, _), (1, _)]) d_Rf_needOf_21 rfl (by decide) rfl ?_
        refine wp_iload_n (q := 23) d_Rf_needOf_22 rfl rfl ?_
        refine wp_iconst (q := 24) d_Rf_needOf_23 rfl ic_2 ?_
        refine wp_icmp_eq_f (q := 27) (tgt := 32) d_Rf_needOf_24 (by decide) rfl (by decide) ?_
        refine wp_iload_n (q := 28) d_Rf_needOf_27 rfl rfl ?_
        refine wp_iconst (q := 29) d_Rf_needOf_28 rfl ic_5 ?_
        refine wp_icmp_ne_t (tgt := 36) d_Rf_needOf_29 (by decide) (by decide) ?_
        refine wp_iload_n (q := 37) d_Rf_needOf_36 rfl rfl ?_
        refine wp_iconst (q := 38) d_Rf_needOf_37 rfl ic_3 ?_
        refine wp_icmp_eq_t (tgt := 46) d_Rf_needOf_38 (by decide) (by decide) ?_
        refine wp_iload_n (q := 47) d_Rf_needOf_46 rfl rfl ?_
        refine wp_iconst (q := 48) d_Rf_needOf_47 rfl ic_1 ?_
        first | refine wp_iaddN (q := 49) d_Rf_needOf_48 rfl ?_ | refine wp_iadd (q := 49) d_Rf_needOf_48 rfl ?_
        refine wp_iconst (q := 50) d_Rf_needOf_49 rfl ic_2 ?_
        refine wp_idiv (q := 51) d_Rf_needOf_50 rfl (by decide) ?_
        refine wp_goto (tgt := 55) d_Rf_needOf_51 (by decide) ?_
        refine wp_iret d_Rf_needOf_55 rfl (Nat.le_refl _) (Nat.le_refl _) ?_
        first | exact hK | (rw [kNeed] at hK; simp only [nN_eq] at hK; first | (rw [if_pos (nle_lt hc_2)] at hK; exact hK) | (rw [if_neg (le_nlt hc_2), if_pos (nle_lt hc_12)] at hK; exact hK) | (rw [if_neg (le_nlt hc_2), if_neg (le_nlt hc_12)] at hK; exact hK))
    · refine wp_iconst (q := 6) d_Rf_needOf_5 rfl ic_1 ?_
      refine wp_goto (tgt := 21) d_Rf_needOf_6 (by decide) ?_
      refine wp_istore_n (q := 22) (L2 := [(2, _), (0, _), (1, _)]) d_Rf_needOf_21 rfl (by decide) rfl ?_
      refine wp_iload_n (q := 23) d_Rf_needOf_22 rfl rfl ?_
      refine wp_iconst (q := 24) d_Rf_needOf_23 rfl ic_2 ?_
      refine wp_icmp_eq_f (q := 27) (tgt := 32) d_Rf_needOf_24 (by decide) rfl (by decide) ?_
      refine wp_iload_n (q := 28) d_Rf_needOf_27 rfl rfl ?_
      refine wp_iconst (q := 29) d_Rf_needOf_28 rfl ic_5 ?_
      refine wp_icmp_ne_t (tgt := 36) d_Rf_needOf_29 (by decide) (by decide) ?_
      refine wp_iload_n (q := 37) d_Rf_needOf_36 rfl rfl ?_
      refine wp_iconst (q := 38) d_Rf_needOf_37 rfl ic_3 ?_
      refine wp_icmp_eq_t (tgt := 46) d_Rf_needOf_38 (by decide) (by decide) ?_
      refine wp_iload_n (q := 47) d_Rf_needOf_46 rfl rfl ?_
      refine wp_iconst (q := 48) d_Rf_needOf_47 rfl ic_1 ?_
      first | refine wp_iaddN (q := 49) d_Rf_needOf_48 rfl ?_ | refine wp_iadd (q := 49) d_Rf_needOf_48 rfl ?_
      refine wp_iconst (q := 50) d_Rf_needOf_49 rfl ic_2 ?_
      refine wp_idiv (q := 51) d_Rf_needOf_50 rfl (by decide) ?_
      refine wp_goto (tgt := 55) d_Rf_needOf_51 (by decide) ?_
      refine wp_iret d_Rf_needOf_55 rfl (Nat.le_refl _) (Nat.le_refl _) ?_
      first | exact hK | (rw [kNeed] at hK; simp only [nN_eq] at hK; first | (rw [if_pos (nle_lt hc_2)] at hK; exact hK) | (rw [if_neg (le_nlt hc_2), if_pos (nle_lt hc_12)] at hK; exact hK) | (rw [if_neg (le_nlt hc_2), if_neg (le_nlt hc_12)] at hK; exact hK))
  · skip
    refine wp_iload_n (q := 1) d_Rf_needOf_0 rfl rfl ?_
    refine wp_iconst (q := 2) d_Rf_needOf_1 rfl ic_1 ?_
    refine wp_icmp_ge (q := 5) (tgt := 9) d_Rf_needOf_2 (by decide) rfl (fun hc_2 => ?_) (fun hc_2 => ?_)
    · refine wp_iload_n (q := 10) d_Rf_needOf_9 rfl rfl ?_
      refine wp_bipush (q := 12) d_Rf_needOf_10 rfl bp_100 ?_
      refine wp_icmp_le (q := 15) (tgt := 20) d_Rf_needOf_12 (by decide) rfl (fun hc_12 => ?_) (fun hc_12 => ?_)
      · refine wp_iload_n (q := 21) d_Rf_needOf_20 rfl rfl ?_
        refine wp_istore_n (q := 22) (L2 := [(2, _), (0, _), (1, _)]) d_Rf_needOf_21 rfl (by decide) rfl ?_
        refine wp_iload_n (q := 23) d_Rf_needOf_22 rfl rfl ?_
        refine wp_iconst (q := 24) d_Rf_needOf_23 rfl ic_2 ?_
        refine wp_icmp_eq_f (q := 27) (tgt := 32) d_Rf_needOf_24 (by decide) rfl (by decide) ?_
        refine wp_iload_n (q := 28) d_Rf_needOf_27 rfl rfl ?_
        refine wp_iconst (q := 29) d_Rf_needOf_28 rfl ic_5 ?_
        refine wp_icmp_ne_t (tgt := 36) d_Rf_needOf_29 (by decide) (by decide) ?_
        refine wp_iload_n (q := 37) d_Rf_needOf_36 rfl rfl ?_
        refine wp_iconst (q := 38) d_Rf_needOf_37 rfl ic_3 ?_
        refine wp_icmp_eq_f (q := 41) (tgt := 46) d_Rf_needOf_38 (by decide) rfl (by decide) ?_
        refine wp_iload_n (q := 42) d_Rf_needOf_41 rfl rfl ?_
        refine wp_iconst (q := 43) d_Rf_needOf_42 rfl ic_4 ?_
        refine wp_icmp_ne_f (q := 46) (tgt := 54) d_Rf_needOf_43 (by decide) rfl (by decide) ?_
        refine wp_iload_n (q := 47) d_Rf_needOf_46 rfl rfl ?_
        refine wp_iconst (q := 48) d_Rf_needOf_47 rfl ic_1 ?_
        first | refine wp_iaddN (q := 49) d_Rf_needOf_48 rfl ?_ | refine wp_iadd (q := 49) d_Rf_needOf_48 rfl ?_
        refine wp_iconst (q := 50) d_Rf_needOf_49 rfl ic_2 ?_
        refine wp_idiv (q := 51) d_Rf_needOf_50 rfl (by decide) ?_
        refine wp_goto (tgt := 55) d_Rf_needOf_51 (by decide) ?_
        refine wp_iret d_Rf_needOf_55 rfl (Nat.le_refl _) (Nat.le_refl _) ?_
        first | exact hK | (rw [kNeed] at hK; simp only [nN_eq] at hK; first | (rw [if_pos (nle_lt hc_2)] at hK; exact hK) | (rw [if_neg (le_nlt hc_2), if_pos (nle_lt hc_12)] at hK; exact hK) | (rw [if_neg (le_nlt hc_2), if_neg (le_nlt hc_12)] at hK; exact hK))
      · refine wp_bipush (q := 17) d_Rf_needOf_15 rfl bp_100 ?_
        refine wp_goto (tgt := 21) d_Rf_needOf_17 (by decide) ?_
        refine wp_istore_n (q := 22) (L2 := [(2, _), (0, _), (1, _)]) d_Rf_needOf_21 rfl (by decide) rfl ?_
        refine wp_iload_n (q := 23) d_Rf_needOf_22 rfl rfl ?_
        refine wp_iconst (q := 24) d_Rf_needOf_23 rfl ic_2 ?_
        refine wp_icmp_eq_f (q := 27) (tgt := 32) d_Rf_needOf_24 (by decide) rfl (by decide) ?_
        refine wp_iload_n (q := 28) d_Rf_needOf_27 rfl rfl ?_
        refine wp_iconst (q := 29) d_Rf_needOf_28 rfl ic_5 ?_
        refine wp_icmp_ne_t (tgt := 36) d_Rf_needOf_29 (by decide) (by decide) ?_
        refine wp_iload_n (q := 37) d_Rf_needOf_36 rfl rfl ?_
        refine wp_iconst (q := 38) d_Rf_needOf_37 rfl ic_3 ?_
        refine wp_icmp_eq_f (q := 41) (tgt := 46) d_Rf_needOf_38 (by decide) rfl (by decide) ?_
        refine wp_iload_n (q := 42) d_Rf_needOf_41 rfl rfl ?_
        refine wp_iconst (q := 43) d_Rf_needOf_42 rfl ic_4 ?_
        refine wp_icmp_ne_f (q := 46) (tgt := 54) d_Rf_needOf_43 (by decide) rfl (by decide) ?_
        refine wp_iload_n (q := 47) d_Rf_needOf_46 rfl rfl ?_
        refine wp_iconst (q := 48) d_Rf_needOf_47 rfl ic_1 ?_
        first | refine wp_iaddN (q := 49) d_Rf_needOf_48 rfl ?_ | refine wp_iadd (q := 49) d_Rf_needOf_48 rfl ?_
        refine wp_iconst (q := 50) d_Rf_needOf_49 rfl ic_2 ?_
        refine wp_idiv (q := 51) d_Rf_needOf_50 rfl (by decide) ?_
        refine wp_goto (tgt := 55) d_Rf_needOf_51 (by decide) ?_
        refine wp_iret d_Rf_needOf_55 rfl (Nat.le_refl _) (Nat.le_refl _) ?_
        first | exact hK | (rw [kNeed] at hK; simp only [nN_eq] at hK; first | (rw [if_pos (nle_lt hc_2)] at hK; exact hK) | (rw [if_neg (le_nlt hc_2), if_pos (nle_lt hc_12)] at hK; exact hK) | (rw [if_neg (le_nlt hc_2), if_neg (le_nlt hc_12)] at hK; exact hK))
    · refine wp_iconst (q := 6) d_Rf_needOf_5 rfl ic_1 ?_
      refine wp_goto (tgt := 21) d_Rf_needOf_6 (by decide) ?_
      refine wp_istore_n (q := 22) (L2 := [(2, _), (0, _), (1, _)]) d_Rf_needOf_21 rfl (by decide) rfl ?_
      refine wp_iload_n (q := 23) d_Rf_needOf_22 rfl rfl ?_
      refine wp_iconst (q := 24) d_Rf_needOf_23 rfl ic_2 ?_
      refine wp_icmp_eq_f (q := 27) (tgt := 32) d_Rf_needOf_24 (by decide) rfl (by decide) ?_
      refine wp_iload_n (q := 28) d_Rf_needOf_27 rfl rfl ?_
      refine wp_iconst (q := 29) d_Rf_needOf_28 rfl ic_5 ?_
      refine wp_icmp_ne_t (tgt := 36) d_Rf_needOf_29 (by decide) (by decide) ?_
      refine wp_iload_n (q := 37) d_Rf_needOf_36 rfl rfl ?_
      refine wp_iconst (q := 38) d_Rf_needOf_37 rfl ic_3 ?_
      refine wp_icmp_eq_f (q := 41) (tgt := 46) d_Rf_needOf_38 (by decide) rfl (by decide) ?_
      refine wp_iload_n (q := 42) d_Rf_needOf_41 rfl rfl ?_
      refine wp_iconst (q := 43) d_Rf_needOf_42 rfl ic_4 ?_
      refine wp_icmp_ne_f (q := 46) (tgt := 54) d_Rf_needOf_43 (by decide) rfl (by decide) ?_
      refine wp_iload_n (q := 47) d_Rf_needOf_46 rfl rfl ?_
      refine wp_iconst (q := 48) d_Rf_needOf_47 rfl ic_1 ?_
      first | refine wp_iaddN (q := 49) d_Rf_needOf_48 rfl ?_ | refine wp_iadd (q := 49) d_Rf_needOf_48 rfl ?_
      refine wp_iconst (q := 50) d_Rf_needOf_49 rfl ic_2 ?_
      refine wp_idiv (q := 51) d_Rf_needOf_50 rfl (by decide) ?_
      refine wp_goto (tgt := 55) d_Rf_needOf_51 (by decide) ?_
      refine wp_iret d_Rf_needOf_55 rfl (Nat.le_refl _) (Nat.le_refl _) ?_
      first | exact hK | (rw [kNeed] at hK; simp only [nN_eq] at hK; first | (rw [if_pos (nle_lt hc_2)] at hK; exact hK) | (rw [if_neg (le_nlt hc_2), if_pos (nle_lt hc_12)] at hK; exact hK) | (rw [if_neg (le_nlt hc_2), if_neg (le_nlt hc_12)] at hK; exact hK))
  · skip
    refine wp_iload_n (q := 1) d_Rf_needOf_0 rfl rfl ?_
    refine wp_iconst (q := 2) d_Rf_needOf_1 rfl ic_1 ?_
    refine wp_icmp_ge (q := 5) (tgt := 9) d_Rf_needOf_2 (by decide) rfl (fun hc_2 => ?_) (fun hc_2 => ?_)
    · refine wp_iload_n (q := 10) d_Rf_needOf_9 rfl rfl ?_
      refine wp_bipush (q := 12) d_Rf_needOf_10 rfl bp_100 ?_
      refine wp_icmp_le (q := 15) (tgt := 20) d_Rf_needOf_12 (by decide) rfl (fun hc_12 => ?_) (fun hc_12 => ?_)
      · refine wp_iload_n (q := 21) d_Rf_needOf_20 rfl rfl ?_
        refine wp_istore_n (q := 22) (L2 := [(2, _), (0, _), (1, _)]) d_Rf_needOf_21 rfl (by decide) rfl ?_
        refine wp_iload_n (q := 23) d_Rf_needOf_22 rfl rfl ?_
        refine wp_iconst (q := 24) d_Rf_needOf_23 rfl ic_2 ?_
        refine wp_icmp_eq_f (q := 27) (tgt := 32) d_Rf_needOf_24 (by decide) rfl (by decide) ?_
        refine wp_iload_n (q := 28) d_Rf_needOf_27 rfl rfl ?_
        refine wp_iconst (q := 29) d_Rf_needOf_28 rfl ic_5 ?_
        refine wp_icmp_ne_f (q := 32) (tgt := 36) d_Rf_needOf_29 (by decide) rfl (by decide) ?_
        refine wp_iconst (q := 33) d_Rf_needOf_32 rfl ic_0 ?_
        refine wp_goto (tgt := 55) d_Rf_needOf_33 (by decide) ?_
        refine wp_iret d_Rf_needOf_55 rfl (Nat.le_refl _) (Nat.le_refl _) ?_
        first | exact hK | (rw [kNeed] at hK; simp only [nN_eq] at hK; first | (rw [if_pos (nle_lt hc_2)] at hK; exact hK) | (rw [if_neg (le_nlt hc_2), if_pos (nle_lt hc_12)] at hK; exact hK) | (rw [if_neg (le_nlt hc_2), if_neg (le_nlt hc_12)] at hK; exact hK))
      · refine wp_bipush (q := 17) d_Rf_needOf_15 rfl bp_100 ?_
        refine wp_goto (tgt := 21) d_Rf_needOf_17 (by decide) ?_
        refine wp_istore_n (q := 22) (L2 := [(2, _), (0, _), (1, _)]) d_Rf_needOf_21 rfl (by decide) rfl ?_
        refine wp_iload_n (q := 23) d_Rf_needOf_22 rfl rfl ?_
        refine wp_iconst (q := 24) d_Rf_needOf_23 rfl ic_2 ?_
        refine wp_icmp_eq_f (q := 27) (tgt := 32) d_Rf_needOf_24 (by decide) rfl (by decide) ?_
        refine wp_iload_n (q := 28) d_Rf_needOf_27 rfl rfl ?_
        refine wp_iconst (q := 29) d_Rf_needOf_28 rfl ic_5 ?_
        refine wp_icmp_ne_f (q := 32) (tgt := 36) d_Rf_needOf_29 (by decide) rfl (by decide) ?_
        refine wp_iconst (q := 33) d_Rf_needOf_32 rfl ic_0 ?_
        refine wp_goto (tgt := 55) d_Rf_needOf_33 (by decide) ?_
        refine wp_iret d_Rf_needOf_55 rfl (Nat.le_refl _) (Nat.le_refl _) ?_
        first | exact hK | (rw [kNeed] at hK; simp only [nN_eq] at hK; first | (rw [if_pos (nle_lt hc_2)] at hK; exact hK) | (rw [if_neg (le_nlt hc_2), if_pos (nle_lt hc_12)] at hK; exact hK) | (rw [if_neg (le_nlt hc_2), if_neg (le_nlt hc_12)] at hK; exact hK))
    · refine wp_iconst (q := 6) d_Rf_needOf_5 rfl ic_1 ?_
      refine wp_goto (tgt := 21) d_Rf_needOf_6 (by decide) ?_
      refine wp_istore_n (q := 22) (L2 := [(2, _), (0, _), (1, _)]) d_Rf_needOf_21 rfl (by decide) rfl ?_
      refine wp_iload_n (q := 23) d_Rf_needOf_22 rfl rfl ?_
      refine wp_iconst (q := 24) d_Rf_needOf_23 rfl ic_2 ?_
      refine wp_icmp_eq_f (q := 27) (tgt := 32) d_Rf_needOf_24 (by decide) rfl (by decide) ?_
      refine wp_iload_n (q := 28) d_Rf_needOf_27 rfl rfl ?_
      refine wp_iconst (q := 29) d_Rf_needOf_28 rfl ic_5 ?_
      refine wp_icmp_ne_f (q := 32) (tgt := 36) d_Rf_needOf_29 (by decide) rfl (by decide) ?_
      refine wp_iconst (q := 33) d_Rf_needOf_32 rfl ic_0 ?_
      refine wp_goto (tgt := 55) d_Rf_needOf_33 (by decide) ?_
      refine wp_iret d_Rf_needOf_55 rfl (Nat.le_refl _) (Nat.le_refl _) ?_
      first | exact hK | (rw [kNeed] at hK; simp only [nN_eq] at hK; first | (rw [if_pos (nle_lt hc_2)] at hK; exact hK) | (rw [if_neg (le_nlt hc_2), if_pos (nle_lt hc_12)] at hK; exact hK) | (rw [if_neg (le_nlt hc_2), if_neg (le_nlt hc_12)] at hK; exact hK))

theorem d_Rf_fareOf_0 : decode M_Rf_fareOf.2.1 0 = .ok (.iload_n 0, 1) := by decide +kernel
theorem d_Rf_fareOf_1 : decode M_Rf_fareOf.2.1 1 = .ok (.iconst 1, 1) := by decide +kernel
theorem d_Rf_fareOf_2 : decode M_Rf_fareOf.2.1 2 = .ok (.if_icmp .ne 13, 3) := by decide +kernel
theorem d_Rf_fareOf_5 : decode M_Rf_fareOf.2.1 5 = .ok (.iload_n 1, 1) := by decide +kernel
theorem d_Rf_fareOf_6 : decode M_Rf_fareOf.2.1 6 = .ok (.bipush 6, 2) := by decide +kernel
theorem d_Rf_fareOf_8 : decode M_Rf_fareOf.2.1 8 = .ok (.imul, 1) := by decide +kernel
theorem d_Rf_fareOf_9 : decode M_Rf_fareOf.2.1 9 = .ok (.bipush 10, 2) := by decide +kernel
theorem d_Rf_fareOf_11 : decode M_Rf_fareOf.2.1 11 = .ok (.idiv, 1) := by decide +kernel
theorem d_Rf_fareOf_12 : decode M_Rf_fareOf.2.1 12 = .ok (.goto 37, 3) := by decide +kernel
theorem d_Rf_fareOf_15 : decode M_Rf_fareOf.2.1 15 = .ok (.iload_n 0, 1) := by decide +kernel
theorem d_Rf_fareOf_16 : decode M_Rf_fareOf.2.1 16 = .ok (.iconst 2, 1) := by decide +kernel
theorem d_Rf_fareOf_17 : decode M_Rf_fareOf.2.1 17 = .ok (.if_icmp .ne 7, 3) := by decide +kernel
theorem d_Rf_fareOf_20 : decode M_Rf_fareOf.2.1 20 = .ok (.iconst 0, 1) := by decide +kernel
theorem d_Rf_fareOf_21 : decode M_Rf_fareOf.2.1 21 = .ok (.goto 28, 3) := by decide +kernel
theorem d_Rf_fareOf_24 : decode M_Rf_fareOf.2.1 24 = .ok (.iload_n 0, 1) := by decide +kernel
theorem d_Rf_fareOf_25 : decode M_Rf_fareOf.2.1 25 = .ok (.iconst 4, 1) := by decide +kernel
theorem d_Rf_fareOf_26 : decode M_Rf_fareOf.2.1 26 = .ok (.if_icmp .ne 11, 3) := by decide +kernel
theorem d_Rf_fareOf_29 : decode M_Rf_fareOf.2.1 29 = .ok (.iload_n 1, 1) := by decide +kernel
theorem d_Rf_fareOf_30 : decode M_Rf_fareOf.2.1 30 = .ok (.iload_n 1, 1) := by decide +kernel
theorem d_Rf_fareOf_31 : decode M_Rf_fareOf.2.1 31 = .ok (.iconst 5, 1) := by decide +kernel
theorem d_Rf_fareOf_32 : decode M_Rf_fareOf.2.1 32 = .ok (.idiv, 1) := by decide +kernel
theorem d_Rf_fareOf_33 : decode M_Rf_fareOf.2.1 33 = .ok (.iadd, 1) := by decide +kernel
theorem d_Rf_fareOf_34 : decode M_Rf_fareOf.2.1 34 = .ok (.goto 15, 3) := by decide +kernel
theorem d_Rf_fareOf_37 : decode M_Rf_fareOf.2.1 37 = .ok (.iload_n 0, 1) := by decide +kernel
theorem d_Rf_fareOf_38 : decode M_Rf_fareOf.2.1 38 = .ok (.iconst 5, 1) := by decide +kernel
theorem d_Rf_fareOf_39 : decode M_Rf_fareOf.2.1 39 = .ok (.if_icmp .ne 9, 3) := by decide +kernel
theorem d_Rf_fareOf_42 : decode M_Rf_fareOf.2.1 42 = .ok (.iconst 3, 1) := by decide +kernel
theorem d_Rf_fareOf_43 : decode M_Rf_fareOf.2.1 43 = .ok (.iload_n 1, 1) := by decide +kernel
theorem d_Rf_fareOf_44 : decode M_Rf_fareOf.2.1 44 = .ok (.imul, 1) := by decide +kernel
theorem d_Rf_fareOf_45 : decode M_Rf_fareOf.2.1 45 = .ok (.goto 4, 3) := by decide +kernel
theorem d_Rf_fareOf_48 : decode M_Rf_fareOf.2.1 48 = .ok (.iload_n 1, 1) := by decide +kernel
theorem d_Rf_fareOf_49 : decode M_Rf_fareOf.2.1 49 = .ok (.ireturn, 1) := by decide +kernel
set_option maxHeartbeats 4000000 in
set_option maxRecDepth 100000 in
theorem ok_Rf_fareOf {D : xD} {N : Nat} {l : Launch} {d : Nat} {g : List va_E} {K : Option Value → List va_E → Prop} {kd : Nat} {v : Int32} (hk : kd < 6) (hK : K (some (.int (kFare kd v))) g) : Ok D N l d M_Rf_fareOf [.int (nI kd), .int v] g 0 0 K := by
  refine ok_of (L := [(0, _), (1, _)]) (by decide) (Nat.le_of_ble_eq_true rfl) rfl ?_
  rcases (show kd = 0 ∨ kd = 1 ∨ kd = 2 ∨ kd = 3 ∨ kd = 4 ∨ kd = 5 by omega) with rfl | rfl | rfl | rfl | rfl | rfl
  · skip
    refine wp_iload_n (q := 1) d_Rf_fareOf_0 rfl rfl ?_
    refine wp_iconst (q := 2) d_Rf_fareOf_1 rfl ic_1 ?_
    refine wp_icmp_ne_t (tgt := 15) d_Rf_fareOf_2 (by decide) (by decide) ?_
    refine wp_iload_n (q := 16) d_Rf_fareOf_15 rfl rfl ?_
    refine wp_iconst (q := 17) d_Rf_fareOf_16 rfl ic_2 ?_
    refine wp_icmp_ne_t (tgt := 24) d_Rf_fareOf_17 (by decide) (by decide) ?_
    refine wp_iload_n (q := 25) d_Rf_fareOf_24 rfl rfl ?_
    refine wp_iconst (q := 26) d_Rf_fareOf_25 rfl ic_4 ?_
    refine wp_icmp_ne_t (tgt := 37) d_Rf_fareOf_26 (by decide) (by decide) ?_
    refine wp_iload_n (q := 38) d_Rf_fareOf_37 rfl rfl ?_
    refine wp_iconst (q := 39) d_Rf_fareOf_38 rfl ic_5 ?_
    refine wp_icmp_ne_t (tgt := 48) d_Rf_fareOf_39 (by decide) (by decide) ?_
    refine wp_iload_n (q := 49) d_Rf_fareOf_48 rfl rfl ?_
    refine wp_iret d_Rf_fareOf_49 rfl (Nat.le_refl _) (Nat.le_refl _) ?_
    exact hK
  · skip
    refine wp_iload_n (q := 1) d_Rf_fareOf_0 rfl rfl ?_
    refine wp_iconst (q := 2) d_Rf_fareOf_1 rfl ic_1 ?_
    refine wp_icmp_ne_f (q := 5) (tgt := 15) d_Rf_fareOf_2 (by decide) rfl (by decide) ?_
    refine wp_iload_n (q := 6) d_Rf_fareOf_5 rfl rfl ?_
    refine wp_bipush (q := 8) d_Rf_fareOf_6 rfl bp_6 ?_
    first | refine wp_imulC (q := 9) d_Rf_fareOf_8 rfl ?_ | refine wp_imul (q := 9) d_Rf_fareOf_8 rfl ?_
    refine wp_bipush (q := 11) d_Rf_fareOf_9 rfl bp_10 ?_
    refine wp_idiv (q := 12) d_Rf_fareOf_11 rfl (by decide) ?_
    refine wp_goto (tgt := 49) d_Rf_fareOf_12 (by decide) ?_
    refine wp_iret d_Rf_fareOf_49 rfl (Nat.le_refl _) (Nat.le_refl _) ?_
    exact hK
  · skip
    refine wp_iload_n (q := 1) d_Rf_fareOf_0 rfl rfl ?_
    refine wp_iconst (q := 2) d_Rf_fareOf_1 rfl ic_1 ?_
    refine wp_icmp_ne_t (tgt := 15) d_Rf_fareOf_2 (by decide) (by decide) ?_
    refine wp_iload_n (q := 16) d_Rf_fareOf_15 rfl rfl ?_
    refine wp_iconst (q := 17) d_Rf_fareOf_16 rfl ic_2 ?_
    refine wp_icmp_ne_f (q := 20) (tgt := 24) d_Rf_fareOf_17 (by decide) rfl (by decide) ?_
    refine wp_iconst (q := 21) d_Rf_fareOf_20 rfl ic_0 ?_
    refine wp_goto (tgt := 49) d_Rf_fareOf_21 (by decide) ?_
    refine wp_iret d_Rf_fareOf_49 rfl (Nat.le_refl _) (Nat.le_refl _) ?_
    exact hK
  · skip
    refine wp_iload_n (q := 1) d_Rf_fareOf_0 rfl rfl ?_
    refine wp_iconst (q := 2) d_Rf_fareOf_1 rfl ic_1 ?_
    refine wp_icmp_ne_t (tgt := 15) d_Rf_fareOf_2 (by decide) (by decide) ?_
    refine wp_iload_n (q := 16) d_Rf_fareOf_15 rfl rfl ?_
    refine wp_iconst (q := 17) d_Rf_fareOf_16 rfl ic_2 ?_
    refine wp_icmp_ne_t (tgt := 24) d_Rf_fareOf_17 (by decide) (by decide) ?_
    refine wp_iload_n (q := 25) d_Rf_fareOf_24 rfl rfl ?_
    refine wp_iconst (q := 26) d_Rf_fareOf_25 rfl ic_4 ?_
    refine wp_icmp_ne_t (tgt := 37) d_Rf_fareOf_26 (by decide) (by decide) ?_
    refine wp_iload_n (q := 38) d_Rf_fareOf_37 rfl rfl ?_
    refine wp_iconst (q := 39) d_Rf_fareOf_38 rfl ic_5 ?_
    refine wp_icmp_ne_t (tgt := 48) d_Rf_fareOf_39 (by decide) (by decide) ?_
    refine wp_iload_n (q := 49) d_Rf_fareOf_48 rfl rfl ?_
    refine wp_iret d_Rf_fareOf_49 rfl (Nat.le_refl _) (Nat.le_refl _) ?_
    exact hK
  · skip
    refine wp_iload_n (q := 1) d_Rf_fareOf_0 rfl rfl ?_
    refine wp_iconst (q := 2) d_Rf_fareOf_1 rfl ic_1 ?_
    refine wp_icmp_ne_t (tgt := 15) d_Rf_fareOf_2 (by decide) (by decide) ?_
    refine wp_iload_n (q := 16) d_Rf_fareOf_15 rfl rfl ?_
    refine wp_iconst (q := 17) d_Rf_fareOf_16 rfl ic_2 ?_
    refine wp_icmp_ne_t (tgt := 24) d_Rf_fareOf_17 (by decide) (by decide) ?_
    refine wp_iload_n (q := 25) d_Rf_fareOf_24 rfl rfl ?_
    refine wp_iconst (q := 26) d_Rf_fareOf_25 rfl ic_4 ?_
    refine wp_icmp_ne_f (q := 29) (tgt := 37) d_Rf_fareOf_26 (by decide) rfl (by decide) ?_
    refine wp_iload_n (q := 30) d_Rf_fareOf_29 rfl rfl ?_
    refine wp_iload_n (q := 31) d_Rf_fareOf_30 rfl rfl ?_
    refine wp_iconst (q := 32) d_Rf_fareOf_31 rfl ic_5 ?_
    refine wp_idiv (q := 33) d_Rf_fareOf_32 rfl (by decide) ?_
    first | refine wp_iaddN (q := 34) d_Rf_fareOf_33 rfl ?_ | refine wp_iadd (q := 34) d_Rf_fareOf_33 rfl ?_
    refine wp_goto (tgt := 49) d_Rf_fareOf_34 (by decide) ?_
    refine wp_iret d_Rf_fareOf_49 rfl (Nat.le_refl _) (Nat.le_refl _) ?_
    exact hK
  · skip
    refine wp_iload_n (q := 1) d_Rf_fareOf_0 rfl rfl ?_
    refine wp_iconst (q := 2) d_Rf_fareOf_1 rfl ic_1 ?_
    refine wp_icmp_ne_t (tgt := 15) d_Rf_fareOf_2 (by decide) (by decide) ?_
    refine wp_iload_n (q := 16) d_Rf_fareOf_15 rfl rfl ?_
    refine wp_iconst (q := 17) d_Rf_fareOf_16 rfl ic_2 ?_
    refine wp_icmp_ne_t (tgt := 24) d_Rf_fareOf_17 (by decide) (by decide) ?_
    refine wp_iload_n (q := 25) d_Rf_fareOf_24 rfl rfl ?_
    refine wp_iconst (q := 26) d_Rf_fareOf_25 rfl ic_4 ?_
    refine wp_icmp_ne_t (tgt := 37) d_Rf_fareOf_26 (by decide) (by decide) ?_
    refine wp_iload_n (q := 38) d_Rf_fareOf_37 rfl rfl ?_
    refine wp_iconst (q := 39) d_Rf_fareOf_38 rfl ic_5 ?_
    refine wp_icmp_ne_f (q := 42) (tgt := 48) d_Rf_fareOf_39 (by decide) rfl (by decide) ?_
    refine wp_iconst (q := 43) d_Rf_fareOf_42 rfl ic_3 ?_
    refine wp_iload_n (q := 44) d_Rf_fareOf_43 rfl rfl ?_
    first | refine wp_imulN (q := 45) d_Rf_fareOf_44 rfl ?_ | refine wp_imul (q := 45) d_Rf_fareOf_44 rfl ?_
    refine wp_goto (tgt := 49) d_Rf_fareOf_45 (by decide) ?_
    refine wp_iret d_Rf_fareOf_49 rfl (Nat.le_refl _) (Nat.le_refl _) ?_
    exact hK

theorem d_Rf_minutesOf_0 : decode M_Rf_minutesOf.2.1 0 = .ok (.iload_n 0, 1) := by decide +kernel
theorem d_Rf_minutesOf_1 : decode M_Rf_minutesOf.2.1 1 = .ok (.iconst 1, 1) := by decide +kernel
theorem d_Rf_minutesOf_2 : decode M_Rf_minutesOf.2.1 2 = .ok (.if_icmp .ne 11, 3) := by decide +kernel
theorem d_Rf_minutesOf_5 : decode M_Rf_minutesOf.2.1 5 = .ok (.iload_n 1, 1) := by decide +kernel
theorem d_Rf_minutesOf_6 : decode M_Rf_minutesOf.2.1 6 = .ok (.iconst 1, 1) := by decide +kernel
theorem d_Rf_minutesOf_7 : decode M_Rf_minutesOf.2.1 7 = .ok (.iadd, 1) := by decide +kernel
theorem d_Rf_minutesOf_8 : decode M_Rf_minutesOf.2.1 8 = .ok (.iconst 2, 1) := by decide +kernel
theorem d_Rf_minutesOf_9 : decode M_Rf_minutesOf.2.1 9 = .ok (.idiv, 1) := by decide +kernel
theorem d_Rf_minutesOf_10 : decode M_Rf_minutesOf.2.1 10 = .ok (.goto 16, 3) := by decide +kernel
theorem d_Rf_minutesOf_13 : decode M_Rf_minutesOf.2.1 13 = .ok (.iload_n 0, 1) := by decide +kernel
theorem d_Rf_minutesOf_14 : decode M_Rf_minutesOf.2.1 14 = .ok (.iconst 5, 1) := by decide +kernel
theorem d_Rf_minutesOf_15 : decode M_Rf_minutesOf.2.1 15 = .ok (.if_icmp .ne 10, 3) := by decide +kernel
theorem d_Rf_minutesOf_18 : decode M_Rf_minutesOf.2.1 18 = .ok (.iload_n 1, 1) := by decide +kernel
theorem d_Rf_minutesOf_19 : decode M_Rf_minutesOf.2.1 19 = .ok (.bipush 10, 2) := by decide +kernel
theorem d_Rf_minutesOf_21 : decode M_Rf_minutesOf.2.1 21 = .ok (.iadd, 1) := by decide +kernel
theorem d_Rf_minutesOf_22 : decode M_Rf_minutesOf.2.1 22 = .ok (.goto 4, 3) := by decide +kernel
theorem d_Rf_minutesOf_25 : decode M_Rf_minutesOf.2.1 25 = .ok (.iload_n 1, 1) := by decide +kernel
theorem d_Rf_minutesOf_26 : decode M_Rf_minutesOf.2.1 26 = .ok (.ireturn, 1) := by decide +kernel
set_option maxHeartbeats 4000000 in
set_option maxRecDepth 100000 in
theorem ok_Rf_minutesOf {D : xD} {N : Nat} {l : Launch} {d : Nat} {g : List va_E} {K : Option Value → List va_E → Prop} {kd : Nat} {v : Int32} (hk : kd < 6) (hK : K (some (.int (kMin kd v))) g) : Ok D N l d M_Rf_minutesOf [.int (nI kd), .int v] g 0 0 K := by
  refine ok_of (L := [(0, _), (1, _)]) (by decide) (Nat.le_of_ble_eq_true rfl) rfl ?_
  rcases (show kd = 0 ∨ kd = 1 ∨ kd = 2 ∨ kd = 3 ∨ kd = 4 ∨ kd = 5 by omega) with rfl | rfl | rfl | rfl | rfl | rfl
  · skip
    refine wp_iload_n (q := 1) d_Rf_minutesOf_0 rfl rfl ?_
    refine wp_iconst (q := 2) d_Rf_minutesOf_1 rfl ic_1 ?_
    refine wp_icmp_ne_t (tgt := 13) d_Rf_minutesOf_2 (by decide) (by decide) ?_
    refine wp_iload_n (q := 14) d_Rf_minutesOf_13 rfl rfl ?_
    refine wp_iconst (q := 15) d_Rf_minutesOf_14 rfl ic_5 ?_
    refine wp_icmp_ne_t (tgt := 25) d_Rf_minutesOf_15 (by decide) (by decide) ?_
    refine wp_iload_n (q := 26) d_Rf_minutesOf_25 rfl rfl ?_
    refine wp_iret d_Rf_minutesOf_26 rfl (Nat.le_refl _) (Nat.le_refl _) ?_
    exact hK
  · skip
    refine wp_iload_n (q := 1) d_Rf_minutesOf_0 rfl rfl ?_
    refine wp_iconst (q := 2) d_Rf_minutesOf_1 rfl ic_1 ?_
    refine wp_icmp_ne_f (q := 5) (tgt := 13) d_Rf_minutesOf_2 (by decide) rfl (by decide) ?_
    refine wp_iload_n (q := 6) d_Rf_minutesOf_5 rfl rfl ?_
    refine wp_iconst (q := 7) d_Rf_minutesOf_6 rfl ic_1 ?_
    first | refine wp_iaddN (q := 8) d_Rf_minutesOf_7 rfl ?_ | refine wp_iadd (q := 8) d_Rf_minutesOf_7 rfl ?_
    refine wp_iconst (q := 9) d_Rf_minutesOf_8 rfl ic_2 ?_
    refine wp_idiv (q := 10) d_Rf_minutesOf_9 rfl (by decide) ?_
    refine wp_goto (tgt := 26) d_Rf_minutesOf_10 (by decide) ?_
    refine wp_iret d_Rf_minutesOf_26 rfl (Nat.le_refl _) (Nat.le_refl _) ?_
    exact hK
  · skip
    refine wp_iload_n (q := 1) d_Rf_minutesOf_0 rfl rfl ?_
    refine wp_iconst (q := 2) d_Rf_minutesOf_1 rfl ic_1 ?_
    refine wp_icmp_ne_t (tgt := 13) d_Rf_minutesOf_2 (by decide) (by decide) ?_
    refine wp_iload_n (q := 14) d_Rf_minutesOf_13 rfl rfl ?_
    refine wp_iconst (q := 15) d_Rf_minutesOf_14 rfl ic_5 ?_
    refine wp_icmp_ne_t (tgt := 25) d_Rf_minutesOf_15 (by decide) (by decide) ?_
    refine wp_iload_n (q := 26) d_Rf_minutesOf_25 rfl rfl ?_
    refine wp_iret d_Rf_minutesOf_26 rfl (Nat.le_refl _) (Nat.le_refl _) ?_
    exact hK
  · skip
    refine wp_iload_n (q := 1) d_Rf_minutesOf_0 rfl rfl ?_
    refine wp_iconst (q := 2) d_Rf_minutesOf_1 rfl ic_1 ?_
    refine wp_icmp_ne_t (tgt := 13) d_Rf_minutesOf_2 (by decide) (by decide) ?_
    refine wp_iload_n (q := 14) d_Rf_minutesOf_13 rfl rfl ?_
    refine wp_iconst (q := 15) d_Rf_minutesOf_14 rfl ic_5 ?_
    refine wp_icmp_ne_t (tgt := 25) d_Rf_minutesOf_15 (by decide) (by decide) ?_
    refine wp_iload_n (q := 26) d_Rf_minutesOf_25 rfl rfl ?_
    refine wp_iret d_Rf_minutesOf_26 rfl (Nat.le_refl _) (Nat.le_refl _) ?_
    exact hK
  · skip
    refine wp_iload_n (q := 1) d_Rf_minutesOf_0 rfl rfl ?_
    refine wp_iconst (q := 2) d_Rf_minutesOf_1 rfl ic_1 ?_
    refine wp_icmp_ne_t (tgt := 13) d_Rf_minutesOf_2 (by decide) (by decide) ?_
    refine wp_iload_n (q := 14) d_Rf_minutesOf_13 rfl rfl ?_
    refine wp_iconst (q := 15) d_Rf_minutesOf_14 rfl ic_5 ?_
    refine wp_icmp_ne_t (tgt := 25) d_Rf_minutesOf_15 (by decide) (by decide) ?_
    refine wp_iload_n (q := 26) d_Rf_minutesOf_25 rfl rfl ?_
    refine wp_iret d_Rf_minutesOf_26 rfl (Nat.le_refl _) (Nat.le_refl _) ?_
    exact hK
  · skip
    refine wp_iload_n (q := 1) d_Rf_minutesOf_0 rfl rfl ?_
    refine wp_iconst (q := 2) d_Rf_minutesOf_1 rfl ic_1 ?_
    refine wp_icmp_ne_t (tgt := 13) d_Rf_minutesOf_2 (by decide) (by decide) ?_
    refine wp_iload_n (q := 14) d_Rf_minutesOf_13 rfl rfl ?_
    refine wp_iconst (q := 15) d_Rf_minutesOf_14 rfl ic_5 ?_
    refine wp_icmp_ne_f (q := 18) (tgt := 25) d_Rf_minutesOf_15 (by decide) rfl (by decide) ?_
    refine wp_iload_n (q := 19) d_Rf_minutesOf_18 rfl rfl ?_
    refine wp_bipush (q := 21) d_Rf_minutesOf_19 rfl bp_10 ?_
    first | refine wp_iaddN (q := 22) d_Rf_minutesOf_21 rfl ?_ | refine wp_iadd (q := 22) d_Rf_minutesOf_21 rfl ?_
    refine wp_goto (tgt := 26) d_Rf_minutesOf_22 (by decide) ?_
    refine wp_iret d_Rf_minutesOf_26 rfl (Nat.le_refl _) (Nat.le_refl _) ?_
    exact hK

theorem d_Rf_fuelOf_0 : decode M_Rf_fuelOf.2.1 0 = .ok (.iload_n 0, 1) := by decide +kernel
theorem d_Rf_fuelOf_1 : decode M_Rf_fuelOf.2.1 1 = .ok (.iconst 4, 1) := by decide +kernel
theorem d_Rf_fuelOf_2 : decode M_Rf_fuelOf.2.1 2 = .ok (.if_icmp .ne 9, 3) := by decide +kernel
theorem d_Rf_fuelOf_5 : decode M_Rf_fuelOf.2.1 5 = .ok (.iload_n 1, 1) := by decide +kernel
theorem d_Rf_fuelOf_6 : decode M_Rf_fuelOf.2.1 6 = .ok (.iconst 1, 1) := by decide +kernel
theorem d_Rf_fuelOf_7 : decode M_Rf_fuelOf.2.1 7 = .ok (.iadd, 1) := by decide +kernel
theorem d_Rf_fuelOf_8 : decode M_Rf_fuelOf.2.1 8 = .ok (.goto 4, 3) := by decide +kernel
theorem d_Rf_fuelOf_11 : decode M_Rf_fuelOf.2.1 11 = .ok (.iload_n 1, 1) := by decide +kernel
theorem d_Rf_fuelOf_12 : decode M_Rf_fuelOf.2.1 12 = .ok (.ireturn, 1) := by decide +kernel
set_option maxHeartbeats 4000000 in
set_option maxRecDepth 100000 in
theorem ok_Rf_fuelOf {D : xD} {N : Nat} {l : Launch} {d : Nat} {g : List va_E} {K : Option Value → List va_E → Prop} {kd : Nat} {v : Int32} (hk : kd < 6) (hK : K (some (.int (kFuel kd v))) g) : Ok D N l d M_Rf_fuelOf [.int (nI kd), .int v] g 0 0 K := by
  refine ok_of (L := [(0, _), (1, _)]) (by decide) (Nat.le_of_ble_eq_true rfl) rfl ?_
  rcases (show kd = 0 ∨ kd = 1 ∨ kd = 2 ∨ kd = 3 ∨ kd = 4 ∨ kd = 5 by omega) with rfl | rfl | rfl | rfl | rfl | rfl
  · skip
    refine wp_iload_n (q := 1) d_Rf_fuelOf_0 rfl rfl ?_
    refine wp_iconst (q := 2) d_Rf_fuelOf_1 rfl ic_4 ?_
    refine wp_icmp_ne_t (tgt := 11) d_Rf_fuelOf_2 (by decide) (by decide) ?_
    refine wp_iload_n (q := 12) d_Rf_fuelOf_11 rfl rfl ?_
    refine wp_iret d_Rf_fuelOf_12 rfl (Nat.le_refl _) (Nat.le_refl _) ?_
    exact hK
  · skip
    refine wp_iload_n (q := 1) d_Rf_fuelOf_0 rfl rfl ?_
    refine wp_iconst (q := 2) d_Rf_fuelOf_1 rfl ic_4 ?_
    refine wp_icmp_ne_t (tgt := 11) d_Rf_fuelOf_2 (by decide) (by decide) ?_
    refine wp_iload_n (q := 12) d_Rf_fuelOf_11 rfl rfl ?_
    refine wp_iret d_Rf_fuelOf_12 rfl (Nat.le_refl _) (Nat.le_refl _) ?_
    exact hK
  · skip
    refine wp_iload_n (q := 1) d_Rf_fuelOf_0 rfl rfl ?_
    refine wp_iconst (q := 2) d_Rf_fuelOf_1 rfl ic_4 ?_
    refine wp_icmp_ne_t (tgt := 11) d_Rf_fuelOf_2 (by decide) (by decide) ?_
    refine wp_iload_n (q := 12) d_Rf_fuelOf_11 rfl rfl ?_
    refine wp_iret d_Rf_fuelOf_12 rfl (Nat.le_refl _) (Nat.le_refl _) ?_
    exact hK
  · skip
    refine wp_iload_n (q := 1) d_Rf_fuelOf_0 rfl rfl ?_
    refine wp_iconst (q := 2) d_Rf_fuelOf_1 rfl ic_4 ?_
    refine wp_icmp_ne_t (tgt := 11) d_Rf_fuelOf_2 (by decide) (by decide) ?_
    refine wp_iload_n (q := 12) d_Rf_fuelOf_11 rfl rfl ?_
    refine wp_iret d_Rf_fuelOf_12 rfl (Nat.le_refl _) (Nat.le_refl _) ?_
    exact hK
  · skip
    refine wp_iload_n (q := 1) d_Rf_fuelOf_0 rfl rfl ?_
    refine wp_iconst (q := 2) d_Rf_fuelOf_1 rfl ic_4 ?_
    refine wp_icmp_ne_f (q := 5) (tgt := 11) d_Rf_fuelOf_2 (by decide) rfl (by decide) ?_
    refine wp_iload_n (q := 6) d_Rf_fuelOf_5 rfl rfl ?_
    refine wp_iconst (q := 7) d_Rf_fuelOf_6 rfl ic_1 ?_
    first | refine wp_iaddN (q := 8) d_Rf_fuelOf_7 rfl ?_ | refine wp_iadd (q := 8) d_Rf_fuelOf_7 rfl ?_
    refine wp_goto (tgt := 12) d_Rf_fuelOf_8 (by decide) ?_
    refine wp_iret d_Rf_fuelOf_12 rfl (Nat.le_refl _) (Nat.le_refl _) ?_
    exact hK
  · skip
    refine wp_iload_n (q := 1) d_Rf_fuelOf_0 rfl rfl ?_
    refine wp_iconst (q := 2) d_Rf_fuelOf_1 rfl ic_4 ?_
    refine wp_icmp_ne_t (tgt := 11) d_Rf_fuelOf_2 (by decide) (by decide) ?_
    refine wp_iload_n (q := 12) d_Rf_fuelOf_11 rfl rfl ?_
    refine wp_iret d_Rf_fuelOf_12 rfl (Nat.le_refl _) (Nat.le_refl _) ?_
    exact hK

def letP (P : Nat → Int32) (s a b : Nat) (n : Int32) : Nat → Int32 := upd (upd P (6 * s + a) (P (6 * s + a) - n)) (120 + b) (P (120 + b) + n)
def lvP (c : T2) (P : Nat → Int32) (b kd : Nat) (fare lf : Int32) : Nat → Int32 := upd (upd (upd (upd (upd P (72 + b) (nI 3)) (168 + b) (P (168 + b) + kTake kd fare (P (120 + b)))) (132 + b) lf) (180 + b) (P (180 + b) + kFuel kd (c 8 b) * lf)) (216 + b) (P (216 + b) + nI 1)
def min5 (n wt : Int32) : Int32 := if wt < (if nI 5 < n then nI 5 else n) then wt else (if nI 5 < n then nI 5 else n)
def inN (c : T2) (P : Nat → Int32) (s a b kd : Nat) : Int32 := if kd = 2 ∨ kd = 5 then nI 0 else min5 (c 5 b - P (120 + b)) (P (6 * s + a))
def go2 (c : T2) (P : Nat → Int32) (nb m s b kd a : Nat) : Nat → Int32 := if kNeed kd (lawv c P nb m s b 0) * c 5 b ≤ nI 100 * P (120 + b) then lvP c P b kd (lawv c P nb m s b 1) (kMin kd (way c s a (hr m))) else P
def sv2 (c : T2) (P : Nat → Int32) (nb m s b kd a : Nat) : Nat → Int32 := go2 c (letP P s a b (inN c P s a b kd)) nb m s b kd a
def upP (c : T2) (P : Nat → Int32) (b a : Nat) : Nat → Int32 := upd (upd (upd (upd P (72 + b) (nI 2)) (144 + b) (P 234)) (108 + b) (nI a)) (156 + b) (c 9 b)
def sv (c : T2) (P : Nat → Int32) (nb m s : Nat) : Nat → Int32 := match lf P s nb with
  | some b => sv2 c P nb m s b (tn (P (156 + b))) (tn (P (108 + b)))
  | none => match ff P s nb with
    | none => P
    | some b => match am c P s 6 with
      | none => P
      | some a => sv2 c (upP c P b a) nb m s b (tn (c 9 b)) a
theorem d_Rf_loads_0 : decode M_Rf_loads.2.1 0 = .ok (.aload_n 0, 1) := by decide +kernel
theorem d_Rf_loads_1 : decode M_Rf_loads.2.1 1 = .ok (.iload_n 1, 1) := by decide +kernel
theorem d_Rf_loads_2 : decode M_Rf_loads.2.1 2 = .ok (.invokevirtual 233, 3) := by decide +kernel
theorem d_Rf_loads_5 : decode M_Rf_loads.2.1 5 = .ok (.istore_n 2, 1) := by decide +kernel
theorem d_Rf_loads_6 : decode M_Rf_loads.2.1 6 = .ok (.iload_n 2, 1) := by decide +kernel
theorem d_Rf_loads_7 : decode M_Rf_loads.2.1 7 = .ok (.iconst (-1), 1) := by decide +kernel
theorem d_Rf_loads_8 : decode M_Rf_loads.2.1 8 = .ok (.if_icmp .ne 82, 3) := by decide +kernel
theorem d_Rf_loads_11 : decode M_Rf_loads.2.1 11 = .ok (.aload_n 0, 1) := by decide +kernel
theorem d_Rf_loads_12 : decode M_Rf_loads.2.1 12 = .ok (.iload_n 1, 1) := by decide +kernel
theorem d_Rf_loads_13 : decode M_Rf_loads.2.1 13 = .ok (.invokevirtual 174, 3) := by decide +kernel
theorem d_Rf_loads_16 : decode M_Rf_loads.2.1 16 = .ok (.istore_n 2, 1) := by decide +kernel
theorem d_Rf_loads_17 : decode M_Rf_loads.2.1 17 = .ok (.iload_n 2, 1) := by decide +kernel
theorem d_Rf_loads_18 : decode M_Rf_loads.2.1 18 = .ok (.iconst (-1), 1) := by decide +kernel
theorem d_Rf_loads_19 : decode M_Rf_loads.2.1 19 = .ok (.if_icmp .eq 12, 3) := by decide +kernel
theorem d_Rf_loads_22 : decode M_Rf_loads.2.1 22 = .ok (.aload_n 0, 1) := by decide +kernel
theorem d_Rf_loads_23 : decode M_Rf_loads.2.1 23 = .ok (.iload_n 1, 1) := by decide +kernel
theorem d_Rf_loads_24 : decode M_Rf_loads.2.1 24 = .ok (.invokevirtual 236, 3) := by decide +kernel
theorem d_Rf_loads_27 : decode M_Rf_loads.2.1 27 = .ok (.iconst (-1), 1) := by decide +kernel
theorem d_Rf_loads_28 : decode M_Rf_loads.2.1 28 = .ok (.if_icmp .ne 4, 3) := by decide +kernel
theorem d_Rf_loads_31 : decode M_Rf_loads.2.1 31 = .ok (.return_, 1) := by decide +kernel
theorem d_Rf_loads_32 : decode M_Rf_loads.2.1 32 = .ok (.aload_n 0, 1) := by decide +kernel
theorem d_Rf_loads_33 : decode M_Rf_loads.2.1 33 = .ok (.getfield 7, 3) := by decide +kernel
theorem d_Rf_loads_36 : decode M_Rf_loads.2.1 36 = .ok (.bipush 72, 2) := by decide +kernel
theorem d_Rf_loads_38 : decode M_Rf_loads.2.1 38 = .ok (.iload_n 2, 1) := by decide +kernel
theorem d_Rf_loads_39 : decode M_Rf_loads.2.1 39 = .ok (.iadd, 1) := by decide +kernel
theorem d_Rf_loads_40 : decode M_Rf_loads.2.1 40 = .ok (.iconst 2, 1) := by decide +kernel
theorem d_Rf_loads_41 : decode M_Rf_loads.2.1 41 = .ok (.iastore, 1) := by decide +kernel
theorem d_Rf_loads_42 : decode M_Rf_loads.2.1 42 = .ok (.aload_n 0, 1) := by decide +kernel
theorem d_Rf_loads_43 : decode M_Rf_loads.2.1 43 = .ok (.getfield 7, 3) := by decide +kernel
theorem d_Rf_loads_46 : decode M_Rf_loads.2.1 46 = .ok (.sipush 144, 3) := by decide +kernel
theorem d_Rf_loads_49 : decode M_Rf_loads.2.1 49 = .ok (.iload_n 2, 1) := by decide +kernel
theorem d_Rf_loads_50 : decode M_Rf_loads.2.1 50 = .ok (.iadd, 1) := by decide +kernel
theorem d_Rf_loads_51 : decode M_Rf_loads.2.1 51 = .ok (.aload_n 0, 1) := by decide +kernel
theorem d_Rf_loads_52 : decode M_Rf_loads.2.1 52 = .ok (.getfield 7, 3) := by decide +kernel
theorem d_Rf_loads_55 : decode M_Rf_loads.2.1 55 = .ok (.sipush 234, 3) := by decide +kernel
theorem d_Rf_loads_58 : decode M_Rf_loads.2.1 58 = .ok (.iaload, 1) := by decide +kernel
theorem d_Rf_loads_59 : decode M_Rf_loads.2.1 59 = .ok (.iastore, 1) := by decide +kernel
theorem d_Rf_loads_60 : decode M_Rf_loads.2.1 60 = .ok (.aload_n 0, 1) := by decide +kernel
theorem d_Rf_loads_61 : decode M_Rf_loads.2.1 61 = .ok (.getfield 7, 3) := by decide +kernel
theorem d_Rf_loads_64 : decode M_Rf_loads.2.1 64 = .ok (.bipush 108, 2) := by decide +kernel
theorem d_Rf_loads_66 : decode M_Rf_loads.2.1 66 = .ok (.iload_n 2, 1) := by decide +kernel
theorem d_Rf_loads_67 : decode M_Rf_loads.2.1 67 = .ok (.iadd, 1) := by decide +kernel
theorem d_Rf_loads_68 : decode M_Rf_loads.2.1 68 = .ok (.aload_n 0, 1) := by decide +kernel
theorem d_Rf_loads_69 : decode M_Rf_loads.2.1 69 = .ok (.iload_n 1, 1) := by decide +kernel
theorem d_Rf_loads_70 : decode M_Rf_loads.2.1 70 = .ok (.invokevirtual 236, 3) := by decide +kernel
theorem d_Rf_loads_73 : decode M_Rf_loads.2.1 73 = .ok (.iastore, 1) := by decide +kernel
theorem d_Rf_loads_74 : decode M_Rf_loads.2.1 74 = .ok (.aload_n 0, 1) := by decide +kernel
theorem d_Rf_loads_75 : decode M_Rf_loads.2.1 75 = .ok (.getfield 7, 3) := by decide +kernel
theorem d_Rf_loads_78 : decode M_Rf_loads.2.1 78 = .ok (.sipush 156, 3) := by decide +kernel
theorem d_Rf_loads_81 : decode M_Rf_loads.2.1 81 = .ok (.iload_n 2, 1) := by decide +kernel
theorem d_Rf_loads_82 : decode M_Rf_loads.2.1 82 = .ok (.iadd, 1) := by decide +kernel
theorem d_Rf_loads_83 : decode M_Rf_loads.2.1 83 = .ok (.aload_n 0, 1) := by decide +kernel
theorem d_Rf_loads_84 : decode M_Rf_loads.2.1 84 = .ok (.getfield 40, 3) := by decide +kernel
theorem d_Rf_loads_87 : decode M_Rf_loads.2.1 87 = .ok (.iload_n 2, 1) := by decide +kernel
theorem d_Rf_loads_88 : decode M_Rf_loads.2.1 88 = .ok (.iaload, 1) := by decide +kernel
theorem d_Rf_loads_89 : decode M_Rf_loads.2.1 89 = .ok (.iastore, 1) := by decide +kernel
theorem d_Rf_loads_90 : decode M_Rf_loads.2.1 90 = .ok (.aload_n 0, 1) := by decide +kernel
theorem d_Rf_loads_91 : decode M_Rf_loads.2.1 91 = .ok (.getfield 7, 3) := by decide +kernel
theorem d_Rf_loads_94 : decode M_Rf_loads.2.1 94 = .ok (.sipush 156, 3) := by decide +kernel
theorem d_Rf_loads_97 : decode M_Rf_loads.2.1 97 = .ok (.iload_n 2, 1) := by decide +kernel
theorem d_Rf_loads_98 : decode M_Rf_loads.2.1 98 = .ok (.iadd, 1) := by decide +kernel
theorem d_Rf_loads_99 : decode M_Rf_loads.2.1 99 = .ok (.iaload, 1) := by decide +kernel
theorem d_Rf_loads_100 : decode M_Rf_loads.2.1 100 = .ok (.istore_n 3, 1) := by decide +kernel
theorem d_Rf_loads_101 : decode M_Rf_loads.2.1 101 = .ok (.bipush 6, 2) := by decide +kernel
theorem d_Rf_loads_103 : decode M_Rf_loads.2.1 103 = .ok (.iload_n 1, 1) := by decide +kernel
theorem d_Rf_loads_104 : decode M_Rf_loads.2.1 104 = .ok (.imul, 1) := by decide +kernel
theorem d_Rf_loads_105 : decode M_Rf_loads.2.1 105 = .ok (.aload_n 0, 1) := by decide +kernel
theorem d_Rf_loads_106 : decode M_Rf_loads.2.1 106 = .ok (.getfield 7, 3) := by decide +kernel
theorem d_Rf_loads_109 : decode M_Rf_loads.2.1 109 = .ok (.bipush 108, 2) := by decide +kernel
theorem d_Rf_loads_111 : decode M_Rf_loads.2.1 111 = .ok (.iload_n 2, 1) := by decide +kernel
theorem d_Rf_loads_112 : decode M_Rf_loads.2.1 112 = .ok (.iadd, 1) := by decide +kernel
theorem d_Rf_loads_113 : decode M_Rf_loads.2.1 113 = .ok (.iaload, 1) := by decide +kernel
theorem d_Rf_loads_114 : decode M_Rf_loads.2.1 114 = .ok (.iadd, 1) := by decide +kernel
theorem d_Rf_loads_115 : decode M_Rf_loads.2.1 115 = .ok (.istore 4, 2) := by decide +kernel
theorem d_Rf_loads_117 : decode M_Rf_loads.2.1 117 = .ok (.aload_n 0, 1) := by decide +kernel
theorem d_Rf_loads_118 : decode M_Rf_loads.2.1 118 = .ok (.getfield 28, 3) := by decide +kernel
theorem d_Rf_loads_121 : decode M_Rf_loads.2.1 121 = .ok (.iload_n 2, 1) := by decide +kernel
theorem d_Rf_loads_122 : decode M_Rf_loads.2.1 122 = .ok (.iaload, 1) := by decide +kernel
theorem d_Rf_loads_123 : decode M_Rf_loads.2.1 123 = .ok (.aload_n 0, 1) := by decide +kernel
theorem d_Rf_loads_124 : decode M_Rf_loads.2.1 124 = .ok (.getfield 7, 3) := by decide +kernel
theorem d_Rf_loads_127 : decode M_Rf_loads.2.1 127 = .ok (.bipush 120, 2) := by decide +kernel
theorem d_Rf_loads_129 : decode M_Rf_loads.2.1 129 = .ok (.iload_n 2, 1) := by decide +kernel
theorem d_Rf_loads_130 : decode M_Rf_loads.2.1 130 = .ok (.iadd, 1) := by decide +kernel
theorem d_Rf_loads_131 : decode M_Rf_loads.2.1 131 = .ok (.iaload, 1) := by decide +kernel
theorem d_Rf_loads_132 : decode M_Rf_loads.2.1 132 = .ok (.isub, 1) := by decide +kernel
theorem d_Rf_loads_133 : decode M_Rf_loads.2.1 133 = .ok (.istore 5, 2) := by decide +kernel
theorem d_Rf_loads_135 : decode M_Rf_loads.2.1 135 = .ok (.iload 5, 2) := by decide +kernel
theorem d_Rf_loads_137 : decode M_Rf_loads.2.1 137 = .ok (.iconst 5, 1) := by decide +kernel
theorem d_Rf_loads_138 : decode M_Rf_loads.2.1 138 = .ok (.if_icmp .le 7, 3) := by decide +kernel
theorem d_Rf_loads_141 : decode M_Rf_loads.2.1 141 = .ok (.iconst 5, 1) := by decide +kernel
theorem d_Rf_loads_142 : decode M_Rf_loads.2.1 142 = .ok (.goto 5, 3) := by decide +kernel
theorem d_Rf_loads_145 : decode M_Rf_loads.2.1 145 = .ok (.iload 5, 2) := by decide +kernel
theorem d_Rf_loads_147 : decode M_Rf_loads.2.1 147 = .ok (.istore 5, 2) := by decide +kernel
theorem d_Rf_loads_149 : decode M_Rf_loads.2.1 149 = .ok (.iload 5, 2) := by decide +kernel
theorem d_Rf_loads_151 : decode M_Rf_loads.2.1 151 = .ok (.aload_n 0, 1) := by decide +kernel
theorem d_Rf_loads_152 : decode M_Rf_loads.2.1 152 = .ok (.getfield 7, 3) := by decide +kernel
theorem d_Rf_loads_155 : decode M_Rf_loads.2.1 155 = .ok (.iconst 0, 1) := by decide +kernel
theorem d_Rf_loads_156 : decode M_Rf_loads.2.1 156 = .ok (.iload 4, 2) := by decide +kernel
theorem d_Rf_loads_158 : decode M_Rf_loads.2.1 158 = .ok (.iadd, 1) := by decide +kernel
theorem d_Rf_loads_159 : decode M_Rf_loads.2.1 159 = .ok (.iaload, 1) := by decide +kernel
theorem d_Rf_loads_160 : decode M_Rf_loads.2.1 160 = .ok (.if_icmp .le 15, 3) := by decide +kernel
theorem d_Rf_loads_163 : decode M_Rf_loads.2.1 163 = .ok (.aload_n 0, 1) := by decide +kernel
theorem d_Rf_loads_164 : decode M_Rf_loads.2.1 164 = .ok (.getfield 7, 3) := by decide +kernel
theorem d_Rf_loads_167 : decode M_Rf_loads.2.1 167 = .ok (.iconst 0, 1) := by decide +kernel
theorem d_Rf_loads_168 : decode M_Rf_loads.2.1 168 = .ok (.iload 4, 2) := by decide +kernel
theorem d_Rf_loads_170 : decode M_Rf_loads.2.1 170 = .ok (.iadd, 1) := by decide +kernel
theorem d_Rf_loads_171 : decode M_Rf_loads.2.1 171 = .ok (.iaload, 1) := by decide +kernel
theorem d_Rf_loads_172 : decode M_Rf_loads.2.1 172 = .ok (.goto 5, 3) := by decide +kernel
theorem d_Rf_loads_175 : decode M_Rf_loads.2.1 175 = .ok (.iload 5, 2) := by decide +kernel
theorem d_Rf_loads_177 : decode M_Rf_loads.2.1 177 = .ok (.istore 5, 2) := by decide +kernel
theorem d_Rf_loads_179 : decode M_Rf_loads.2.1 179 = .ok (.iload_n 3, 1) := by decide +kernel
theorem d_Rf_loads_180 : decode M_Rf_loads.2.1 180 = .ok (.iconst 2, 1) := by decide +kernel
theorem d_Rf_loads_181 : decode M_Rf_loads.2.1 181 = .ok (.if_icmp .eq 8, 3) := by decide +kernel
theorem d_Rf_loads_184 : decode M_Rf_loads.2.1 184 = .ok (.iload_n 3, 1) := by decide +kernel
theorem d_Rf_loads_185 : decode M_Rf_loads.2.1 185 = .ok (.iconst 5, 1) := by decide +kernel
theorem d_Rf_loads_186 : decode M_Rf_loads.2.1 186 = .ok (.if_icmp .ne 7, 3) := by decide +kernel
theorem d_Rf_loads_189 : decode M_Rf_loads.2.1 189 = .ok (.iconst 0, 1) := by decide +kernel
theorem d_Rf_loads_190 : decode M_Rf_loads.2.1 190 = .ok (.goto 5, 3) := by decide +kernel
theorem d_Rf_loads_193 : decode M_Rf_loads.2.1 193 = .ok (.iload 5, 2) := by decide +kernel
theorem d_Rf_loads_195 : decode M_Rf_loads.2.1 195 = .ok (.istore 5, 2) := by decide +kernel
theorem d_Rf_loads_197 : decode M_Rf_loads.2.1 197 = .ok (.aload_n 0, 1) := by decide +kernel
theorem d_Rf_loads_198 : decode M_Rf_loads.2.1 198 = .ok (.getfield 7, 3) := by decide +kernel
theorem d_Rf_loads_201 : decode M_Rf_loads.2.1 201 = .ok (.iconst 0, 1) := by decide +kernel
theorem d_Rf_loads_202 : decode M_Rf_loads.2.1 202 = .ok (.iload 4, 2) := by decide +kernel
theorem d_Rf_loads_204 : decode M_Rf_loads.2.1 204 = .ok (.iadd, 1) := by decide +kernel
theorem d_Rf_loads_205 : decode M_Rf_loads.2.1 205 = .ok (.dup2, 1) := by decide +kernel
theorem d_Rf_loads_206 : decode M_Rf_loads.2.1 206 = .ok (.iaload, 1) := by decide +kernel
theorem d_Rf_loads_207 : decode M_Rf_loads.2.1 207 = .ok (.iload 5, 2) := by decide +kernel
theorem d_Rf_loads_209 : decode M_Rf_loads.2.1 209 = .ok (.isub, 1) := by decide +kernel
theorem d_Rf_loads_210 : decode M_Rf_loads.2.1 210 = .ok (.iastore, 1) := by decide +kernel
theorem d_Rf_loads_211 : decode M_Rf_loads.2.1 211 = .ok (.aload_n 0, 1) := by decide +kernel
theorem d_Rf_loads_212 : decode M_Rf_loads.2.1 212 = .ok (.getfield 7, 3) := by decide +kernel
theorem d_Rf_loads_215 : decode M_Rf_loads.2.1 215 = .ok (.bipush 120, 2) := by decide +kernel
theorem d_Rf_loads_217 : decode M_Rf_loads.2.1 217 = .ok (.iload_n 2, 1) := by decide +kernel
theorem d_Rf_loads_218 : decode M_Rf_loads.2.1 218 = .ok (.iadd, 1) := by decide +kernel
theorem d_Rf_loads_219 : decode M_Rf_loads.2.1 219 = .ok (.dup2, 1) := by decide +kernel
theorem d_Rf_loads_220 : decode M_Rf_loads.2.1 220 = .ok (.iaload, 1) := by decide +kernel
theorem d_Rf_loads_221 : decode M_Rf_loads.2.1 221 = .ok (.iload 5, 2) := by decide +kernel
theorem d_Rf_loads_223 : decode M_Rf_loads.2.1 223 = .ok (.iadd, 1) := by decide +kernel
theorem d_Rf_loads_224 : decode M_Rf_loads.2.1 224 = .ok (.iastore, 1) := by decide +kernel
theorem d_Rf_loads_225 : decode M_Rf_loads.2.1 225 = .ok (.bipush 100, 2) := by decide +kernel
theorem d_Rf_loads_227 : decode M_Rf_loads.2.1 227 = .ok (.aload_n 0, 1) := by decide +kernel
theorem d_Rf_loads_228 : decode M_Rf_loads.2.1 228 = .ok (.getfield 7, 3) := by decide +kernel
theorem d_Rf_loads_231 : decode M_Rf_loads.2.1 231 = .ok (.bipush 120, 2) := by decide +kernel
theorem d_Rf_loads_233 : decode M_Rf_loads.2.1 233 = .ok (.iload_n 2, 1) := by decide +kernel
theorem d_Rf_loads_234 : decode M_Rf_loads.2.1 234 = .ok (.iadd, 1) := by decide +kernel
theorem d_Rf_loads_235 : decode M_Rf_loads.2.1 235 = .ok (.iaload, 1) := by decide +kernel
theorem d_Rf_loads_236 : decode M_Rf_loads.2.1 236 = .ok (.imul, 1) := by decide +kernel
theorem d_Rf_loads_237 : decode M_Rf_loads.2.1 237 = .ok (.iload_n 3, 1) := by decide +kernel
theorem d_Rf_loads_238 : decode M_Rf_loads.2.1 238 = .ok (.aload_n 0, 1) := by decide +kernel
theorem d_Rf_loads_239 : decode M_Rf_loads.2.1 239 = .ok (.iload_n 2, 1) := by decide +kernel
theorem d_Rf_loads_240 : decode M_Rf_loads.2.1 240 = .ok (.iconst 0, 1) := by decide +kernel
theorem d_Rf_loads_241 : decode M_Rf_loads.2.1 241 = .ok (.invokevirtual 230, 3) := by decide +kernel
theorem d_Rf_loads_244 : decode M_Rf_loads.2.1 244 = .ok (.invokestatic 178, 3) := by decide +kernel
theorem d_Rf_loads_247 : decode M_Rf_loads.2.1 247 = .ok (.aload_n 0, 1) := by decide +kernel
theorem d_Rf_loads_248 : decode M_Rf_loads.2.1 248 = .ok (.getfield 28, 3) := by decide +kernel
theorem d_Rf_loads_251 : decode M_Rf_loads.2.1 251 = .ok (.iload_n 2, 1) := by decide +kernel
theorem d_Rf_loads_252 : decode M_Rf_loads.2.1 252 = .ok (.iaload, 1) := by decide +kernel
theorem d_Rf_loads_253 : decode M_Rf_loads.2.1 253 = .ok (.imul, 1) := by decide +kernel
theorem d_Rf_loads_254 : decode M_Rf_loads.2.1 254 = .ok (.if_icmp .lt 136, 3) := by decide +kernel
theorem d_Rf_loads_257 : decode M_Rf_loads.2.1 257 = .ok (.iload_n 3, 1) := by decide +kernel
theorem d_Rf_loads_258 : decode M_Rf_loads.2.1 258 = .ok (.aload_n 0, 1) := by decide +kernel
theorem d_Rf_loads_259 : decode M_Rf_loads.2.1 259 = .ok (.iload_n 2, 1) := by decide +kernel
theorem d_Rf_loads_260 : decode M_Rf_loads.2.1 260 = .ok (.iconst 1, 1) := by decide +kernel
theorem d_Rf_loads_261 : decode M_Rf_loads.2.1 261 = .ok (.invokevirtual 230, 3) := by decide +kernel
theorem d_Rf_loads_264 : decode M_Rf_loads.2.1 264 = .ok (.invokestatic 182, 3) := by decide +kernel
theorem d_Rf_loads_267 : decode M_Rf_loads.2.1 267 = .ok (.istore 6, 2) := by decide +kernel
theorem d_Rf_loads_269 : decode M_Rf_loads.2.1 269 = .ok (.aload_n 0, 1) := by decide +kernel
theorem d_Rf_loads_270 : decode M_Rf_loads.2.1 270 = .ok (.getfield 7, 3) := by decide +kernel
theorem d_Rf_loads_273 : decode M_Rf_loads.2.1 273 = .ok (.bipush 72, 2) := by decide +kernel
theorem d_Rf_loads_275 : decode M_Rf_loads.2.1 275 = .ok (.iload_n 2, 1) := by decide +kernel
theorem d_Rf_loads_276 : decode M_Rf_loads.2.1 276 = .ok (.iadd, 1) := by decide +kernel
theorem d_Rf_loads_277 : decode M_Rf_loads.2.1 277 = .ok (.iconst 3, 1) := by decide +kernel
theorem d_Rf_loads_278 : decode M_Rf_loads.2.1 278 = .ok (.iastore, 1) := by decide +kernel
theorem d_Rf_loads_279 : decode M_Rf_loads.2.1 279 = .ok (.aload_n 0, 1) := by decide +kernel
theorem d_Rf_loads_280 : decode M_Rf_loads.2.1 280 = .ok (.getfield 7, 3) := by decide +kernel
theorem d_Rf_loads_283 : decode M_Rf_loads.2.1 283 = .ok (.sipush 168, 3) := by decide +kernel
theorem d_Rf_loads_286 : decode M_Rf_loads.2.1 286 = .ok (.iload_n 2, 1) := by decide +kernel
theorem d_Rf_loads_287 : decode M_Rf_loads.2.1 287 = .ok (.iadd, 1) := by decide +kernel
theorem d_Rf_loads_288 : decode M_Rf_loads.2.1 288 = .ok (.dup2, 1) := by decide +kernel
theorem d_Rf_loads_289 : decode M_Rf_loads.2.1 289 = .ok (.iaload, 1) := by decide +kernel
theorem d_Rf_loads_290 : decode M_Rf_loads.2.1 290 = .ok (.iload_n 3, 1) := by decide +kernel
theorem d_Rf_loads_291 : decode M_Rf_loads.2.1 291 = .ok (.iconst 5, 1) := by decide +kernel
theorem d_Rf_loads_292 : decode M_Rf_loads.2.1 292 = .ok (.if_icmp .ne 8, 3) := by decide +kernel
theorem d_Rf_loads_295 : decode M_Rf_loads.2.1 295 = .ok (.iload 6, 2) := by decide +kernel
theorem d_Rf_loads_297 : decode M_Rf_loads.2.1 297 = .ok (.goto 15, 3) := by decide +kernel
theorem d_Rf_loads_300 : decode M_Rf_loads.2.1 300 = .ok (.iload 6, 2) := by decide +kernel
theorem d_Rf_loads_302 : decode M_Rf_loads.2.1 302 = .ok (.aload_n 0, 1) := by decide +kernel
theorem d_Rf_loads_303 : decode M_Rf_loads.2.1 303 = .ok (.getfield 7, 3) := by decide +kernel
theorem d_Rf_loads_306 : decode M_Rf_loads.2.1 306 = .ok (.bipush 120, 2) := by decide +kernel
theorem d_Rf_loads_308 : decode M_Rf_loads.2.1 308 = .ok (.iload_n 2, 1) := by decide +kernel
theorem d_Rf_loads_309 : decode M_Rf_loads.2.1 309 = .ok (.iadd, 1) := by decide +kernel
theorem d_Rf_loads_310 : decode M_Rf_loads.2.1 310 = .ok (.iaload, 1) := by decide +kernel
theorem d_Rf_loads_311 : decode M_Rf_loads.2.1 311 = .ok (.imul, 1) := by decide +kernel
theorem d_Rf_loads_312 : decode M_Rf_loads.2.1 312 = .ok (.iadd, 1) := by decide +kernel
theorem d_Rf_loads_313 : decode M_Rf_loads.2.1 313 = .ok (.iastore, 1) := by decide +kernel
theorem d_Rf_loads_314 : decode M_Rf_loads.2.1 314 = .ok (.aload_n 0, 1) := by decide +kernel
theorem d_Rf_loads_315 : decode M_Rf_loads.2.1 315 = .ok (.getfield 7, 3) := by decide +kernel
theorem d_Rf_loads_318 : decode M_Rf_loads.2.1 318 = .ok (.sipush 132, 3) := by decide +kernel
theorem d_Rf_loads_321 : decode M_Rf_loads.2.1 321 = .ok (.iload_n 2, 1) := by decide +kernel
theorem d_Rf_loads_322 : decode M_Rf_loads.2.1 322 = .ok (.iadd, 1) := by decide +kernel
theorem d_Rf_loads_323 : decode M_Rf_loads.2.1 323 = .ok (.iload_n 3, 1) := by decide +kernel
theorem d_Rf_loads_324 : decode M_Rf_loads.2.1 324 = .ok (.aload_n 0, 1) := by decide +kernel
theorem d_Rf_loads_325 : decode M_Rf_loads.2.1 325 = .ok (.iload_n 1, 1) := by decide +kernel
theorem d_Rf_loads_326 : decode M_Rf_loads.2.1 326 = .ok (.aload_n 0, 1) := by decide +kernel
theorem d_Rf_loads_327 : decode M_Rf_loads.2.1 327 = .ok (.getfield 7, 3) := by decide +kernel
theorem d_Rf_loads_330 : decode M_Rf_loads.2.1 330 = .ok (.bipush 108, 2) := by decide +kernel
theorem d_Rf_loads_332 : decode M_Rf_loads.2.1 332 = .ok (.iload_n 2, 1) := by decide +kernel
theorem d_Rf_loads_333 : decode M_Rf_loads.2.1 333 = .ok (.iadd, 1) := by decide +kernel
theorem d_Rf_loads_334 : decode M_Rf_loads.2.1 334 = .ok (.iaload, 1) := by decide +kernel
theorem d_Rf_loads_335 : decode M_Rf_loads.2.1 335 = .ok (.invokevirtual 239, 3) := by decide +kernel
theorem d_Rf_loads_338 : decode M_Rf_loads.2.1 338 = .ok (.invokestatic 185, 3) := by decide +kernel
theorem d_Rf_loads_341 : decode M_Rf_loads.2.1 341 = .ok (.iastore, 1) := by decide +kernel
theorem d_Rf_loads_342 : decode M_Rf_loads.2.1 342 = .ok (.aload_n 0, 1) := by decide +kernel
theorem d_Rf_loads_343 : decode M_Rf_loads.2.1 343 = .ok (.getfield 7, 3) := by decide +kernel
theorem d_Rf_loads_346 : decode M_Rf_loads.2.1 346 = .ok (.sipush 180, 3) := by decide +kernel
theorem d_Rf_loads_349 : decode M_Rf_loads.2.1 349 = .ok (.iload_n 2, 1) := by decide +kernel
theorem d_Rf_loads_350 : decode M_Rf_loads.2.1 350 = .ok (.iadd, 1) := by decide +kernel
theorem d_Rf_loads_351 : decode M_Rf_loads.2.1 351 = .ok (.dup2, 1) := by decide +kernel
theorem d_Rf_loads_352 : decode M_Rf_loads.2.1 352 = .ok (.iaload, 1) := by decide +kernel
theorem d_Rf_loads_353 : decode M_Rf_loads.2.1 353 = .ok (.iload_n 3, 1) := by decide +kernel
theorem d_Rf_loads_354 : decode M_Rf_loads.2.1 354 = .ok (.aload_n 0, 1) := by decide +kernel
theorem d_Rf_loads_355 : decode M_Rf_loads.2.1 355 = .ok (.getfield 37, 3) := by decide +kernel
theorem d_Rf_loads_358 : decode M_Rf_loads.2.1 358 = .ok (.iload_n 2, 1) := by decide +kernel
theorem d_Rf_loads_359 : decode M_Rf_loads.2.1 359 = .ok (.iaload, 1) := by decide +kernel
theorem d_Rf_loads_360 : decode M_Rf_loads.2.1 360 = .ok (.invokestatic 188, 3) := by decide +kernel
theorem d_Rf_loads_363 : decode M_Rf_loads.2.1 363 = .ok (.aload_n 0, 1) := by decide +kernel
theorem d_Rf_loads_364 : decode M_Rf_loads.2.1 364 = .ok (.getfield 7, 3) := by decide +kernel
theorem d_Rf_loads_367 : decode M_Rf_loads.2.1 367 = .ok (.sipush 132, 3) := by decide +kernel
theorem d_Rf_loads_370 : decode M_Rf_loads.2.1 370 = .ok (.iload_n 2, 1) := by decide +kernel
theorem d_Rf_loads_371 : decode M_Rf_loads.2.1 371 = .ok (.iadd, 1) := by decide +kernel
theorem d_Rf_loads_372 : decode M_Rf_loads.2.1 372 = .ok (.iaload, 1) := by decide +kernel
theorem d_Rf_loads_373 : decode M_Rf_loads.2.1 373 = .ok (.imul, 1) := by decide +kernel
theorem d_Rf_loads_374 : decode M_Rf_loads.2.1 374 = .ok (.iadd, 1) := by decide +kernel
theorem d_Rf_loads_375 : decode M_Rf_loads.2.1 375 = .ok (.iastore, 1) := by decide +kernel
theorem d_Rf_loads_376 : decode M_Rf_loads.2.1 376 = .ok (.aload_n 0, 1) := by decide +kernel
theorem d_Rf_loads_377 : decode M_Rf_loads.2.1 377 = .ok (.getfield 7, 3) := by decide +kernel
theorem d_Rf_loads_380 : decode M_Rf_loads.2.1 380 = .ok (.sipush 216, 3) := by decide +kernel
theorem d_Rf_loads_383 : decode M_Rf_loads.2.1 383 = .ok (.iload_n 2, 1) := by decide +kernel
theorem d_Rf_loads_384 : decode M_Rf_loads.2.1 384 = .ok (.iadd, 1) := by decide +kernel
theorem d_Rf_loads_385 : decode M_Rf_loads.2.1 385 = .ok (.dup2, 1) := by decide +kernel
theorem d_Rf_loads_386 : decode M_Rf_loads.2.1 386 = .ok (.iaload, 1) := by decide +kernel
theorem d_Rf_loads_387 : decode M_Rf_loads.2.1 387 = .ok (.iconst 1, 1) := by decide +kernel
theorem d_Rf_loads_388 : decode M_Rf_loads.2.1 388 = .ok (.iadd, 1) := by decide +kernel
theorem d_Rf_loads_389 : decode M_Rf_loads.2.1 389 = .ok (.iastore, 1) := by decide +kernel
theorem d_Rf_loads_390 : decode M_Rf_loads.2.1 390 = .ok (.return_, 1) := by decide +kernel
set_option maxHeartbeats 4000000 in
set_option maxRecDepth 100000 in
theorem rl_end {D : xD} {N : Nat} {l : Launch} {d : Nat} {c z : T2} {P Q : Nat → Int32} {rest : List va_E} {K : Option Value → List va_E → Prop} {nb : Nat} (hnb : c 32 1 = nI nb) (h12 : nb ≤ 12) {m : Nat} (em : P 234 = nI m) (hm : m < 14700) {b s : Nat} (hb : b < 12) (hs : s < 6) (es : P (84 + b) = nI s) {kd a : Nat} (ek : P (156 + b) = nI kd) (hk : kd < 6) (ea : P (108 + b) = nI a) (ha : a < 6) (hCI : CI c) {n v4 : Int32} (hK : K none (encR D N c z (go2 c P nb m s b kd a) Q ++ rest)) : Wp D N l (EI M_Rf_loads) M_Rf_loads (Rm (d + 5) 0 0) (Qm D N K 0 0) 0 0 225 [(5, .int n), (4, .int v4), (3, .int (nI kd)), (2, .int (nI b)), (0, .ref (N + 0)), (1, .int (nI s))] [] (encR D N c z P Q ++ rest) := by
  by_cases h5 : kd = 5
  · skip
    refine wp_bipush (q := 227) d_Rf_loads_225 rfl bp_100 ?_
    refine wp_aload_n (q := 228) d_Rf_loads_227 rfl rfl ?_
    refine wp_get (q := 231) fl_Rf_7 d_Rf_loads_228 rfl rfl rfl ?_
    refine wp_bipush (q := 233) d_Rf_loads_231 rfl bp_120 ?_
    refine wp_iload_n (q := 234) d_Rf_loads_233 rfl rfl ?_
    first | refine wp_iaddN (q := 235) d_Rf_loads_234 rfl ?_ | refine wp_iadd (q := 235) d_Rf_loads_234 rfl ?_
    refine wp_iald (q := 236) d_Rf_loads_235 rfl (rfl) (by omega) (by decide) ?_
    refine wp_imul (q := 237) d_Rf_loads_236 rfl ?_
    refine wp_iload_n (q := 238) d_Rf_loads_237 rfl rfl ?_
    refine wp_aload_n (q := 239) d_Rf_loads_238 rfl rfl ?_
    refine wp_iload_n (q := 240) d_Rf_loads_239 rfl rfl ?_
    refine wp_iconst (q := 241) d_Rf_loads_240 rfl ic_0 ?_
    refine wp_cv2 (q := 244) lk_Rf_230 (ro _ _ _) d_Rf_loads_241 rfl (Nat.le_of_ble_eq_true rfl) (rfl) rfl (Nat.zero_le _) (Nat.zero_le _) ?_
    refine ok_Rf_lawOf hnb h12 em hm hb hs es (key := 0) (by decide) hCI ?_
    refine wp_cs2 (q := 247) lk_Rf_178 (ro _ _ _) d_Rf_loads_244 rfl (Nat.le_of_ble_eq_true rfl) (Nat.zero_le _) (Nat.zero_le _) ?_
    refine ok_Rf_needOf hk ?_
    refine wp_aload_n (q := 248) d_Rf_loads_247 rfl rfl ?_
    refine wp_get (q := 251) fl_Rf_28 d_Rf_loads_248 rfl rfl rfl ?_
    refine wp_iload_n (q := 252) d_Rf_loads_251 rfl rfl ?_
    refine wp_iald (q := 253) d_Rf_loads_252 rfl (rfl) (by omega) (by decide) ?_
    refine wp_imul (q := 254) d_Rf_loads_253 rfl ?_
    refine wp_icmp_lt (q := 257) (tgt := 390) d_Rf_loads_254 (by decide) rfl (fun hc_254 => ?_) (fun hc_254 => ?_)
    · refine wp_vret d_Rf_loads_390 rfl (Nat.le_refl _) (Nat.le_refl _) ?_
      first
        | (rw [go2, if_neg (fun z => lt_le hc_254 z)] at hK; exact hK)
        | (rw [go2, if_pos (nlt_le hc_254), lvP, kTake, if_pos h5] at hK; (try simp (disch := omega) only [upd_ne, upd_eq]); exact hK)
    · refine wp_iload_n (q := 258) d_Rf_loads_257 rfl rfl ?_
      refine wp_aload_n (q := 259) d_Rf_loads_258 rfl rfl ?_
      refine wp_iload_n (q := 260) d_Rf_loads_259 rfl rfl ?_
      refine wp_iconst (q := 261) d_Rf_loads_260 rfl ic_1 ?_
      refine wp_cv2 (q := 264) lk_Rf_230 (ro _ _ _) d_Rf_loads_261 rfl (Nat.le_of_ble_eq_true rfl) (rfl) rfl (Nat.zero_le _) (Nat.zero_le _) ?_
      refine ok_Rf_lawOf hnb h12 em hm hb hs es (key := 1) (by decide) hCI ?_
      refine wp_cs2 (q := 267) lk_Rf_182 (ro _ _ _) d_Rf_loads_264 rfl (Nat.le_of_ble_eq_true rfl) (Nat.zero_le _) (Nat.zero_le _) ?_
      refine ok_Rf_fareOf hk ?_
      refine wp_istore (q := 269) (L2 := [(6, _), (5, _), (4, _), (3, _), (2, _), (0, _), (1, _)]) d_Rf_loads_267 rfl (by decide) rfl ?_
      refine wp_aload_n (q := 270) d_Rf_loads_269 rfl rfl ?_
      refine wp_get (q := 273) fl_Rf_7 d_Rf_loads_270 rfl rfl rfl ?_
      refine wp_bipush (q := 275) d_Rf_loads_273 rfl bp_72 ?_
      refine wp_iload_n (q := 276) d_Rf_loads_275 rfl rfl ?_
      first | refine wp_iaddN (q := 277) d_Rf_loads_276 rfl ?_ | refine wp_iadd (q := 277) d_Rf_loads_276 rfl ?_
      refine wp_iconst (q := 278) d_Rf_loads_277 rfl ic_3 ?_
      refine wp_iast (q := 279) d_Rf_loads_278 rfl (rfl) (by omega) (by decide) (fr_P) ?_
      refine wp_aload_n (q := 280) d_Rf_loads_279 rfl rfl ?_
      refine wp_get (q := 283) fl_Rf_7 d_Rf_loads_280 rfl rfl rfl ?_
      refine wp_sipush (q := 286) d_Rf_loads_283 rfl sp_168 ?_
      refine wp_iload_n (q := 287) d_Rf_loads_286 rfl rfl ?_
      first | refine wp_iaddN (q := 288) d_Rf_loads_287 rfl ?_ | refine wp_iadd (q := 288) d_Rf_loads_287 rfl ?_
      refine wp_dup2 (q := 289) d_Rf_loads_288 rfl rfl rfl ?_
      refine wp_iald (q := 290) d_Rf_loads_289 rfl (rfl) (by omega) (by decide) ?_
      simp (disch := omega) only [upd_ne, upd_eq]
      refine wp_iload_n (q := 291) d_Rf_loads_290 rfl rfl ?_
      refine wp_iconst (q := 292) d_Rf_loads_291 rfl ic_5 ?_
      refine wp_icmp_ne_f (q := 295) (tgt := 300) d_Rf_loads_292 (by decide) rfl (by rw [h5]) ?_
      refine wp_iload (q := 297) d_Rf_loads_295 rfl rfl ?_
      refine wp_goto (tgt := 312) d_Rf_loads_297 (by decide) ?_
      refine wp_iadd (q := 313) d_Rf_loads_312 rfl ?_
      refine wp_iast (q := 314) d_Rf_loads_313 rfl (rfl) (by omega) (by decide) (fr_P) ?_
      refine wp_aload_n (q := 315) d_Rf_loads_314 rfl rfl ?_
      refine wp_get (q := 318) fl_Rf_7 d_Rf_loads_315 rfl rfl rfl ?_
      refine wp_sipush (q := 321) d_Rf_loads_318 rfl sp_132 ?_
      refine wp_iload_n (q := 322) d_Rf_loads_321 rfl rfl ?_
      first | refine wp_iaddN (q := 323) d_Rf_loads_322 rfl ?_ | refine wp_iadd (q := 323) d_Rf_loads_322 rfl ?_
      refine wp_iload_n (q := 324) d_Rf_loads_323 rfl rfl ?_
      refine wp_aload_n (q := 325) d_Rf_loads_324 rfl rfl ?_
      refine wp_iload_n (q := 326) d_Rf_loads_325 rfl rfl ?_
      refine wp_aload_n (q := 327) d_Rf_loads_326 rfl rfl ?_
      refine wp_get (q := 330) fl_Rf_7 d_Rf_loads_327 rfl rfl rfl ?_
      refine wp_bipush (q := 332) d_Rf_loads_330 rfl bp_108 ?_
      refine wp_iload_n (q := 333) d_Rf_loads_332 rfl rfl ?_
      first | refine wp_iaddN (q := 334) d_Rf_loads_333 rfl ?_ | refine wp_iadd (q := 334) d_Rf_loads_333 rfl ?_
      refine wp_iald (q := 335) d_Rf_loads_334 rfl (rfl) (by omega) (by decide) ?_
      simp (disch := omega) only [upd_ne, upd_eq]
      rw [ea]
      refine wp_cv2 (q := 338) lk_Rf_239 (ro _ _ _) d_Rf_loads_335 rfl (Nat.le_of_ble_eq_true rfl) (rfl) rfl (Nat.zero_le _) (Nat.zero_le _) ?_
      refine ok_Rf_wayOf (m := m) (by simp (disch := omega) only [upd_ne, upd_eq]; exact em) hm hs ha ?_
      refine wp_cs2 (q := 341) lk_Rf_185 (ro _ _ _) d_Rf_loads_338 rfl (Nat.le_of_ble_eq_true rfl) (Nat.zero_le _) (Nat.zero_le _) ?_
      refine ok_Rf_minutesOf hk ?_
      refine wp_iast (q := 342) d_Rf_loads_341 rfl (rfl) (by omega) (by decide) (fr_P) ?_
      refine wp_aload_n (q := 343) d_Rf_loads_342 rfl rfl ?_
      refine wp_get (q := 346) fl_Rf_7 d_Rf_loads_343 rfl rfl rfl ?_
      refine wp_sipush (q := 349) d_Rf_loads_346 rfl sp_180 ?_
      refine wp_iload_n (q := 350) d_Rf_loads_349 rfl rfl ?_
      first | refine wp_iaddN (q := 351) d_Rf_loads_350 rfl ?_ | refine wp_iadd (q := 351) d_Rf_loads_350 rfl ?_
      refine wp_dup2 (q := 352) d_Rf_loads_351 rfl rfl rfl ?_
      refine wp_iald (q := 353) d_Rf_loads_352 rfl (rfl) (by omega) (by decide) ?_
      simp (disch := omega) only [upd_ne, upd_eq]
      refine wp_iload_n (q := 354) d_Rf_loads_353 rfl rfl ?_
      refine wp_aload_n (q := 355) d_Rf_loads_354 rfl rfl ?_
      refine wp_get (q := 358) fl_Rf_37 d_Rf_loads_355 rfl rfl rfl ?_
      refine wp_iload_n (q := 359) d_Rf_loads_358 rfl rfl ?_
      refine wp_iald (q := 360) d_Rf_loads_359 rfl (rfl) (by omega) (by decide) ?_
      refine wp_cs2 (q := 363) lk_Rf_188 (ro _ _ _) d_Rf_loads_360 rfl (Nat.le_of_ble_eq_true rfl) (Nat.zero_le _) (Nat.zero_le _) ?_
      refine ok_Rf_fuelOf hk ?_
      refine wp_aload_n (q := 364) d_Rf_loads_363 rfl rfl ?_
      refine wp_get (q := 367) fl_Rf_7 d_Rf_loads_364 rfl rfl rfl ?_
      refine wp_sipush (q := 370) d_Rf_loads_367 rfl sp_132 ?_
      refine wp_iload_n (q := 371) d_Rf_loads_370 rfl rfl ?_
      first | refine wp_iaddN (q := 372) d_Rf_loads_371 rfl ?_ | refine wp_iadd (q := 372) d_Rf_loads_371 rfl ?_
      refine wp_iald (q := 373) d_Rf_loads_372 rfl (rfl) (by omega) (by decide) ?_
      simp (disch := omega) only [upd_ne, upd_eq]
      refine wp_imul (q := 374) d_Rf_loads_373 rfl ?_
      refine wp_iadd (q := 375) d_Rf_loads_374 rfl ?_
      refine wp_iast (q := 376) d_Rf_loads_375 rfl (rfl) (by omega) (by decide) (fr_P) ?_
      refine wp_aload_n (q := 377) d_Rf_loads_376 rfl rfl ?_
      refine wp_get (q := 380) fl_Rf_7 d_Rf_loads_377 rfl rfl rfl ?_
      refine wp_sipush (q := 383) d_Rf_loads_380 rfl sp_216 ?_
      refine wp_iload_n (q := 384) d_Rf_loads_383 rfl rfl ?_
      first | refine wp_iaddN (q := 385) d_Rf_loads_384 rfl ?_ | refine wp_iadd (q := 385) d_Rf_loads_384 rfl ?_
      refine wp_dup2 (q := 386) d_Rf_loads_385 rfl rfl rfl ?_
      refine wp_iald (q := 387) d_Rf_loads_386 rfl (rfl) (by omega) (by decide) ?_
      simp (disch := omega) only [upd_ne, upd_eq]
      refine wp_iconst (q := 388) d_Rf_loads_387 rfl ic_1 ?_
      first | refine wp_iaddN (q := 389) d_Rf_loads_388 rfl ?_ | refine wp_iadd (q := 389) d_Rf_loads_388 rfl ?_
      refine wp_iast (q := 390) d_Rf_loads_389 rfl (rfl) (by omega) (by decide) (fr_P) ?_
      refine wp_vret d_Rf_loads_390 rfl (Nat.le_refl _) (Nat.le_refl _) ?_
      first
        | (rw [go2, if_neg (fun z => lt_le hc_254 z)] at hK; exact hK)
        | (rw [go2, if_pos (nlt_le hc_254), lvP, kTake, if_pos h5] at hK; (try simp (disch := omega) only [upd_ne, upd_eq]); exact hK)
  · skip
    refine wp_bipush (q := 227) d_Rf_loads_225 rfl bp_100 ?_
    refine wp_aload_n (q := 228) d_Rf_loads_227 rfl rfl ?_
    refine wp_get (q := 231) fl_Rf_7 d_Rf_loads_228 rfl rfl rfl ?_
    refine wp_bipush (q := 233) d_Rf_loads_231 rfl bp_120 ?_
    refine wp_iload_n (q := 234) d_Rf_loads_233 rfl rfl ?_
    first | refine wp_iaddN (q := 235) d_Rf_loads_234 rfl ?_ | refine wp_iadd (q := 235) d_Rf_loads_234 rfl ?_
    refine wp_iald (q := 236) d_Rf_loads_235 rfl (rfl) (by omega) (by decide) ?_
    refine wp_imul (q := 237) d_Rf_loads_236 rfl ?_
    refine wp_iload_n (q := 238) d_Rf_loads_237 rfl rfl ?_
    refine wp_aload_n (q := 239) d_Rf_loads_238 rfl rfl ?_
    refine wp_iload_n (q := 240) d_Rf_loads_239 rfl rfl ?_
    refine wp_iconst (q := 241) d_Rf_loads_240 rfl ic_0 ?_
    refine wp_cv2 (q := 244) lk_Rf_230 (ro _ _ _) d_Rf_loads_241 rfl (Nat.le_of_ble_eq_true rfl) (rfl) rfl (Nat.zero_le _) (Nat.zero_le _) ?_
    refine ok_Rf_lawOf hnb h12 em hm hb hs es (key := 0) (by decide) hCI ?_
    refine wp_cs2 (q := 247) lk_Rf_178 (ro _ _ _) d_Rf_loads_244 rfl (Nat.le_of_ble_eq_true rfl) (Nat.zero_le _) (Nat.zero_le _) ?_
    refine ok_Rf_needOf hk ?_
    refine wp_aload_n (q := 248) d_Rf_loads_247 rfl rfl ?_
    refine wp_get (q := 251) fl_Rf_28 d_Rf_loads_248 rfl rfl rfl ?_
    refine wp_iload_n (q := 252) d_Rf_loads_251 rfl rfl ?_
    refine wp_iald (q := 253) d_Rf_loads_252 rfl (rfl) (by omega) (by decide) ?_
    refine wp_imul (q := 254) d_Rf_loads_253 rfl ?_
    refine wp_icmp_lt (q := 257) (tgt := 390) d_Rf_loads_254 (by decide) rfl (fun hc_254 => ?_) (fun hc_254 => ?_)
    · refine wp_vret d_Rf_loads_390 rfl (Nat.le_refl _) (Nat.le_refl _) ?_
      first
        | (rw [go2, if_neg (fun z => lt_le hc_254 z)] at hK; exact hK)
        | (rw [go2, if_pos (nlt_le hc_254), lvP, kTake, if_neg h5] at hK; (try simp (disch := omega) only [upd_ne, upd_eq]); exact hK)
    · refine wp_iload_n (q := 258) d_Rf_loads_257 rfl rfl ?_
      refine wp_aload_n (q := 259) d_Rf_loads_258 rfl rfl ?_
      refine wp_iload_n (q := 260) d_Rf_loads_259 rfl rfl ?_
      refine wp_iconst (q := 261) d_Rf_loads_260 rfl ic_1 ?_
      refine wp_cv2 (q := 264) lk_Rf_230 (ro _ _ _) d_Rf_loads_261 rfl (Nat.le_of_ble_eq_true rfl) (rfl) rfl (Nat.zero_le _) (Nat.zero_le _) ?_
      refine ok_Rf_lawOf hnb h12 em hm hb hs es (key := 1) (by decide) hCI ?_
      refine wp_cs2 (q := 267) lk_Rf_182 (ro _ _ _) d_Rf_loads_264 rfl (Nat.le_of_ble_eq_true rfl) (Nat.zero_le _) (Nat.zero_le _) ?_
      refine ok_Rf_fareOf hk ?_
      refine wp_istore (q := 269) (L2 := [(6, _), (5, _), (4, _), (3, _), (2, _), (0, _), (1, _)]) d_Rf_loads_267 rfl (by decide) rfl ?_
      refine wp_aload_n (q := 270) d_Rf_loads_269 rfl rfl ?_
      refine wp_get (q := 273) fl_Rf_7 d_Rf_loads_270 rfl rfl rfl ?_
      refine wp_bipush (q := 275) d_Rf_loads_273 rfl bp_72 ?_
      refine wp_iload_n (q := 276) d_Rf_loads_275 rfl rfl ?_
      first | refine wp_iaddN (q := 277) d_Rf_loads_276 rfl ?_ | refine wp_iadd (q := 277) d_Rf_loads_276 rfl ?_
      refine wp_iconst (q := 278) d_Rf_loads_277 rfl ic_3 ?_
      refine wp_iast (q := 279) d_Rf_loads_278 rfl (rfl) (by omega) (by decide) (fr_P) ?_
      refine wp_aload_n (q := 280) d_Rf_loads_279 rfl rfl ?_
      refine wp_get (q := 283) fl_Rf_7 d_Rf_loads_280 rfl rfl rfl ?_
      refine wp_sipush (q := 286) d_Rf_loads_283 rfl sp_168 ?_
      refine wp_iload_n (q := 287) d_Rf_loads_286 rfl rfl ?_
      first | refine wp_iaddN (q := 288) d_Rf_loads_287 rfl ?_ | refine wp_iadd (q := 288) d_Rf_loads_287 rfl ?_
      refine wp_dup2 (q := 289) d_Rf_loads_288 rfl rfl rfl ?_
      refine wp_iald (q := 290) d_Rf_loads_289 rfl (rfl) (by omega) (by decide) ?_
      simp (disch := omega) only [upd_ne, upd_eq]
      refine wp_iload_n (q := 291) d_Rf_loads_290 rfl rfl ?_
      refine wp_iconst (q := 292) d_Rf_loads_291 rfl ic_5 ?_
      refine wp_icmp_ne_t (tgt := 300) d_Rf_loads_292 (by decide) (fun z => h5 ((nI_eq (by omega) (by decide)).mp z)) ?_
      refine wp_iload (q := 302) d_Rf_loads_300 rfl rfl ?_
      refine wp_aload_n (q := 303) d_Rf_loads_302 rfl rfl ?_
      refine wp_get (q := 306) fl_Rf_7 d_Rf_loads_303 rfl rfl rfl ?_
      refine wp_bipush (q := 308) d_Rf_loads_306 rfl bp_120 ?_
      refine wp_iload_n (q := 309) d_Rf_loads_308 rfl rfl ?_
      first | refine wp_iaddN (q := 310) d_Rf_loads_309 rfl ?_ | refine wp_iadd (q := 310) d_Rf_loads_309 rfl ?_
      refine wp_iald (q := 311) d_Rf_loads_310 rfl (rfl) (by omega) (by decide) ?_
      simp (disch := omega) only [upd_ne, upd_eq]
      refine wp_imul (q := 312) d_Rf_loads_311 rfl ?_
      refine wp_iadd (q := 313) d_Rf_loads_312 rfl ?_
      refine wp_iast (q := 314) d_Rf_loads_313 rfl (rfl) (by omega) (by decide) (fr_P) ?_
      refine wp_aload_n (q := 315) d_Rf_loads_314 rfl rfl ?_
      refine wp_get (q := 318) fl_Rf_7 d_Rf_loads_315 rfl rfl rfl ?_
      refine wp_sipush (q := 321) d_Rf_loads_318 rfl sp_132 ?_
      refine wp_iload_n (q := 322) d_Rf_loads_321 rfl rfl ?_
      first | refine wp_iaddN (q := 323) d_Rf_loads_322 rfl ?_ | refine wp_iadd (q := 323) d_Rf_loads_322 rfl ?_
      refine wp_iload_n (q := 324) d_Rf_loads_323 rfl rfl ?_
      refine wp_aload_n (q := 325) d_Rf_loads_324 rfl rfl ?_
      refine wp_iload_n (q := 326) d_Rf_loads_325 rfl rfl ?_
      refine wp_aload_n (q := 327) d_Rf_loads_326 rfl rfl ?_
      refine wp_get (q := 330) fl_Rf_7 d_Rf_loads_327 rfl rfl rfl ?_
      refine wp_bipush (q := 332) d_Rf_loads_330 rfl bp_108 ?_
      refine wp_iload_n (q := 333) d_Rf_loads_332 rfl rfl ?_
      first | refine wp_iaddN (q := 334) d_Rf_loads_333 rfl ?_ | refine wp_iadd (q := 334) d_Rf_loads_333 rfl ?_
      refine wp_iald (q := 335) d_Rf_loads_334 rfl (rfl) (by omega) (by decide) ?_
      simp (disch := omega) only [upd_ne, upd_eq]
      rw [ea]
      refine wp_cv2 (q := 338) lk_Rf_239 (ro _ _ _) d_Rf_loads_335 rfl (Nat.le_of_ble_eq_true rfl) (rfl) rfl (Nat.zero_le _) (Nat.zero_le _) ?_
      refine ok_Rf_wayOf (m := m) (by simp (disch := omega) only [upd_ne, upd_eq]; exact em) hm hs ha ?_
      refine wp_cs2 (q := 341) lk_Rf_185 (ro _ _ _) d_Rf_loads_338 rfl (Nat.le_of_ble_eq_true rfl) (Nat.zero_le _) (Nat.zero_le _) ?_
      refine ok_Rf_minutesOf hk ?_
      refine wp_iast (q := 342) d_Rf_loads_341 rfl (rfl) (by omega) (by decide) (fr_P) ?_
      refine wp_aload_n (q := 343) d_Rf_loads_342 rfl rfl ?_
      refine wp_get (q := 346) fl_Rf_7 d_Rf_loads_343 rfl rfl rfl ?_
      refine wp_sipush (q := 349) d_Rf_loads_346 rfl sp_180 ?_
      refine wp_iload_n (q := 350) d_Rf_loads_349 rfl rfl ?_
      first | refine wp_iaddN (q := 351) d_Rf_loads_350 rfl ?_ | refine wp_iadd (q := 351) d_Rf_loads_350 rfl ?_
      refine wp_dup2 (q := 352) d_Rf_loads_351 rfl rfl rfl ?_
      refine wp_iald (q := 353) d_Rf_loads_352 rfl (rfl) (by omega) (by decide) ?_
      simp (disch := omega) only [upd_ne, upd_eq]
      refine wp_iload_n (q := 354) d_Rf_loads_353 rfl rfl ?_
      refine wp_aload_n (q := 355) d_Rf_loads_354 rfl rfl ?_
      refine wp_get (q := 358) fl_Rf_37 d_Rf_loads_355 rfl rfl rfl ?_
      refine wp_iload_n (q := 359) d_Rf_loads_358 rfl rfl ?_
      refine wp_iald (q := 360) d_Rf_loads_359 rfl (rfl) (by omega) (by decide) ?_
      refine wp_cs2 (q := 363) lk_Rf_188 (ro _ _ _) d_Rf_loads_360 rfl (Nat.le_of_ble_eq_true rfl) (Nat.zero_le _) (Nat.zero_le _) ?_
      refine ok_Rf_fuelOf hk ?_
      refine wp_aload_n (q := 364) d_Rf_loads_363 rfl rfl ?_
      refine wp_get (q := 367) fl_Rf_7 d_Rf_loads_364 rfl rfl rfl ?_
      refine wp_sipush (q := 370) d_Rf_loads_367 rfl sp_132 ?_
      refine wp_iload_n (q := 371) d_Rf_loads_370 rfl rfl ?_
      first | refine wp_iaddN (q := 372) d_Rf_loads_371 rfl ?_ | refine wp_iadd (q := 372) d_Rf_loads_371 rfl ?_
      refine wp_iald (q := 373) d_Rf_loads_372 rfl (rfl) (by omega) (by decide) ?_
      simp (disch := omega) only [upd_ne, upd_eq]
      refine wp_imul (q := 374) d_Rf_loads_373 rfl ?_
      refine wp_iadd (q := 375) d_Rf_loads_374 rfl ?_
      refine wp_iast (q := 376) d_Rf_loads_375 rfl (rfl) (by omega) (by decide) (fr_P) ?_
      refine wp_aload_n (q := 377) d_Rf_loads_376 rfl rfl ?_
      refine wp_get (q := 380) fl_Rf_7 d_Rf_loads_377 rfl rfl rfl ?_
      refine wp_sipush (q := 383) d_Rf_loads_380 rfl sp_216 ?_
      refine wp_iload_n (q := 384) d_Rf_loads_383 rfl rfl ?_
      first | refine wp_iaddN (q := 385) d_Rf_loads_384 rfl ?_ | refine wp_iadd (q := 385) d_Rf_loads_384 rfl ?_
      refine wp_dup2 (q := 386) d_Rf_loads_385 rfl rfl rfl ?_
      refine wp_iald (q := 387) d_Rf_loads_386 rfl (rfl) (by omega) (by decide) ?_
      simp (disch := omega) only [upd_ne, upd_eq]
      refine wp_iconst (q := 388) d_Rf_loads_387 rfl ic_1 ?_
      first | refine wp_iaddN (q := 389) d_Rf_loads_388 rfl ?_ | refine wp_iadd (q := 389) d_Rf_loads_388 rfl ?_
      refine wp_iast (q := 390) d_Rf_loads_389 rfl (rfl) (by omega) (by decide) (fr_P) ?_
      refine wp_vret d_Rf_loads_390 rfl (Nat.le_refl _) (Nat.le_refl _) ?_
      first
        | (rw [go2, if_neg (fun z => lt_le hc_254 z)] at hK; exact hK)
        | (rw [go2, if_pos (nlt_le hc_254), lvP, kTake, if_neg h5] at hK; (try simp (disch := omega) only [upd_ne, upd_eq]); exact hK)
theorem am_congr {c : T2} {P P2 : Nat → Int32} {s : Nat} (hs : s < 6) (h : ∀ i, i < 36 → P i = P2 i) : ∀ n, n ≤ 6 → am c P s n = am c P2 s n
  | 0, _ => rfl
  | n + 1, hn => by
    rw [am, am, am_congr hs h n (by omega)]
    cases e : am c P2 s n with
    | none => rfl
    | some j =>
      have := (am_lt e).1
      dsimp only
      rw [h (6 * s + j) (by omega), h (6 * s + n) (by omega)]
set_option maxHeartbeats 4000000 in
set_option maxRecDepth 100000 in
theorem rl_mid {D : xD} {N : Nat} {l : Launch} {d : Nat} {c z : T2} {P Q : Nat → Int32} {rest : List va_E} {K : Option Value → List va_E → Prop} {nb : Nat} (hnb : c 32 1 = nI nb) (h12 : nb ≤ 12) {m : Nat} (em : P 234 = nI m) (hm : m < 14700) {b s : Nat} (hb : b < 12) (hs : s < 6) (es : P (84 + b) = nI s) {kd a : Nat} (ek : P (156 + b) = nI kd) (hk : kd < 6) (ea : P (108 + b) = nI a) (ha : a < 6) (hCI : CI c) (hK : K none (encR D N c z (sv2 c P nb m s b kd a) Q ++ rest)) : Wp D N l (EI M_Rf_loads) M_Rf_loads (Rm (d + 5) 0 0) (Qm D N K 0 0) 0 0 90 [(2, .int (nI b)), (0, .ref (N + 0)), (1, .int (nI s))] [] (encR D N c z P Q ++ rest) := by
  rw [sv2] at hK
  by_cases h2 : kd = 2
  · skip
    refine wp_aload_n (q := 91) d_Rf_loads_90 rfl rfl ?_
    refine wp_get (q := 94) fl_Rf_7 d_Rf_loads_91 rfl rfl rfl ?_
    refine wp_sipush (q := 97) d_Rf_loads_94 rfl sp_156 ?_
    refine wp_iload_n (q := 98) d_Rf_loads_97 rfl rfl ?_
    first | refine wp_iaddN (q := 99) d_Rf_loads_98 rfl ?_ | refine wp_iadd (q := 99) d_Rf_loads_98 rfl ?_
    refine wp_iald (q := 100) d_Rf_loads_99 rfl (rfl) (by omega) (by decide) ?_
    rw [ek]
    refine wp_istore_n (q := 101) (L2 := [(3, _), (2, _), (0, _), (1, _)]) d_Rf_loads_100 rfl (by decide) rfl ?_
    refine wp_bipush (q := 103) d_Rf_loads_101 rfl bp_6 ?_
    refine wp_iload_n (q := 104) d_Rf_loads_103 rfl rfl ?_
    first | refine wp_imulN (q := 105) d_Rf_loads_104 rfl ?_ | refine wp_imul (q := 105) d_Rf_loads_104 rfl ?_
    refine wp_aload_n (q := 106) d_Rf_loads_105 rfl rfl ?_
    refine wp_get (q := 109) fl_Rf_7 d_Rf_loads_106 rfl rfl rfl ?_
    refine wp_bipush (q := 111) d_Rf_loads_109 rfl bp_108 ?_
    refine wp_iload_n (q := 112) d_Rf_loads_111 rfl rfl ?_
    first | refine wp_iaddN (q := 113) d_Rf_loads_112 rfl ?_ | refine wp_iadd (q := 113) d_Rf_loads_112 rfl ?_
    refine wp_iald (q := 114) d_Rf_loads_113 rfl (rfl) (by omega) (by decide) ?_
    rw [ea]
    first | refine wp_iaddN (q := 115) d_Rf_loads_114 rfl ?_ | refine wp_iadd (q := 115) d_Rf_loads_114 rfl ?_
    refine wp_istore (q := 117) (L2 := [(4, _), (3, _), (2, _), (0, _), (1, _)]) d_Rf_loads_115 rfl (by decide) rfl ?_
    refine wp_aload_n (q := 118) d_Rf_loads_117 rfl rfl ?_
    refine wp_get (q := 121) fl_Rf_28 d_Rf_loads_118 rfl rfl rfl ?_
    refine wp_iload_n (q := 122) d_Rf_loads_121 rfl rfl ?_
    refine wp_iald (q := 123) d_Rf_loads_122 rfl (rfl) (by omega) (by decide) ?_
    refine wp_aload_n (q := 124) d_Rf_loads_123 rfl rfl ?_
    refine wp_get (q := 127) fl_Rf_7 d_Rf_loads_124 rfl rfl rfl ?_
    refine wp_bipush (q := 129) d_Rf_loads_127 rfl bp_120 ?_
    refine wp_iload_n (q := 130) d_Rf_loads_129 rfl rfl ?_
    first | refine wp_iaddN (q := 131) d_Rf_loads_130 rfl ?_ | refine wp_iadd (q := 131) d_Rf_loads_130 rfl ?_
    refine wp_iald (q := 132) d_Rf_loads_131 rfl (rfl) (by omega) (by decide) ?_
    refine wp_isub (q := 133) d_Rf_loads_132 rfl ?_
    refine wp_istore (q := 135) (L2 := [(5, _), (4, _), (3, _), (2, _), (0, _), (1, _)]) d_Rf_loads_133 rfl (by decide) rfl ?_
    refine wp_iload (q := 137) d_Rf_loads_135 rfl rfl ?_
    refine wp_iconst (q := 138) d_Rf_loads_137 rfl ic_5 ?_
    refine wp_icmp_le (q := 141) (tgt := 145) d_Rf_loads_138 (by decide) rfl (fun hc_138 => ?_) (fun hc_138 => ?_)
    · refine wp_iload (q := 147) d_Rf_loads_145 rfl rfl ?_
      refine wp_istore (q := 149) (L2 := [(5, _), (4, _), (3, _), (2, _), (0, _), (1, _)]) d_Rf_loads_147 rfl (by decide) rfl ?_
      refine wp_iload (q := 151) d_Rf_loads_149 rfl rfl ?_
      refine wp_aload_n (q := 152) d_Rf_loads_151 rfl rfl ?_
      refine wp_get (q := 155) fl_Rf_7 d_Rf_loads_152 rfl rfl rfl ?_
      refine wp_iconst (q := 156) d_Rf_loads_155 rfl ic_0 ?_
      refine wp_iload (q := 158) d_Rf_loads_156 rfl rfl ?_
      first | refine wp_iaddN (q := 159) d_Rf_loads_158 rfl ?_ | refine wp_iadd (q := 159) d_Rf_loads_158 rfl ?_
      rw [Nat.zero_add]
      refine wp_iald (q := 160) d_Rf_loads_159 rfl (rfl) (by omega) (by decide) ?_
      refine wp_icmp_le (q := 163) (tgt := 175) d_Rf_loads_160 (by decide) rfl (fun hc_160 => ?_) (fun hc_160 => ?_)
      · refine wp_iload (q := 177) d_Rf_loads_175 rfl rfl ?_
        refine wp_istore (q := 179) (L2 := [(5, _), (4, _), (3, _), (2, _), (0, _), (1, _)]) d_Rf_loads_177 rfl (by decide) rfl ?_
        refine wp_iload_n (q := 180) d_Rf_loads_179 rfl rfl ?_
        refine wp_iconst (q := 181) d_Rf_loads_180 rfl ic_2 ?_
        refine wp_icmp_eq_t (tgt := 189) d_Rf_loads_181 (by decide) (by rw [h2]) ?_
        refine wp_iconst (q := 190) d_Rf_loads_189 rfl ic_0 ?_
        refine wp_goto (tgt := 195) d_Rf_loads_190 (by decide) ?_
        refine wp_istore (q := 197) (L2 := [(5, _), (4, _), (3, _), (2, _), (0, _), (1, _)]) d_Rf_loads_195 rfl (by decide) rfl ?_
        refine wp_aload_n (q := 198) d_Rf_loads_197 rfl rfl ?_
        refine wp_get (q := 201) fl_Rf_7 d_Rf_loads_198 rfl rfl rfl ?_
        refine wp_iconst (q := 202) d_Rf_loads_201 rfl ic_0 ?_
        refine wp_iload (q := 204) d_Rf_loads_202 rfl rfl ?_
        first | refine wp_iaddN (q := 205) d_Rf_loads_204 rfl ?_ | refine wp_iadd (q := 205) d_Rf_loads_204 rfl ?_
        rw [Nat.zero_add]
        refine wp_dup2 (q := 206) d_Rf_loads_205 rfl rfl rfl ?_
        refine wp_iald (q := 207) d_Rf_loads_206 rfl (rfl) (by omega) (by decide) ?_
        refine wp_iload (q := 209) d_Rf_loads_207 rfl rfl ?_
        refine wp_isub (q := 210) d_Rf_loads_209 rfl ?_
        refine wp_iast (q := 211) d_Rf_loads_210 rfl (rfl) (by omega) (by decide) (fr_P) ?_
        refine wp_aload_n (q := 212) d_Rf_loads_211 rfl rfl ?_
        refine wp_get (q := 215) fl_Rf_7 d_Rf_loads_212 rfl rfl rfl ?_
        refine wp_bipush (q := 217) d_Rf_loads_215 rfl bp_120 ?_
        refine wp_iload_n (q := 218) d_Rf_loads_217 rfl rfl ?_
        first | refine wp_iaddN (q := 219) d_Rf_loads_218 rfl ?_ | refine wp_iadd (q := 219) d_Rf_loads_218 rfl ?_
        refine wp_dup2 (q := 220) d_Rf_loads_219 rfl rfl rfl ?_
        refine wp_iald (q := 221) d_Rf_loads_220 rfl (rfl) (by omega) (by decide) ?_
        refine wp_iload (q := 223) d_Rf_loads_221 rfl rfl ?_
        refine wp_iadd (q := 224) d_Rf_loads_223 rfl ?_
        refine wp_iast (q := 225) d_Rf_loads_224 rfl (rfl) (by omega) (by decide) (fr_P) ?_
        refine wpR (rl_end (P := letP P s a b (inN c P s a b kd)) hnb h12 (by unfold letP; simp (disch := omega) only [upd_ne]; exact em) hm hb hs (by unfold letP; simp (disch := omega) only [upd_ne]; exact es) (by unfold letP; simp (disch := omega) only [upd_ne]; exact ek) hk (by unfold letP; simp (disch := omega) only [upd_ne]; exact ea) ha hCI hK) ?_
        try simp (disch := omega) only [upd_ne, upd_eq]
        first | (rw [letP, inN, if_pos (Or.inl h2)]; done)
      · refine wp_aload_n (q := 164) d_Rf_loads_163 rfl rfl ?_
        refine wp_get (q := 167) fl_Rf_7 d_Rf_loads_164 rfl rfl rfl ?_
        refine wp_iconst (q := 168) d_Rf_loads_167 rfl ic_0 ?_
        refine wp_iload (q := 170) d_Rf_loads_168 rfl rfl ?_
        first | refine wp_iaddN (q := 171) d_Rf_loads_170 rfl ?_ | refine wp_iadd (q := 171) d_Rf_loads_170 rfl ?_
        rw [Nat.zero_add]
        refine wp_iald (q := 172) d_Rf_loads_171 rfl (rfl) (by omega) (by decide) ?_
        refine wp_goto (tgt := 177) d_Rf_loads_172 (by decide) ?_
        refine wp_istore (q := 179) (L2 := [(5, _), (4, _), (3, _), (2, _), (0, _), (1, _)]) d_Rf_loads_177 rfl (by decide) rfl ?_
        refine wp_iload_n (q := 180) d_Rf_loads_179 rfl rfl ?_
        refine wp_iconst (q := 181) d_Rf_loads_180 rfl ic_2 ?_
        refine wp_icmp_eq_t (tgt := 189) d_Rf_loads_181 (by decide) (by rw [h2]) ?_
        refine wp_iconst (q := 190) d_Rf_loads_189 rfl ic_0 ?_
        refine wp_goto (tgt := 195) d_Rf_loads_190 (by decide) ?_
        refine wp_istore (q := 197) (L2 := [(5, _), (4, _), (3, _), (2, _), (0, _), (1, _)]) d_Rf_loads_195 rfl (by decide) rfl ?_
        refine wp_aload_n (q := 198) d_Rf_loads_197 rfl rfl ?_
        refine wp_get (q := 201) fl_Rf_7 d_Rf_loads_198 rfl rfl rfl ?_
        refine wp_iconst (q := 202) d_Rf_loads_201 rfl ic_0 ?_
        refine wp_iload (q := 204) d_Rf_loads_202 rfl rfl ?_
        first | refine wp_iaddN (q := 205) d_Rf_loads_204 rfl ?_ | refine wp_iadd (q := 205) d_Rf_loads_204 rfl ?_
        rw [Nat.zero_add]
        refine wp_dup2 (q := 206) d_Rf_loads_205 rfl rfl rfl ?_
        refine wp_iald (q := 207) d_Rf_loads_206 rfl (rfl) (by omega) (by decide) ?_
        refine wp_iload (q := 209) d_Rf_loads_207 rfl rfl ?_
        refine wp_isub (q := 210) d_Rf_loads_209 rfl ?_
        refine wp_iast (q := 211) d_Rf_loads_210 rfl (rfl) (by omega) (by decide) (fr_P) ?_
        refine wp_aload_n (q := 212) d_Rf_loads_211 rfl rfl ?_
        refine wp_get (q := 215) fl_Rf_7 d_Rf_loads_212 rfl rfl rfl ?_
        refine wp_bipush (q := 217) d_Rf_loads_215 rfl bp_120 ?_
        refine wp_iload_n (q := 218) d_Rf_loads_217 rfl rfl ?_
        first | refine wp_iaddN (q := 219) d_Rf_loads_218 rfl ?_ | refine wp_iadd (q := 219) d_Rf_loads_218 rfl ?_
        refine wp_dup2 (q := 220) d_Rf_loads_219 rfl rfl rfl ?_
        refine wp_iald (q := 221) d_Rf_loads_220 rfl (rfl) (by omega) (by decide) ?_
        refine wp_iload (q := 223) d_Rf_loads_221 rfl rfl ?_
        refine wp_iadd (q := 224) d_Rf_loads_223 rfl ?_
        refine wp_iast (q := 225) d_Rf_loads_224 rfl (rfl) (by omega) (by decide) (fr_P) ?_
        refine wpR (rl_end (P := letP P s a b (inN c P s a b kd)) hnb h12 (by unfold letP; simp (disch := omega) only [upd_ne]; exact em) hm hb hs (by unfold letP; simp (disch := omega) only [upd_ne]; exact es) (by unfold letP; simp (disch := omega) only [upd_ne]; exact ek) hk (by unfold letP; simp (disch := omega) only [upd_ne]; exact ea) ha hCI hK) ?_
        try simp (disch := omega) only [upd_ne, upd_eq]
        first | (rw [letP, inN, if_pos (Or.inl h2)]; done)
    · refine wp_iconst (q := 142) d_Rf_loads_141 rfl ic_5 ?_
      refine wp_goto (tgt := 147) d_Rf_loads_142 (by decide) ?_
      refine wp_istore (q := 149) (L2 := [(5, _), (4, _), (3, _), (2, _), (0, _), (1, _)]) d_Rf_loads_147 rfl (by decide) rfl ?_
      refine wp_iload (q := 151) d_Rf_loads_149 rfl rfl ?_
      refine wp_aload_n (q := 152) d_Rf_loads_151 rfl rfl ?_
      refine wp_get (q := 155) fl_Rf_7 d_Rf_loads_152 rfl rfl rfl ?_
      refine wp_iconst (q := 156) d_Rf_loads_155 rfl ic_0 ?_
      refine wp_iload (q := 158) d_Rf_loads_156 rfl rfl ?_
      first | refine wp_iaddN (q := 159) d_Rf_loads_158 rfl ?_ | refine wp_iadd (q := 159) d_Rf_loads_158 rfl ?_
      rw [Nat.zero_add]
      refine wp_iald (q := 160) d_Rf_loads_159 rfl (rfl) (by omega) (by decide) ?_
      refine wp_icmp_le (q := 163) (tgt := 175) d_Rf_loads_160 (by decide) rfl (fun hc_160 => ?_) (fun hc_160 => ?_)
      · refine wp_iload (q := 177) d_Rf_loads_175 rfl rfl ?_
        refine wp_istore (q := 179) (L2 := [(5, _), (4, _), (3, _), (2, _), (0, _), (1, _)]) d_Rf_loads_177 rfl (by decide) rfl ?_
        refine wp_iload_n (q := 180) d_Rf_loads_179 rfl rfl ?_
        refine wp_iconst (q := 181) d_Rf_loads_180 rfl ic_2 ?_
        refine wp_icmp_eq_t (tgt := 189) d_Rf_loads_181 (by decide) (by rw [h2]) ?_
        refine wp_iconst (q := 190) d_Rf_loads_189 rfl ic_0 ?_
        refine wp_goto (tgt := 195) d_Rf_loads_190 (by decide) ?_
        refine wp_istore (q := 197) (L2 := [(5, _), (4, _), (3, _), (2, _), (0, _), (1, _)]) d_Rf_loads_195 rfl (by decide) rfl ?_
        refine wp_aload_n (q := 198) d_Rf_loads_197 rfl rfl ?_
        refine wp_get (q := 201) fl_Rf_7 d_Rf_loads_198 rfl rfl rfl ?_
        refine wp_iconst (q := 202) d_Rf_loads_201 rfl ic_0 ?_
        refine wp_iload (q := 204) d_Rf_loads_202 rfl rfl ?_
        first | refine wp_iaddN (q := 205) d_Rf_loads_204 rfl ?_ | refine wp_iadd (q := 205) d_Rf_loads_204 rfl ?_
        rw [Nat.zero_add]
        refine wp_dup2 (q := 206) d_Rf_loads_205 rfl rfl rfl ?_
        refine wp_iald (q := 207) d_Rf_loads_206 rfl (rfl) (by omega) (by decide) ?_
        refine wp_iload (q := 209) d_Rf_loads_207 rfl rfl ?_
        refine wp_isub (q := 210) d_Rf_loads_209 rfl ?_
        refine wp_iast (q := 211) d_Rf_loads_210 rfl (rfl) (by omega) (by decide) (fr_P) ?_
        refine wp_aload_n (q := 212) d_Rf_loads_211 rfl rfl ?_
        refine wp_get (q := 215) fl_Rf_7 d_Rf_loads_212 rfl rfl rfl ?_
        refine wp_bipush (q := 217) d_Rf_loads_215 rfl bp_120 ?_
        refine wp_iload_n (q := 218) d_Rf_loads_217 rfl rfl ?_
        first | refine wp_iaddN (q := 219) d_Rf_loads_218 rfl ?_ | refine wp_iadd (q := 219) d_Rf_loads_218 rfl ?_
        refine wp_dup2 (q := 220) d_Rf_loads_219 rfl rfl rfl ?_
        refine wp_iald (q := 221) d_Rf_loads_220 rfl (rfl) (by omega) (by decide) ?_
        refine wp_iload (q := 223) d_Rf_loads_221 rfl rfl ?_
        refine wp_iadd (q := 224) d_Rf_loads_223 rfl ?_
        refine wp_iast (q := 225) d_Rf_loads_224 rfl (rfl) (by omega) (by decide) (fr_P) ?_
        refine wpR (rl_end (P := letP P s a b (inN c P s a b kd)) hnb h12 (by unfold letP; simp (disch := omega) only [upd_ne]; exact em) hm hb hs (by unfold letP; simp (disch := omega) only [upd_ne]; exact es) (by unfold letP; simp (disch := omega) only [upd_ne]; exact ek) hk (by unfold letP; simp (disch := omega) only [upd_ne]; exact ea) ha hCI hK) ?_
        try simp (disch := omega) only [upd_ne, upd_eq]
        first | (rw [letP, inN, if_pos (Or.inl h2)]; done)
      · refine wp_aload_n (q := 164) d_Rf_loads_163 rfl rfl ?_
        refine wp_get (q := 167) fl_Rf_7 d_Rf_loads_164 rfl rfl rfl ?_
        refine wp_iconst (q := 168) d_Rf_loads_167 rfl ic_0 ?_
        refine wp_iload (q := 170) d_Rf_loads_168 rfl rfl ?_
        first | refine wp_iaddN (q := 171) d_Rf_loads_170 rfl ?_ | refine wp_iadd (q := 171) d_Rf_loads_170 rfl ?_
        rw [Nat.zero_add]
        refine wp_iald (q := 172) d_Rf_loads_171 rfl (rfl) (by omega) (by decide) ?_
        refine wp_goto (tgt := 177) d_Rf_loads_172 (by decide) ?_
        refine wp_istore (q := 179) (L2 := [(5, _), (4, _), (3, _), (2, _), (0, _), (1, _)]) d_Rf_loads_177 rfl (by decide) rfl ?_
        refine wp_iload_n (q := 180) d_Rf_loads_179 rfl rfl ?_
        refine wp_iconst (q := 181) d_Rf_loads_180 rfl ic_2 ?_
        refine wp_icmp_eq_t (tgt := 189) d_Rf_loads_181 (by decide) (by rw [h2]) ?_
        refine wp_iconst (q := 190) d_Rf_loads_189 rfl ic_0 ?_
        refine wp_goto (tgt := 195) d_Rf_loads_190 (by decide) ?_
        refine wp_istore (q := 197) (L2 := [(5, _), (4, _), (3, _), (2, _), (0, _), (1, _)]) d_Rf_loads_195 rfl (by decide) rfl ?_
        refine wp_aload_n (q := 198) d_Rf_loads_197 rfl rfl ?_
        refine wp_get (q := 201) fl_Rf_7 d_Rf_loads_198 rfl rfl rfl ?_
        refine wp_iconst (q := 202) d_Rf_loads_201 rfl ic_0 ?_
        refine wp_iload (q := 204) d_Rf_loads_202 rfl rfl ?_
        first | refine wp_iaddN (q := 205) d_Rf_loads_204 rfl ?_ | refine wp_iadd (q := 205) d_Rf_loads_204 rfl ?_
        rw [Nat.zero_add]
        refine wp_dup2 (q := 206) d_Rf_loads_205 rfl rfl rfl ?_
        refine wp_iald (q := 207) d_Rf_loads_206 rfl (rfl) (by omega) (by decide) ?_
        refine wp_iload (q := 209) d_Rf_loads_207 rfl rfl ?_
        refine wp_isub (q := 210) d_Rf_loads_209 rfl ?_
        refine wp_iast (q := 211) d_Rf_loads_210 rfl (rfl) (by omega) (by decide) (fr_P) ?_
        refine wp_aload_n (q := 212) d_Rf_loads_211 rfl rfl ?_
        refine wp_get (q := 215) fl_Rf_7 d_Rf_loads_212 rfl rfl rfl ?_
        refine wp_bipush (q := 217) d_Rf_loads_215 rfl bp_120 ?_
        refine wp_iload_n (q := 218) d_Rf_loads_217 rfl rfl ?_
        first | refine wp_iaddN (q := 219) d_Rf_loads_218 rfl ?_ | refine wp_iadd (q := 219) d_Rf_loads_218 rfl ?_
        refine wp_dup2 (q := 220) d_Rf_loads_219 rfl rfl rfl ?_
        refine wp_iald (q := 221) d_Rf_loads_220 rfl (rfl) (by omega) (by decide) ?_
        refine wp_iload (q := 223) d_Rf_loads_221 rfl rfl ?_
        refine wp_iadd (q := 224) d_Rf_loads_223 rfl ?_
        refine wp_iast (q := 225) d_Rf_loads_224 rfl (rfl) (by omega) (by decide) (fr_P) ?_
        refine wpR (rl_end (P := letP P s a b (inN c P s a b kd)) hnb h12 (by unfold letP; simp (disch := omega) only [upd_ne]; exact em) hm hb hs (by unfold letP; simp (disch := omega) only [upd_ne]; exact es) (by unfold letP; simp (disch := omega) only [upd_ne]; exact ek) hk (by unfold letP; simp (disch := omega) only [upd_ne]; exact ea) ha hCI hK) ?_
        try simp (disch := omega) only [upd_ne, upd_eq]
        first | (rw [letP, inN, if_pos (Or.inl h2)]; done)
  by_cases h5 : kd = 5
  · skip
    refine wp_aload_n (q := 91) d_Rf_loads_90 rfl rfl ?_
    refine wp_get (q := 94) fl_Rf_7 d_Rf_loads_91 rfl rfl rfl ?_
    refine wp_sipush (q := 97) d_Rf_loads_94 rfl sp_156 ?_
    refine wp_iload_n (q := 98) d_Rf_loads_97 rfl rfl ?_
    first | refine wp_iaddN (q := 99) d_Rf_loads_98 rfl ?_ | refine wp_iadd (q := 99) d_Rf_loads_98 rfl ?_
    refine wp_iald (q := 100) d_Rf_loads_99 rfl (rfl) (by omega) (by decide) ?_
    rw [ek]
    refine wp_istore_n (q := 101) (L2 := [(3, _), (2, _), (0, _), (1, _)]) d_Rf_loads_100 rfl (by decide) rfl ?_
    refine wp_bipush (q := 103) d_Rf_loads_101 rfl bp_6 ?_
    refine wp_iload_n (q := 104) d_Rf_loads_103 rfl rfl ?_
    first | refine wp_imulN (q := 105) d_Rf_loads_104 rfl ?_ | refine wp_imul (q := 105) d_Rf_loads_104 rfl ?_
    refine wp_aload_n (q := 106) d_Rf_loads_105 rfl rfl ?_
    refine wp_get (q := 109) fl_Rf_7 d_Rf_loads_106 rfl rfl rfl ?_
    refine wp_bipush (q := 111) d_Rf_loads_109 rfl bp_108 ?_
    refine wp_iload_n (q := 112) d_Rf_loads_111 rfl rfl ?_
    first | refine wp_iaddN (q := 113) d_Rf_loads_112 rfl ?_ | refine wp_iadd (q := 113) d_Rf_loads_112 rfl ?_
    refine wp_iald (q := 114) d_Rf_loads_113 rfl (rfl) (by omega) (by decide) ?_
    rw [ea]
    first | refine wp_iaddN (q := 115) d_Rf_loads_114 rfl ?_ | refine wp_iadd (q := 115) d_Rf_loads_114 rfl ?_
    refine wp_istore (q := 117) (L2 := [(4, _), (3, _), (2, _), (0, _), (1, _)]) d_Rf_loads_115 rfl (by decide) rfl ?_
    refine wp_aload_n (q := 118) d_Rf_loads_117 rfl rfl ?_
    refine wp_get (q := 121) fl_Rf_28 d_Rf_loads_118 rfl rfl rfl ?_
    refine wp_iload_n (q := 122) d_Rf_loads_121 rfl rfl ?_
    refine wp_iald (q := 123) d_Rf_loads_122 rfl (rfl) (by omega) (by decide) ?_
    refine wp_aload_n (q := 124) d_Rf_loads_123 rfl rfl ?_
    refine wp_get (q := 127) fl_Rf_7 d_Rf_loads_124 rfl rfl rfl ?_
    refine wp_bipush (q := 129) d_Rf_loads_127 rfl bp_120 ?_
    refine wp_iload_n (q := 130) d_Rf_loads_129 rfl rfl ?_
    first | refine wp_iaddN (q := 131) d_Rf_loads_130 rfl ?_ | refine wp_iadd (q := 131) d_Rf_loads_130 rfl ?_
    refine wp_iald (q := 132) d_Rf_loads_131 rfl (rfl) (by omega) (by decide) ?_
    refine wp_isub (q := 133) d_Rf_loads_132 rfl ?_
    refine wp_istore (q := 135) (L2 := [(5, _), (4, _), (3, _), (2, _), (0, _), (1, _)]) d_Rf_loads_133 rfl (by decide) rfl ?_
    refine wp_iload (q := 137) d_Rf_loads_135 rfl rfl ?_
    refine wp_iconst (q := 138) d_Rf_loads_137 rfl ic_5 ?_
    refine wp_icmp_le (q := 141) (tgt := 145) d_Rf_loads_138 (by decide) rfl (fun hc_138 => ?_) (fun hc_138 => ?_)
    · refine wp_iload (q := 147) d_Rf_loads_145 rfl rfl ?_
      refine wp_istore (q := 149) (L2 := [(5, _), (4, _), (3, _), (2, _), (0, _), (1, _)]) d_Rf_loads_147 rfl (by decide) rfl ?_
      refine wp_iload (q := 151) d_Rf_loads_149 rfl rfl ?_
      refine wp_aload_n (q := 152) d_Rf_loads_151 rfl rfl ?_
      refine wp_get (q := 155) fl_Rf_7 d_Rf_loads_152 rfl rfl rfl ?_
      refine wp_iconst (q := 156) d_Rf_loads_155 rfl ic_0 ?_
      refine wp_iload (q := 158) d_Rf_loads_156 rfl rfl ?_
      first | refine wp_iaddN (q := 159) d_Rf_loads_158 rfl ?_ | refine wp_iadd (q := 159) d_Rf_loads_158 rfl ?_
      rw [Nat.zero_add]
      refine wp_iald (q := 160) d_Rf_loads_159 rfl (rfl) (by omega) (by decide) ?_
      refine wp_icmp_le (q := 163) (tgt := 175) d_Rf_loads_160 (by decide) rfl (fun hc_160 => ?_) (fun hc_160 => ?_)
      · refine wp_iload (q := 177) d_Rf_loads_175 rfl rfl ?_
        refine wp_istore (q := 179) (L2 := [(5, _), (4, _), (3, _), (2, _), (0, _), (1, _)]) d_Rf_loads_177 rfl (by decide) rfl ?_
        refine wp_iload_n (q := 180) d_Rf_loads_179 rfl rfl ?_
        refine wp_iconst (q := 181) d_Rf_loads_180 rfl ic_2 ?_
        refine wp_icmp_eq_f (q := 184) (tgt := 189) d_Rf_loads_181 (by decide) rfl (fun z => h2 ((nI_eq (by omega) (by decide)).mp z)) ?_
        refine wp_iload_n (q := 185) d_Rf_loads_184 rfl rfl ?_
        refine wp_iconst (q := 186) d_Rf_loads_185 rfl ic_5 ?_
        refine wp_icmp_ne_f (q := 189) (tgt := 193) d_Rf_loads_186 (by decide) rfl (by rw [h5]) ?_
        refine wp_iconst (q := 190) d_Rf_loads_189 rfl ic_0 ?_
        refine wp_goto (tgt := 195) d_Rf_loads_190 (by decide) ?_
        refine wp_istore (q := 197) (L2 := [(5, _), (4, _), (3, _), (2, _), (0, _), (1, _)]) d_Rf_loads_195 rfl (by decide) rfl ?_
        refine wp_aload_n (q := 198) d_Rf_loads_197 rfl rfl ?_
        refine wp_get (q := 201) fl_Rf_7 d_Rf_loads_198 rfl rfl rfl ?_
        refine wp_iconst (q := 202) d_Rf_loads_201 rfl ic_0 ?_
        refine wp_iload (q := 204) d_Rf_loads_202 rfl rfl ?_
        first | refine wp_iaddN (q := 205) d_Rf_loads_204 rfl ?_ | refine wp_iadd (q := 205) d_Rf_loads_204 rfl ?_
        rw [Nat.zero_add]
        refine wp_dup2 (q := 206) d_Rf_loads_205 rfl rfl rfl ?_
        refine wp_iald (q := 207) d_Rf_loads_206 rfl (rfl) (by omega) (by decide) ?_
        refine wp_iload (q := 209) d_Rf_loads_207 rfl rfl ?_
        refine wp_isub (q := 210) d_Rf_loads_209 rfl ?_
        refine wp_iast (q := 211) d_Rf_loads_210 rfl (rfl) (by omega) (by decide) (fr_P) ?_
        refine wp_aload_n (q := 212) d_Rf_loads_211 rfl rfl ?_
        refine wp_get (q := 215) fl_Rf_7 d_Rf_loads_212 rfl rfl rfl ?_
        refine wp_bipush (q := 217) d_Rf_loads_215 rfl bp_120 ?_
        refine wp_iload_n (q := 218) d_Rf_loads_217 rfl rfl ?_
        first | refine wp_iaddN (q := 219) d_Rf_loads_218 rfl ?_ | refine wp_iadd (q := 219) d_Rf_loads_218 rfl ?_
        refine wp_dup2 (q := 220) d_Rf_loads_219 rfl rfl rfl ?_
        refine wp_iald (q := 221) d_Rf_loads_220 rfl (rfl) (by omega) (by decide) ?_
        refine wp_iload (q := 223) d_Rf_loads_221 rfl rfl ?_
        refine wp_iadd (q := 224) d_Rf_loads_223 rfl ?_
        refine wp_iast (q := 225) d_Rf_loads_224 rfl (rfl) (by omega) (by decide) (fr_P) ?_
        refine wpR (rl_end (P := letP P s a b (inN c P s a b kd)) hnb h12 (by unfold letP; simp (disch := omega) only [upd_ne]; exact em) hm hb hs (by unfold letP; simp (disch := omega) only [upd_ne]; exact es) (by unfold letP; simp (disch := omega) only [upd_ne]; exact ek) hk (by unfold letP; simp (disch := omega) only [upd_ne]; exact ea) ha hCI hK) ?_
        try simp (disch := omega) only [upd_ne, upd_eq]
        first | (rw [letP, inN, if_pos (Or.inr h5)]; done)
      · refine wp_aload_n (q := 164) d_Rf_loads_163 rfl rfl ?_
        refine wp_get (q := 167) fl_Rf_7 d_Rf_loads_164 rfl rfl rfl ?_
        refine wp_iconst (q := 168) d_Rf_loads_167 rfl ic_0 ?_
        refine wp_iload (q := 170) d_Rf_loads_168 rfl rfl ?_
        first | refine wp_iaddN (q := 171) d_Rf_loads_170 rfl ?_ | refine wp_iadd (q := 171) d_Rf_loads_170 rfl ?_
        rw [Nat.zero_add]
        refine wp_iald (q := 172) d_Rf_loads_171 rfl (rfl) (by omega) (by decide) ?_
        refine wp_goto (tgt := 177) d_Rf_loads_172 (by decide) ?_
        refine wp_istore (q := 179) (L2 := [(5, _), (4, _), (3, _), (2, _), (0, _), (1, _)]) d_Rf_loads_177 rfl (by decide) rfl ?_
        refine wp_iload_n (q := 180) d_Rf_loads_179 rfl rfl ?_
        refine wp_iconst (q := 181) d_Rf_loads_180 rfl ic_2 ?_
        refine wp_icmp_eq_f (q := 184) (tgt := 189) d_Rf_loads_181 (by decide) rfl (fun z => h2 ((nI_eq (by omega) (by decide)).mp z)) ?_
        refine wp_iload_n (q := 185) d_Rf_loads_184 rfl rfl ?_
        refine wp_iconst (q := 186) d_Rf_loads_185 rfl ic_5 ?_
        refine wp_icmp_ne_f (q := 189) (tgt := 193) d_Rf_loads_186 (by decide) rfl (by rw [h5]) ?_
        refine wp_iconst (q := 190) d_Rf_loads_189 rfl ic_0 ?_
        refine wp_goto (tgt := 195) d_Rf_loads_190 (by decide) ?_
        refine wp_istore (q := 197) (L2 := [(5, _), (4, _), (3, _), (2, _), (0, _), (1, _)]) d_Rf_loads_195 rfl (by decide) rfl ?_
        refine wp_aload_n (q := 198) d_Rf_loads_197 rfl rfl ?_
        refine wp_get (q := 201) fl_Rf_7 d_Rf_loads_198 rfl rfl rfl ?_
        refine wp_iconst (q := 202) d_Rf_loads_201 rfl ic_0 ?_
        refine wp_iload (q := 204) d_Rf_loads_202 rfl rfl ?_
        first | refine wp_iaddN (q := 205) d_Rf_loads_204 rfl ?_ | refine wp_iadd (q := 205) d_Rf_loads_204 rfl ?_
        rw [Nat.zero_add]
        refine wp_dup2 (q := 206) d_Rf_loads_205 rfl rfl rfl ?_
        refine wp_iald (q := 207) d_Rf_loads_206 rfl (rfl) (by omega) (by decide) ?_
        refine wp_iload (q := 209) d_Rf_loads_207 rfl rfl ?_
        refine wp_isub (q := 210) d_Rf_loads_209 rfl ?_
        refine wp_iast (q := 211) d_Rf_loads_210 rfl (rfl) (by omega) (by decide) (fr_P) ?_
        refine wp_aload_n (q := 212) d_Rf_loads_211 rfl rfl ?_
        refine wp_get (q := 215) fl_Rf_7 d_Rf_loads_212 rfl rfl rfl ?_
        refine wp_bipush (q := 217) d_Rf_loads_215 rfl bp_120 ?_
        refine wp_iload_n (q := 218) d_Rf_loads_217 rfl rfl ?_
        first | refine wp_iaddN (q := 219) d_Rf_loads_218 rfl ?_ | refine wp_iadd (q := 219) d_Rf_loads_218 rfl ?_
        refine wp_dup2 (q := 220) d_Rf_loads_219 rfl rfl rfl ?_
        refine wp_iald (q := 221) d_Rf_loads_220 rfl (rfl) (by omega) (by decide) ?_
        refine wp_iload (q := 223) d_Rf_loads_221 rfl rfl ?_
        refine wp_iadd (q := 224) d_Rf_loads_223 rfl ?_
        refine wp_iast (q := 225) d_Rf_loads_224 rfl (rfl) (by omega) (by decide) (fr_P) ?_
        refine wpR (rl_end (P := letP P s a b (inN c P s a b kd)) hnb h12 (by unfold letP; simp (disch := omega) only [upd_ne]; exact em) hm hb hs (by unfold letP; simp (disch := omega) only [upd_ne]; exact es) (by unfold letP; simp (disch := omega) only [upd_ne]; exact ek) hk (by unfold letP; simp (disch := omega) only [upd_ne]; exact ea) ha hCI hK) ?_
        try simp (disch := omega) only [upd_ne, upd_eq]
        first | (rw [letP, inN, if_pos (Or.inr h5)]; done)
    · refine wp_iconst (q := 142) d_Rf_loads_141 rfl ic_5 ?_
      refine wp_goto (tgt := 147) d_Rf_loads_142 (by decide) ?_
      refine wp_istore (q := 149) (L2 := [(5, _), (4, _), (3, _), (2, _), (0, _), (1, _)]) d_Rf_loads_147 rfl (by decide) rfl ?_
      refine wp_iload (q := 151) d_Rf_loads_149 rfl rfl ?_
      refine wp_aload_n (q := 152) d_Rf_loads_151 rfl rfl ?_
      refine wp_get (q := 155) fl_Rf_7 d_Rf_loads_152 rfl rfl rfl ?_
      refine wp_iconst (q := 156) d_Rf_loads_155 rfl ic_0 ?_
      refine wp_iload (q := 158) d_Rf_loads_156 rfl rfl ?_
      first | refine wp_iaddN (q := 159) d_Rf_loads_158 rfl ?_ | refine wp_iadd (q := 159) d_Rf_loads_158 rfl ?_
      rw [Nat.zero_add]
      refine wp_iald (q := 160) d_Rf_loads_159 rfl (rfl) (by omega) (by decide) ?_
      refine wp_icmp_le (q := 163) (tgt := 175) d_Rf_loads_160 (by decide) rfl (fun hc_160 => ?_) (fun hc_160 => ?_)
      · refine wp_iload (q := 177) d_Rf_loads_175 rfl rfl ?_
        refine wp_istore (q := 179) (L2 := [(5, _), (4, _), (3, _), (2, _), (0, _), (1, _)]) d_Rf_loads_177 rfl (by decide) rfl ?_
        refine wp_iload_n (q := 180) d_Rf_loads_179 rfl rfl ?_
        refine wp_iconst (q := 181) d_Rf_loads_180 rfl ic_2 ?_
        refine wp_icmp_eq_f (q := 184) (tgt := 189) d_Rf_loads_181 (by decide) rfl (fun z => h2 ((nI_eq (by omega) (by decide)).mp z)) ?_
        refine wp_iload_n (q := 185) d_Rf_loads_184 rfl rfl ?_
        refine wp_iconst (q := 186) d_Rf_loads_185 rfl ic_5 ?_
        refine wp_icmp_ne_f (q := 189) (tgt := 193) d_Rf_loads_186 (by decide) rfl (by rw [h5]) ?_
        refine wp_iconst (q := 190) d_Rf_loads_189 rfl ic_0 ?_
        refine wp_goto (tgt := 195) d_Rf_loads_190 (by decide) ?_
        refine wp_istore (q := 197) (L2 := [(5, _), (4, _), (3, _), (2, _), (0, _), (1, _)]) d_Rf_loads_195 rfl (by decide) rfl ?_
        refine wp_aload_n (q := 198) d_Rf_loads_197 rfl rfl ?_
        refine wp_get (q := 201) fl_Rf_7 d_Rf_loads_198 rfl rfl rfl ?_
        refine wp_iconst (q := 202) d_Rf_loads_201 rfl ic_0 ?_
        refine wp_iload (q := 204) d_Rf_loads_202 rfl rfl ?_
        first | refine wp_iaddN (q := 205) d_Rf_loads_204 rfl ?_ | refine wp_iadd (q := 205) d_Rf_loads_204 rfl ?_
        rw [Nat.zero_add]
        refine wp_dup2 (q := 206) d_Rf_loads_205 rfl rfl rfl ?_
        refine wp_iald (q := 207) d_Rf_loads_206 rfl (rfl) (by omega) (by decide) ?_
        refine wp_iload (q := 209) d_Rf_loads_207 rfl rfl ?_
        refine wp_isub (q := 210) d_Rf_loads_209 rfl ?_
        refine wp_iast (q := 211) d_Rf_loads_210 rfl (rfl) (by omega) (by decide) (fr_P) ?_
        refine wp_aload_n (q := 212) d_Rf_loads_211 rfl rfl ?_
        refine wp_get (q := 215) fl_Rf_7 d_Rf_loads_212 rfl rfl rfl ?_
        refine wp_bipush (q := 217) d_Rf_loads_215 rfl bp_120 ?_
        refine wp_iload_n (q := 218) d_Rf_loads_217 rfl rfl ?_
        first | refine wp_iaddN (q := 219) d_Rf_loads_218 rfl ?_ | refine wp_iadd (q := 219) d_Rf_loads_218 rfl ?_
        refine wp_dup2 (q := 220) d_Rf_loads_219 rfl rfl rfl ?_
        refine wp_iald (q := 221) d_Rf_loads_220 rfl (rfl) (by omega) (by decide) ?_
        refine wp_iload (q := 223) d_Rf_loads_221 rfl rfl ?_
        refine wp_iadd (q := 224) d_Rf_loads_223 rfl ?_
        refine wp_iast (q := 225) d_Rf_loads_224 rfl (rfl) (by omega) (by decide) (fr_P) ?_
        refine wpR (rl_end (P := letP P s a b (inN c P s a b kd)) hnb h12 (by unfold letP; simp (disch := omega) only [upd_ne]; exact em) hm hb hs (by unfold letP; simp (disch := omega) only [upd_ne]; exact es) (by unfold letP; simp (disch := omega) only [upd_ne]; exact ek) hk (by unfold letP; simp (disch := omega) only [upd_ne]; exact ea) ha hCI hK) ?_
        try simp (disch := omega) only [upd_ne, upd_eq]
        first | (rw [letP, inN, if_pos (Or.inr h5)]; done)
      · refine wp_aload_n (q := 164) d_Rf_loads_163 rfl rfl ?_
        refine wp_get (q := 167) fl_Rf_7 d_Rf_loads_164 rfl rfl rfl ?_
        refine wp_iconst (q := 168) d_Rf_loads_167 rfl ic_0 ?_
        refine wp_iload (q := 170) d_Rf_loads_168 rfl rfl ?_
        first | refine wp_iaddN (q := 171) d_Rf_loads_170 rfl ?_ | refine wp_iadd (q := 171) d_Rf_loads_170 rfl ?_
        rw [Nat.zero_add]
        refine wp_iald (q := 172) d_Rf_loads_171 rfl (rfl) (by omega) (by decide) ?_
        refine wp_goto (tgt := 177) d_Rf_loads_172 (by decide) ?_
        refine wp_istore (q := 179) (L2 := [(5, _), (4, _), (3, _), (2, _), (0, _), (1, _)]) d_Rf_loads_177 rfl (by decide) rfl ?_
        refine wp_iload_n (q := 180) d_Rf_loads_179 rfl rfl ?_
        refine wp_iconst (q := 181) d_Rf_loads_180 rfl ic_2 ?_
        refine wp_icmp_eq_f (q := 184) (tgt := 189) d_Rf_loads_181 (by decide) rfl (fun z => h2 ((nI_eq (by omega) (by decide)).mp z)) ?_
        refine wp_iload_n (q := 185) d_Rf_loads_184 rfl rfl ?_
        refine wp_iconst (q := 186) d_Rf_loads_185 rfl ic_5 ?_
        refine wp_icmp_ne_f (q := 189) (tgt := 193) d_Rf_loads_186 (by decide) rfl (by rw [h5]) ?_
        refine wp_iconst (q := 190) d_Rf_loads_189 rfl ic_0 ?_
        refine wp_goto (tgt := 195) d_Rf_loads_190 (by decide) ?_
        refine wp_istore (q := 197) (L2 := [(5, _), (4, _), (3, _), (2, _), (0, _), (1, _)]) d_Rf_loads_195 rfl (by decide) rfl ?_
        refine wp_aload_n (q := 198) d_Rf_loads_197 rfl rfl ?_
        refine wp_get (q := 201) fl_Rf_7 d_Rf_loads_198 rfl rfl rfl ?_
        refine wp_iconst (q := 202) d_Rf_loads_201 rfl ic_0 ?_
        refine wp_iload (q := 204) d_Rf_loads_202 rfl rfl ?_
        first | refine wp_iaddN (q := 205) d_Rf_loads_204 rfl ?_ | refine wp_iadd (q := 205) d_Rf_loads_204 rfl ?_
        rw [Nat.zero_add]
        refine wp_dup2 (q := 206) d_Rf_loads_205 rfl rfl rfl ?_
        refine wp_iald (q := 207) d_Rf_loads_206 rfl (rfl) (by omega) (by decide) ?_
        refine wp_iload (q := 209) d_Rf_loads_207 rfl rfl ?_
        refine wp_isub (q := 210) d_Rf_loads_209 rfl ?_
        refine wp_iast (q := 211) d_Rf_loads_210 rfl (rfl) (by omega) (by decide) (fr_P) ?_
        refine wp_aload_n (q := 212) d_Rf_loads_211 rfl rfl ?_
        refine wp_get (q := 215) fl_Rf_7 d_Rf_loads_212 rfl rfl rfl ?_
        refine wp_bipush (q := 217) d_Rf_loads_215 rfl bp_120 ?_
        refine wp_iload_n (q := 218) d_Rf_loads_217 rfl rfl ?_
        first | refine wp_iaddN (q := 219) d_Rf_loads_218 rfl ?_ | refine wp_iadd (q := 219) d_Rf_loads_218 rfl ?_
        refine wp_dup2 (q := 220) d_Rf_loads_219 rfl rfl rfl ?_
        refine wp_iald (q := 221) d_Rf_loads_220 rfl (rfl) (by omega) (by decide) ?_
        refine wp_iload (q := 223) d_Rf_loads_221 rfl rfl ?_
        refine wp_iadd (q := 224) d_Rf_loads_223 rfl ?_
        refine wp_iast (q := 225) d_Rf_loads_224 rfl (rfl) (by omega) (by decide) (fr_P) ?_
        refine wpR (rl_end (P := letP P s a b (inN c P s a b kd)) hnb h12 (by unfold letP; simp (disch := omega) only [upd_ne]; exact em) hm hb hs (by unfold letP; simp (disch := omega) only [upd_ne]; exact es) (by unfold letP; simp (disch := omega) only [upd_ne]; exact ek) hk (by unfold letP; simp (disch := omega) only [upd_ne]; exact ea) ha hCI hK) ?_
        try simp (disch := omega) only [upd_ne, upd_eq]
        first | (rw [letP, inN, if_pos (Or.inr h5)]; done)
  · skip
    refine wp_aload_n (q := 91) d_Rf_loads_90 rfl rfl ?_
    refine wp_get (q := 94) fl_Rf_7 d_Rf_loads_91 rfl rfl rfl ?_
    refine wp_sipush (q := 97) d_Rf_loads_94 rfl sp_156 ?_
    refine wp_iload_n (q := 98) d_Rf_loads_97 rfl rfl ?_
    first | refine wp_iaddN (q := 99) d_Rf_loads_98 rfl ?_ | refine wp_iadd (q := 99) d_Rf_loads_98 rfl ?_
    refine wp_iald (q := 100) d_Rf_loads_99 rfl (rfl) (by omega) (by decide) ?_
    rw [ek]
    refine wp_istore_n (q := 101) (L2 := [(3, _), (2, _), (0, _), (1, _)]) d_Rf_loads_100 rfl (by decide) rfl ?_
    refine wp_bipush (q := 103) d_Rf_loads_101 rfl bp_6 ?_
    refine wp_iload_n (q := 104) d_Rf_loads_103 rfl rfl ?_
    first | refine wp_imulN (q := 105) d_Rf_loads_104 rfl ?_ | refine wp_imul (q := 105) d_Rf_loads_104 rfl ?_
    refine wp_aload_n (q := 106) d_Rf_loads_105 rfl rfl ?_
    refine wp_get (q := 109) fl_Rf_7 d_Rf_loads_106 rfl rfl rfl ?_
    refine wp_bipush (q := 111) d_Rf_loads_109 rfl bp_108 ?_
    refine wp_iload_n (q := 112) d_Rf_loads_111 rfl rfl ?_
    first | refine wp_iaddN (q := 113) d_Rf_loads_112 rfl ?_ | refine wp_iadd (q := 113) d_Rf_loads_112 rfl ?_
    refine wp_iald (q := 114) d_Rf_loads_113 rfl (rfl) (by omega) (by decide) ?_
    rw [ea]
    first | refine wp_iaddN (q := 115) d_Rf_loads_114 rfl ?_ | refine wp_iadd (q := 115) d_Rf_loads_114 rfl ?_
    refine wp_istore (q := 117) (L2 := [(4, _), (3, _), (2, _), (0, _), (1, _)]) d_Rf_loads_115 rfl (by decide) rfl ?_
    refine wp_aload_n (q := 118) d_Rf_loads_117 rfl rfl ?_
    refine wp_get (q := 121) fl_Rf_28 d_Rf_loads_118 rfl rfl rfl ?_
    refine wp_iload_n (q := 122) d_Rf_loads_121 rfl rfl ?_
    refine wp_iald (q := 123) d_Rf_loads_122 rfl (rfl) (by omega) (by decide) ?_
    refine wp_aload_n (q := 124) d_Rf_loads_123 rfl rfl ?_
    refine wp_get (q := 127) fl_Rf_7 d_Rf_loads_124 rfl rfl rfl ?_
    refine wp_bipush (q := 129) d_Rf_loads_127 rfl bp_120 ?_
    refine wp_iload_n (q := 130) d_Rf_loads_129 rfl rfl ?_
    first | refine wp_iaddN (q := 131) d_Rf_loads_130 rfl ?_ | refine wp_iadd (q := 131) d_Rf_loads_130 rfl ?_
    refine wp_iald (q := 132) d_Rf_loads_131 rfl (rfl) (by omega) (by decide) ?_
    refine wp_isub (q := 133) d_Rf_loads_132 rfl ?_
    refine wp_istore (q := 135) (L2 := [(5, _), (4, _), (3, _), (2, _), (0, _), (1, _)]) d_Rf_loads_133 rfl (by decide) rfl ?_
    refine wp_iload (q := 137) d_Rf_loads_135 rfl rfl ?_
    refine wp_iconst (q := 138) d_Rf_loads_137 rfl ic_5 ?_
    refine wp_icmp_le (q := 141) (tgt := 145) d_Rf_loads_138 (by decide) rfl (fun hc_138 => ?_) (fun hc_138 => ?_)
    · refine wp_iload (q := 147) d_Rf_loads_145 rfl rfl ?_
      refine wp_istore (q := 149) (L2 := [(5, _), (4, _), (3, _), (2, _), (0, _), (1, _)]) d_Rf_loads_147 rfl (by decide) rfl ?_
      refine wp_iload (q := 151) d_Rf_loads_149 rfl rfl ?_
      refine wp_aload_n (q := 152) d_Rf_loads_151 rfl rfl ?_
      refine wp_get (q := 155) fl_Rf_7 d_Rf_loads_152 rfl rfl rfl ?_
      refine wp_iconst (q := 156) d_Rf_loads_155 rfl ic_0 ?_
      refine wp_iload (q := 158) d_Rf_loads_156 rfl rfl ?_
      first | refine wp_iaddN (q := 159) d_Rf_loads_158 rfl ?_ | refine wp_iadd (q := 159) d_Rf_loads_158 rfl ?_
      rw [Nat.zero_add]
      refine wp_iald (q := 160) d_Rf_loads_159 rfl (rfl) (by omega) (by decide) ?_
      refine wp_icmp_le (q := 163) (tgt := 175) d_Rf_loads_160 (by decide) rfl (fun hc_160 => ?_) (fun hc_160 => ?_)
      · refine wp_iload (q := 177) d_Rf_loads_175 rfl rfl ?_
        refine wp_istore (q := 179) (L2 := [(5, _), (4, _), (3, _), (2, _), (0, _), (1, _)]) d_Rf_loads_177 rfl (by decide) rfl ?_
        refine wp_iload_n (q := 180) d_Rf_loads_179 rfl rfl ?_
        refine wp_iconst (q := 181) d_Rf_loads_180 rfl ic_2 ?_
        refine wp_icmp_eq_f (q := 184) (tgt := 189) d_Rf_loads_181 (by decide) rfl (fun z => h2 ((nI_eq (by omega) (by decide)).mp z)) ?_
        refine wp_iload_n (q := 185) d_Rf_loads_184 rfl rfl ?_
        refine wp_iconst (q := 186) d_Rf_loads_185 rfl ic_5 ?_
        refine wp_icmp_ne_t (tgt := 193) d_Rf_loads_186 (by decide) (fun z => h5 ((nI_eq (by omega) (by decide)).mp z)) ?_
        refine wp_iload (q := 195) d_Rf_loads_193 rfl rfl ?_
        refine wp_istore (q := 197) (L2 := [(5, _), (4, _), (3, _), (2, _), (0, _), (1, _)]) d_Rf_loads_195 rfl (by decide) rfl ?_
        refine wp_aload_n (q := 198) d_Rf_loads_197 rfl rfl ?_
        refine wp_get (q := 201) fl_Rf_7 d_Rf_loads_198 rfl rfl rfl ?_
        refine wp_iconst (q := 202) d_Rf_loads_201 rfl ic_0 ?_
        refine wp_iload (q := 204) d_Rf_loads_202 rfl rfl ?_
        first | refine wp_iaddN (q := 205) d_Rf_loads_204 rfl ?_ | refine wp_iadd (q := 205) d_Rf_loads_204 rfl ?_
        rw [Nat.zero_add]
        refine wp_dup2 (q := 206) d_Rf_loads_205 rfl rfl rfl ?_
        refine wp_iald (q := 207) d_Rf_loads_206 rfl (rfl) (by omega) (by decide) ?_
        refine wp_iload (q := 209) d_Rf_loads_207 rfl rfl ?_
        refine wp_isub (q := 210) d_Rf_loads_209 rfl ?_
        refine wp_iast (q := 211) d_Rf_loads_210 rfl (rfl) (by omega) (by decide) (fr_P) ?_
        refine wp_aload_n (q := 212) d_Rf_loads_211 rfl rfl ?_
        refine wp_get (q := 215) fl_Rf_7 d_Rf_loads_212 rfl rfl rfl ?_
        refine wp_bipush (q := 217) d_Rf_loads_215 rfl bp_120 ?_
        refine wp_iload_n (q := 218) d_Rf_loads_217 rfl rfl ?_
        first | refine wp_iaddN (q := 219) d_Rf_loads_218 rfl ?_ | refine wp_iadd (q := 219) d_Rf_loads_218 rfl ?_
        refine wp_dup2 (q := 220) d_Rf_loads_219 rfl rfl rfl ?_
        refine wp_iald (q := 221) d_Rf_loads_220 rfl (rfl) (by omega) (by decide) ?_
        refine wp_iload (q := 223) d_Rf_loads_221 rfl rfl ?_
        refine wp_iadd (q := 224) d_Rf_loads_223 rfl ?_
        refine wp_iast (q := 225) d_Rf_loads_224 rfl (rfl) (by omega) (by decide) (fr_P) ?_
        refine wpR (rl_end (P := letP P s a b (inN c P s a b kd)) hnb h12 (by unfold letP; simp (disch := omega) only [upd_ne]; exact em) hm hb hs (by unfold letP; simp (disch := omega) only [upd_ne]; exact es) (by unfold letP; simp (disch := omega) only [upd_ne]; exact ek) hk (by unfold letP; simp (disch := omega) only [upd_ne]; exact ea) ha hCI hK) ?_
        try simp (disch := omega) only [upd_ne, upd_eq]
        first | (rw [letP, inN, if_neg (fun z => z.elim h2 h5), min5]; simp only [if_neg (le_nlt hc_138)]; first | (rw [if_neg (le_nlt hc_160)]; done) | (simp only [if_neg (le_nlt hc_160)]; done)) | (rw [letP, inN, if_neg (fun z => z.elim h2 h5), min5]; simp only [if_neg (le_nlt hc_138)]; first | (rw [if_pos (nle_lt hc_160)]; done) | (simp only [if_pos (nle_lt hc_160)]; done)) | (rw [letP, inN, if_neg (fun z => z.elim h2 h5), min5]; simp only [if_pos (nle_lt hc_138)]; first | (rw [if_neg (le_nlt hc_160)]; done) | (simp only [if_neg (le_nlt hc_160)]; done)) | (rw [letP, inN, if_neg (fun z => z.elim h2 h5), min5]; simp only [if_pos (nle_lt hc_138)]; first | (rw [if_pos (nle_lt hc_160)]; done) | (simp only [if_pos (nle_lt hc_160)]; done))
      · refine wp_aload_n (q := 164) d_Rf_loads_163 rfl rfl ?_
        refine wp_get (q := 167) fl_Rf_7 d_Rf_loads_164 rfl rfl rfl ?_
        refine wp_iconst (q := 168) d_Rf_loads_167 rfl ic_0 ?_
        refine wp_iload (q := 170) d_Rf_loads_168 rfl rfl ?_
        first | refine wp_iaddN (q := 171) d_Rf_loads_170 rfl ?_ | refine wp_iadd (q := 171) d_Rf_loads_170 rfl ?_
        rw [Nat.zero_add]
        refine wp_iald (q := 172) d_Rf_loads_171 rfl (rfl) (by omega) (by decide) ?_
        refine wp_goto (tgt := 177) d_Rf_loads_172 (by decide) ?_
        refine wp_istore (q := 179) (L2 := [(5, _), (4, _), (3, _), (2, _), (0, _), (1, _)]) d_Rf_loads_177 rfl (by decide) rfl ?_
        refine wp_iload_n (q := 180) d_Rf_loads_179 rfl rfl ?_
        refine wp_iconst (q := 181) d_Rf_loads_180 rfl ic_2 ?_
        refine wp_icmp_eq_f (q := 184) (tgt := 189) d_Rf_loads_181 (by decide) rfl (fun z => h2 ((nI_eq (by omega) (by decide)).mp z)) ?_
        refine wp_iload_n (q := 185) d_Rf_loads_184 rfl rfl ?_
        refine wp_iconst (q := 186) d_Rf_loads_185 rfl ic_5 ?_
        refine wp_icmp_ne_t (tgt := 193) d_Rf_loads_186 (by decide) (fun z => h5 ((nI_eq (by omega) (by decide)).mp z)) ?_
        refine wp_iload (q := 195) d_Rf_loads_193 rfl rfl ?_
        refine wp_istore (q := 197) (L2 := [(5, _), (4, _), (3, _), (2, _), (0, _), (1, _)]) d_Rf_loads_195 rfl (by decide) rfl ?_
        refine wp_aload_n (q := 198) d_Rf_loads_197 rfl rfl ?_
        refine wp_get (q := 201) fl_Rf_7 d_Rf_loads_198 rfl rfl rfl ?_
        refine wp_iconst (q := 202) d_Rf_loads_201 rfl ic_0 ?_
        refine wp_iload (q := 204) d_Rf_loads_202 rfl rfl ?_
        first | refine wp_iaddN (q := 205) d_Rf_loads_204 rfl ?_ | refine wp_iadd (q := 205) d_Rf_loads_204 rfl ?_
        rw [Nat.zero_add]
        refine wp_dup2 (q := 206) d_Rf_loads_205 rfl rfl rfl ?_
        refine wp_iald (q := 207) d_Rf_loads_206 rfl (rfl) (by omega) (by decide) ?_
        refine wp_iload (q := 209) d_Rf_loads_207 rfl rfl ?_
        refine wp_isub (q := 210) d_Rf_loads_209 rfl ?_
        refine wp_iast (q := 211) d_Rf_loads_210 rfl (rfl) (by omega) (by decide) (fr_P) ?_
        refine wp_aload_n (q := 212) d_Rf_loads_211 rfl rfl ?_
        refine wp_get (q := 215) fl_Rf_7 d_Rf_loads_212 rfl rfl rfl ?_
        refine wp_bipush (q := 217) d_Rf_loads_215 rfl bp_120 ?_
        refine wp_iload_n (q := 218) d_Rf_loads_217 rfl rfl ?_
        first | refine wp_iaddN (q := 219) d_Rf_loads_218 rfl ?_ | refine wp_iadd (q := 219) d_Rf_loads_218 rfl ?_
        refine wp_dup2 (q := 220) d_Rf_loads_219 rfl rfl rfl ?_
        refine wp_iald (q := 221) d_Rf_loads_220 rfl (rfl) (by omega) (by decide) ?_
        refine wp_iload (q := 223) d_Rf_loads_221 rfl rfl ?_
        refine wp_iadd (q := 224) d_Rf_loads_223 rfl ?_
        refine wp_iast (q := 225) d_Rf_loads_224 rfl (rfl) (by omega) (by decide) (fr_P) ?_
        refine wpR (rl_end (P := letP P s a b (inN c P s a b kd)) hnb h12 (by unfold letP; simp (disch := omega) only [upd_ne]; exact em) hm hb hs (by unfold letP; simp (disch := omega) only [upd_ne]; exact es) (by unfold letP; simp (disch := omega) only [upd_ne]; exact ek) hk (by unfold letP; simp (disch := omega) only [upd_ne]; exact ea) ha hCI hK) ?_
        try simp (disch := omega) only [upd_ne, upd_eq]
        first | (rw [letP, inN, if_neg (fun z => z.elim h2 h5), min5]; simp only [if_neg (le_nlt hc_138)]; first | (rw [if_neg (le_nlt hc_160)]; done) | (simp only [if_neg (le_nlt hc_160)]; done)) | (rw [letP, inN, if_neg (fun z => z.elim h2 h5), min5]; simp only [if_neg (le_nlt hc_138)]; first | (rw [if_pos (nle_lt hc_160)]; done) | (simp only [if_pos (nle_lt hc_160)]; done)) | (rw [letP, inN, if_neg (fun z => z.elim h2 h5), min5]; simp only [if_pos (nle_lt hc_138)]; first | (rw [if_neg (le_nlt hc_160)]; done) | (simp only [if_neg (le_nlt hc_160)]; done)) | (rw [letP, inN, if_neg (fun z => z.elim h2 h5), min5]; simp only [if_pos (nle_lt hc_138)]; first | (rw [if_pos (nle_lt hc_160)]; done) | (simp only [if_pos (nle_lt hc_160)]; done))
    · refine wp_iconst (q := 142) d_Rf_loads_141 rfl ic_5 ?_
      refine wp_goto (tgt := 147) d_Rf_loads_142 (by decide) ?_
      refine wp_istore (q := 149) (L2 := [(5, _), (4, _), (3, _), (2, _), (0, _), (1, _)]) d_Rf_loads_147 rfl (by decide) rfl ?_
      refine wp_iload (q := 151) d_Rf_loads_149 rfl rfl ?_
      refine wp_aload_n (q := 152) d_Rf_loads_151 rfl rfl ?_
      refine wp_get (q := 155) fl_Rf_7 d_Rf_loads_152 rfl rfl rfl ?_
      refine wp_iconst (q := 156) d_Rf_loads_155 rfl ic_0 ?_
      refine wp_iload (q := 158) d_Rf_loads_156 rfl rfl ?_
      first | refine wp_iaddN (q := 159) d_Rf_loads_158 rfl ?_ | refine wp_iadd (q := 159) d_Rf_loads_158 rfl ?_
      rw [Nat.zero_add]
      refine wp_iald (q := 160) d_Rf_loads_159 rfl (rfl) (by omega) (by decide) ?_
      refine wp_icmp_le (q := 163) (tgt := 175) d_Rf_loads_160 (by decide) rfl (fun hc_160 => ?_) (fun hc_160 => ?_)
      · refine wp_iload (q := 177) d_Rf_loads_175 rfl rfl ?_
        refine wp_istore (q := 179) (L2 := [(5, _), (4, _), (3, _), (2, _), (0, _), (1, _)]) d_Rf_loads_177 rfl (by decide) rfl ?_
        refine wp_iload_n (q := 180) d_Rf_loads_179 rfl rfl ?_
        refine wp_iconst (q := 181) d_Rf_loads_180 rfl ic_2 ?_
        refine wp_icmp_eq_f (q := 184) (tgt := 189) d_Rf_loads_181 (by decide) rfl (fun z => h2 ((nI_eq (by omega) (by decide)).mp z)) ?_
        refine wp_iload_n (q := 185) d_Rf_loads_184 rfl rfl ?_
        refine wp_iconst (q := 186) d_Rf_loads_185 rfl ic_5 ?_
        refine wp_icmp_ne_t (tgt := 193) d_Rf_loads_186 (by decide) (fun z => h5 ((nI_eq (by omega) (by decide)).mp z)) ?_
        refine wp_iload (q := 195) d_Rf_loads_193 rfl rfl ?_
        refine wp_istore (q := 197) (L2 := [(5, _), (4, _), (3, _), (2, _), (0, _), (1, _)]) d_Rf_loads_195 rfl (by decide) rfl ?_
        refine wp_aload_n (q := 198) d_Rf_loads_197 rfl rfl ?_
        refine wp_get (q := 201) fl_Rf_7 d_Rf_loads_198 rfl rfl rfl ?_
        refine wp_iconst (q := 202) d_Rf_loads_201 rfl ic_0 ?_
        refine wp_iload (q := 204) d_Rf_loads_202 rfl rfl ?_
        first | refine wp_iaddN (q := 205) d_Rf_loads_204 rfl ?_ | refine wp_iadd (q := 205) d_Rf_loads_204 rfl ?_
        rw [Nat.zero_add]
        refine wp_dup2 (q := 206) d_Rf_loads_205 rfl rfl rfl ?_
        refine wp_iald (q := 207) d_Rf_loads_206 rfl (rfl) (by omega) (by decide) ?_
        refine wp_iload (q := 209) d_Rf_loads_207 rfl rfl ?_
        refine wp_isub (q := 210) d_Rf_loads_209 rfl ?_
        refine wp_iast (q := 211) d_Rf_loads_210 rfl (rfl) (by omega) (by decide) (fr_P) ?_
        refine wp_aload_n (q := 212) d_Rf_loads_211 rfl rfl ?_
        refine wp_get (q := 215) fl_Rf_7 d_Rf_loads_212 rfl rfl rfl ?_
        refine wp_bipush (q := 217) d_Rf_loads_215 rfl bp_120 ?_
        refine wp_iload_n (q := 218) d_Rf_loads_217 rfl rfl ?_
        first | refine wp_iaddN (q := 219) d_Rf_loads_218 rfl ?_ | refine wp_iadd (q := 219) d_Rf_loads_218 rfl ?_
        refine wp_dup2 (q := 220) d_Rf_loads_219 rfl rfl rfl ?_
        refine wp_iald (q := 221) d_Rf_loads_220 rfl (rfl) (by omega) (by decide) ?_
        refine wp_iload (q := 223) d_Rf_loads_221 rfl rfl ?_
        refine wp_iadd (q := 224) d_Rf_loads_223 rfl ?_
        refine wp_iast (q := 225) d_Rf_loads_224 rfl (rfl) (by omega) (by decide) (fr_P) ?_
        refine wpR (rl_end (P := letP P s a b (inN c P s a b kd)) hnb h12 (by unfold letP; simp (disch := omega) only [upd_ne]; exact em) hm hb hs (by unfold letP; simp (disch := omega) only [upd_ne]; exact es) (by unfold letP; simp (disch := omega) only [upd_ne]; exact ek) hk (by unfold letP; simp (disch := omega) only [upd_ne]; exact ea) ha hCI hK) ?_
        try simp (disch := omega) only [upd_ne, upd_eq]
        first | (rw [letP, inN, if_neg (fun z => z.elim h2 h5), min5]; simp only [if_neg (le_nlt hc_138)]; first | (rw [if_neg (le_nlt hc_160)]; done) | (simp only [if_neg (le_nlt hc_160)]; done)) | (rw [letP, inN, if_neg (fun z => z.elim h2 h5), min5]; simp only [if_neg (le_nlt hc_138)]; first | (rw [if_pos (nle_lt hc_160)]; done) | (simp only [if_pos (nle_lt hc_160)]; done)) | (rw [letP, inN, if_neg (fun z => z.elim h2 h5), min5]; simp only [if_pos (nle_lt hc_138)]; first | (rw [if_neg (le_nlt hc_160)]; done) | (simp only [if_neg (le_nlt hc_160)]; done)) | (rw [letP, inN, if_neg (fun z => z.elim h2 h5), min5]; simp only [if_pos (nle_lt hc_138)]; first | (rw [if_pos (nle_lt hc_160)]; done) | (simp only [if_pos (nle_lt hc_160)]; done))
      · refine wp_aload_n (q := 164) d_Rf_loads_163 rfl rfl ?_
        refine wp_get (q := 167) fl_Rf_7 d_Rf_loads_164 rfl rfl rfl ?_
        refine wp_iconst (q := 168) d_Rf_loads_167 rfl ic_0 ?_
        refine wp_iload (q := 170) d_Rf_loads_168 rfl rfl ?_
        first | refine wp_iaddN (q := 171) d_Rf_loads_170 rfl ?_ | refine wp_iadd (q := 171) d_Rf_loads_170 rfl ?_
        rw [Nat.zero_add]
        refine wp_iald (q := 172) d_Rf_loads_171 rfl (rfl) (by omega) (by decide) ?_
        refine wp_goto (tgt := 177) d_Rf_loads_172 (by decide) ?_
        refine wp_istore (q := 179) (L2 := [(5, _), (4, _), (3, _), (2, _), (0, _), (1, _)]) d_Rf_loads_177 rfl (by decide) rfl ?_
        refine wp_iload_n (q := 180) d_Rf_loads_179 rfl rfl ?_
        refine wp_iconst (q := 181) d_Rf_loads_180 rfl ic_2 ?_
        refine wp_icmp_eq_f (q := 184) (tgt := 189) d_Rf_loads_181 (by decide) rfl (fun z => h2 ((nI_eq (by omega) (by decide)).mp z)) ?_
        refine wp_iload_n (q := 185) d_Rf_loads_184 rfl rfl ?_
        refine wp_iconst (q := 186) d_Rf_loads_185 rfl ic_5 ?_
        refine wp_icmp_ne_t (tgt := 193) d_Rf_loads_186 (by decide) (fun z => h5 ((nI_eq (by omega) (by decide)).mp z)) ?_
        refine wp_iload (q := 195) d_Rf_loads_193 rfl rfl ?_
        refine wp_istore (q := 197) (L2 := [(5, _), (4, _), (3, _), (2, _), (0, _), (1, _)]) d_Rf_loads_195 rfl (by decide) rfl ?_
        refine wp_aload_n (q := 198) d_Rf_loads_197 rfl rfl ?_
        refine wp_get (q := 201) fl_Rf_7 d_Rf_loads_198 rfl rfl rfl ?_
        refine wp_iconst (q := 202) d_Rf_loads_201 rfl ic_0 ?_
        refine wp_iload (q := 204) d_Rf_loads_202 rfl rfl ?_
        first | refine wp_iaddN (q := 205) d_Rf_loads_204 rfl ?_ | refine wp_iadd (q := 205) d_Rf_loads_204 rfl ?_
        rw [Nat.zero_add]
        refine wp_dup2 (q := 206) d_Rf_loads_205 rfl rfl rfl ?_
        refine wp_iald (q := 207) d_Rf_loads_206 rfl (rfl) (by omega) (by decide) ?_
        refine wp_iload (q := 209) d_Rf_loads_207 rfl rfl ?_
        refine wp_isub (q := 210) d_Rf_loads_209 rfl ?_
        refine wp_iast (q := 211) d_Rf_loads_210 rfl (rfl) (by omega) (by decide) (fr_P) ?_
        refine wp_aload_n (q := 212) d_Rf_loads_211 rfl rfl ?_
        refine wp_get (q := 215) fl_Rf_7 d_Rf_loads_212 rfl rfl rfl ?_
        refine wp_bipush (q := 217) d_Rf_loads_215 rfl bp_120 ?_
        refine wp_iload_n (q := 218) d_Rf_loads_217 rfl rfl ?_
        first | refine wp_iaddN (q := 219) d_Rf_loads_218 rfl ?_ | refine wp_iadd (q := 219) d_Rf_loads_218 rfl ?_
        refine wp_dup2 (q := 220) d_Rf_loads_219 rfl rfl rfl ?_
        refine wp_iald (q := 221) d_Rf_loads_220 rfl (rfl) (by omega) (by decide) ?_
        refine wp_iload (q := 223) d_Rf_loads_221 rfl rfl ?_
        refine wp_iadd (q := 224) d_Rf_loads_223 rfl ?_
        refine wp_iast (q := 225) d_Rf_loads_224 rfl (rfl) (by omega) (by decide) (fr_P) ?_
        refine wpR (rl_end (P := letP P s a b (inN c P s a b kd)) hnb h12 (by unfold letP; simp (disch := omega) only [upd_ne]; exact em) hm hb hs (by unfold letP; simp (disch := omega) only [upd_ne]; exact es) (by unfold letP; simp (disch := omega) only [upd_ne]; exact ek) hk (by unfold letP; simp (disch := omega) only [upd_ne]; exact ea) ha hCI hK) ?_
        try simp (disch := omega) only [upd_ne, upd_eq]
        first | (rw [letP, inN, if_neg (fun z => z.elim h2 h5), min5]; simp only [if_neg (le_nlt hc_138)]; first | (rw [if_neg (le_nlt hc_160)]; done) | (simp only [if_neg (le_nlt hc_160)]; done)) | (rw [letP, inN, if_neg (fun z => z.elim h2 h5), min5]; simp only [if_neg (le_nlt hc_138)]; first | (rw [if_pos (nle_lt hc_160)]; done) | (simp only [if_pos (nle_lt hc_160)]; done)) | (rw [letP, inN, if_neg (fun z => z.elim h2 h5), min5]; simp only [if_pos (nle_lt hc_138)]; first | (rw [if_neg (le_nlt hc_160)]; done) | (simp only [if_neg (le_nlt hc_160)]; done)) | (rw [letP, inN, if_neg (fun z => z.elim h2 h5), min5]; simp only [if_pos (nle_lt hc_138)]; first | (rw [if_pos (nle_lt hc_160)]; done) | (simp only [if_pos (nle_lt hc_160)]; done))
set_option maxHeartbeats 4000000 in
set_option maxRecDepth 100000 in
theorem ok_Rf_loads {D : xD} {N : Nat} {l : Launch} {d : Nat} {c z : T2} {P Q : Nat → Int32} {rest : List va_E} {K : Option Value → List va_E → Prop} {nb : Nat} (hnb : c 32 1 = nI nb) (h12 : nb ≤ 12) {m : Nat} (em : P 234 = nI m) (hm : m < 14700) {s : Nat} (hs : s < 6) (hW : ∀ b, b < 12 → isN (P (156 + b)) 6 ∧ isN (P (108 + b)) 6) (h9 : ∀ b, b < 12 → isN (c 9 b) 6) (hCI : CI c) (hK : K none (encR D N c z (sv c P nb m s) Q ++ rest)) : Ok D N l (d + 5) M_Rf_loads [.ref (N + 0), .int (nI s)] (encR D N c z P Q ++ rest) 0 0 K := by
  refine ok_of (L := [(0, _), (1, _)]) (by decide) (Nat.le_of_ble_eq_true rfl) rfl ?_
  cases h1 : lf P s nb with
  | some b =>
    obtain ⟨q1, q2, q3⟩ := lf_lt h1
    rw [sv, h1] at hK
    dsimp only at hK
    refine wp_aload_n (q := 1) d_Rf_loads_0 rfl rfl ?_
    refine wp_iload_n (q := 2) d_Rf_loads_1 rfl rfl ?_
    refine wp_cv1 (q := 5) lk_Rf_233 (ro _ _ _) d_Rf_loads_2 rfl (Nat.le_of_ble_eq_true rfl) (rfl) rfl (Nat.zero_le _) (Nat.zero_le _) ?_
    refine ok_Rf_loadsAt hnb h12 hs ?_
    rw [h1]
    refine wp_istore_n (q := 6) (L2 := [(2, _), (0, _), (1, _)]) d_Rf_loads_5 rfl (by decide) rfl ?_
    refine wp_iload_n (q := 7) d_Rf_loads_6 rfl rfl ?_
    refine wp_iconst (q := 8) d_Rf_loads_7 rfl ic_m1 ?_
    refine wp_icmp_ne_t (tgt := 90) d_Rf_loads_8 (by decide) (nI_nm1 (by omega)) ?_
    exact rl_mid hnb h12 em hm (by omega) hs q3 (hW b (by omega)).1.1 (hW b (by omega)).1.2 (hW b (by omega)).2.1 (hW b (by omega)).2.2 hCI hK
  | none =>
    cases h2 : ff P s nb with
    | none =>
      rw [sv, h1, h2] at hK
      dsimp only at hK
      refine wp_aload_n (q := 1) d_Rf_loads_0 rfl rfl ?_
      refine wp_iload_n (q := 2) d_Rf_loads_1 rfl rfl ?_
      refine wp_cv1 (q := 5) lk_Rf_233 (ro _ _ _) d_Rf_loads_2 rfl (Nat.le_of_ble_eq_true rfl) (rfl) rfl (Nat.zero_le _) (Nat.zero_le _) ?_
      refine ok_Rf_loadsAt hnb h12 hs ?_
      rw [h1]
      refine wp_istore_n (q := 6) (L2 := [(2, _), (0, _), (1, _)]) d_Rf_loads_5 rfl (by decide) rfl ?_
      refine wp_iload_n (q := 7) d_Rf_loads_6 rfl rfl ?_
      refine wp_iconst (q := 8) d_Rf_loads_7 rfl ic_m1 ?_
      refine wp_icmp_ne_f (q := 11) (tgt := 90) d_Rf_loads_8 (by decide) rfl (rfl) ?_
      refine wp_aload_n (q := 12) d_Rf_loads_11 rfl rfl ?_
      refine wp_iload_n (q := 13) d_Rf_loads_12 rfl rfl ?_
      refine wp_cv1 (q := 16) lk_Rf_174 (ro _ _ _) d_Rf_loads_13 rfl (Nat.le_of_ble_eq_true rfl) (rfl) rfl (Nat.zero_le _) (Nat.zero_le _) ?_
      refine ok_Rf_firstAt hnb h12 hs ?_
      rw [h2]
      refine wp_istore_n (q := 17) (L2 := [(2, _), (0, _), (1, _)]) d_Rf_loads_16 rfl (by decide) rfl ?_
      refine wp_iload_n (q := 18) d_Rf_loads_17 rfl rfl ?_
      refine wp_iconst (q := 19) d_Rf_loads_18 rfl ic_m1 ?_
      refine wp_icmp_eq_t (tgt := 31) d_Rf_loads_19 (by decide) (rfl) ?_
      refine wp_vret d_Rf_loads_31 rfl (Nat.le_refl _) (Nat.le_refl _) ?_
      exact hK
    | some b =>
      obtain ⟨q1, q3⟩ := ff_lt h2
      cases h3 : am c P s 6 with
      | none =>
        rw [sv, h1, h2, h3] at hK
        dsimp only at hK
        refine wp_aload_n (q := 1) d_Rf_loads_0 rfl rfl ?_
        refine wp_iload_n (q := 2) d_Rf_loads_1 rfl rfl ?_
        refine wp_cv1 (q := 5) lk_Rf_233 (ro _ _ _) d_Rf_loads_2 rfl (Nat.le_of_ble_eq_true rfl) (rfl) rfl (Nat.zero_le _) (Nat.zero_le _) ?_
        refine ok_Rf_loadsAt hnb h12 hs ?_
        rw [h1]
        refine wp_istore_n (q := 6) (L2 := [(2, _), (0, _), (1, _)]) d_Rf_loads_5 rfl (by decide) rfl ?_
        refine wp_iload_n (q := 7) d_Rf_loads_6 rfl rfl ?_
        refine wp_iconst (q := 8) d_Rf_loads_7 rfl ic_m1 ?_
        refine wp_icmp_ne_f (q := 11) (tgt := 90) d_Rf_loads_8 (by decide) rfl (rfl) ?_
        refine wp_aload_n (q := 12) d_Rf_loads_11 rfl rfl ?_
        refine wp_iload_n (q := 13) d_Rf_loads_12 rfl rfl ?_
        refine wp_cv1 (q := 16) lk_Rf_174 (ro _ _ _) d_Rf_loads_13 rfl (Nat.le_of_ble_eq_true rfl) (rfl) rfl (Nat.zero_le _) (Nat.zero_le _) ?_
        refine ok_Rf_firstAt hnb h12 hs ?_
        rw [h2]
        refine wp_istore_n (q := 17) (L2 := [(2, _), (0, _), (1, _)]) d_Rf_loads_16 rfl (by decide) rfl ?_
        refine wp_iload_n (q := 18) d_Rf_loads_17 rfl rfl ?_
        refine wp_iconst (q := 19) d_Rf_loads_18 rfl ic_m1 ?_
        refine wp_icmp_eq_f (q := 22) (tgt := 31) d_Rf_loads_19 (by decide) rfl (nI_nm1 (by omega)) ?_
        refine wp_aload_n (q := 23) d_Rf_loads_22 rfl rfl ?_
        refine wp_iload_n (q := 24) d_Rf_loads_23 rfl rfl ?_
        refine wp_cv1 (q := 27) lk_Rf_236 (ro _ _ _) d_Rf_loads_24 rfl (Nat.le_of_ble_eq_true rfl) (rfl) rfl (Nat.zero_le _) (Nat.zero_le _) ?_
        refine ok_Rf_aimOf hs ?_
        rw [h3]
        refine wp_iconst (q := 28) d_Rf_loads_27 rfl ic_m1 ?_
        refine wp_icmp_ne_f (q := 31) (tgt := 32) d_Rf_loads_28 (by decide) rfl (rfl) ?_
        refine wp_vret d_Rf_loads_31 rfl (Nat.le_refl _) (Nat.le_refl _) ?_
        exact hK
      | some a =>
        have q4 := (am_lt h3).1
        rw [sv, h1, h2, h3] at hK
        dsimp only at hK
        refine wp_aload_n (q := 1) d_Rf_loads_0 rfl rfl ?_
        refine wp_iload_n (q := 2) d_Rf_loads_1 rfl rfl ?_
        refine wp_cv1 (q := 5) lk_Rf_233 (ro _ _ _) d_Rf_loads_2 rfl (Nat.le_of_ble_eq_true rfl) (rfl) rfl (Nat.zero_le _) (Nat.zero_le _) ?_
        refine ok_Rf_loadsAt hnb h12 hs ?_
        rw [h1]
        refine wp_istore_n (q := 6) (L2 := [(2, _), (0, _), (1, _)]) d_Rf_loads_5 rfl (by decide) rfl ?_
        refine wp_iload_n (q := 7) d_Rf_loads_6 rfl rfl ?_
        refine wp_iconst (q := 8) d_Rf_loads_7 rfl ic_m1 ?_
        refine wp_icmp_ne_f (q := 11) (tgt := 90) d_Rf_loads_8 (by decide) rfl (rfl) ?_
        refine wp_aload_n (q := 12) d_Rf_loads_11 rfl rfl ?_
        refine wp_iload_n (q := 13) d_Rf_loads_12 rfl rfl ?_
        refine wp_cv1 (q := 16) lk_Rf_174 (ro _ _ _) d_Rf_loads_13 rfl (Nat.le_of_ble_eq_true rfl) (rfl) rfl (Nat.zero_le _) (Nat.zero_le _) ?_
        refine ok_Rf_firstAt hnb h12 hs ?_
        rw [h2]
        refine wp_istore_n (q := 17) (L2 := [(2, _), (0, _), (1, _)]) d_Rf_loads_16 rfl (by decide) rfl ?_
        refine wp_iload_n (q := 18) d_Rf_loads_17 rfl rfl ?_
        refine wp_iconst (q := 19) d_Rf_loads_18 rfl ic_m1 ?_
        refine wp_icmp_eq_f (q := 22) (tgt := 31) d_Rf_loads_19 (by decide) rfl (nI_nm1 (by omega)) ?_
        refine wp_aload_n (q := 23) d_Rf_loads_22 rfl rfl ?_
        refine wp_iload_n (q := 24) d_Rf_loads_23 rfl rfl ?_
        refine wp_cv1 (q := 27) lk_Rf_236 (ro _ _ _) d_Rf_loads_24 rfl (Nat.le_of_ble_eq_true rfl) (rfl) rfl (Nat.zero_le _) (Nat.zero_le _) ?_
        refine ok_Rf_aimOf hs ?_
        rw [h3]
        refine wp_iconst (q := 28) d_Rf_loads_27 rfl ic_m1 ?_
        refine wp_icmp_ne_t (tgt := 32) d_Rf_loads_28 (by decide) (nI_nm1 (by omega)) ?_
        refine wp_aload_n (q := 33) d_Rf_loads_32 rfl rfl ?_
        refine wp_get (q := 36) fl_Rf_7 d_Rf_loads_33 rfl rfl rfl ?_
        refine wp_bipush (q := 38) d_Rf_loads_36 rfl bp_72 ?_
        refine wp_iload_n (q := 39) d_Rf_loads_38 rfl rfl ?_
        first | refine wp_iaddN (q := 40) d_Rf_loads_39 rfl ?_ | refine wp_iadd (q := 40) d_Rf_loads_39 rfl ?_
        refine wp_iconst (q := 41) d_Rf_loads_40 rfl ic_2 ?_
        refine wp_iast (q := 42) d_Rf_loads_41 rfl (rfl) (by omega) (by decide) (fr_P) ?_
        refine wp_aload_n (q := 43) d_Rf_loads_42 rfl rfl ?_
        refine wp_get (q := 46) fl_Rf_7 d_Rf_loads_43 rfl rfl rfl ?_
        refine wp_sipush (q := 49) d_Rf_loads_46 rfl sp_144 ?_
        refine wp_iload_n (q := 50) d_Rf_loads_49 rfl rfl ?_
        first | refine wp_iaddN (q := 51) d_Rf_loads_50 rfl ?_ | refine wp_iadd (q := 51) d_Rf_loads_50 rfl ?_
        refine wp_aload_n (q := 52) d_Rf_loads_51 rfl rfl ?_
        refine wp_get (q := 55) fl_Rf_7 d_Rf_loads_52 rfl rfl rfl ?_
        refine wp_sipush (q := 58) d_Rf_loads_55 rfl sp_234 ?_
        refine wp_iald (q := 59) d_Rf_loads_58 rfl (rfl) (by omega) (by decide) ?_
        simp (disch := omega) only [upd_ne, upd_eq]
        refine wp_iast (q := 60) d_Rf_loads_59 rfl (rfl) (by omega) (by decide) (fr_P) ?_
        refine wp_aload_n (q := 61) d_Rf_loads_60 rfl rfl ?_
        refine wp_get (q := 64) fl_Rf_7 d_Rf_loads_61 rfl rfl rfl ?_
        refine wp_bipush (q := 66) d_Rf_loads_64 rfl bp_108 ?_
        refine wp_iload_n (q := 67) d_Rf_loads_66 rfl rfl ?_
        first | refine wp_iaddN (q := 68) d_Rf_loads_67 rfl ?_ | refine wp_iadd (q := 68) d_Rf_loads_67 rfl ?_
        refine wp_aload_n (q := 69) d_Rf_loads_68 rfl rfl ?_
        refine wp_iload_n (q := 70) d_Rf_loads_69 rfl rfl ?_
        refine wp_cv1 (q := 73) lk_Rf_236 (ro _ _ _) d_Rf_loads_70 rfl (Nat.le_of_ble_eq_true rfl) (rfl) rfl (Nat.zero_le _) (Nat.zero_le _) ?_
        refine ok_Rf_aimOf hs ?_
        rw [am_congr hs (P2 := P) (fun i hi => by simp (disch := omega) only [upd_ne]) 6 (Nat.le_refl _), h3]
        refine wp_iast (q := 74) d_Rf_loads_73 rfl (rfl) (by omega) (by decide) (fr_P) ?_
        refine wp_aload_n (q := 75) d_Rf_loads_74 rfl rfl ?_
        refine wp_get (q := 78) fl_Rf_7 d_Rf_loads_75 rfl rfl rfl ?_
        refine wp_sipush (q := 81) d_Rf_loads_78 rfl sp_156 ?_
        refine wp_iload_n (q := 82) d_Rf_loads_81 rfl rfl ?_
        first | refine wp_iaddN (q := 83) d_Rf_loads_82 rfl ?_ | refine wp_iadd (q := 83) d_Rf_loads_82 rfl ?_
        refine wp_aload_n (q := 84) d_Rf_loads_83 rfl rfl ?_
        refine wp_get (q := 87) fl_Rf_40 d_Rf_loads_84 rfl rfl rfl ?_
        refine wp_iload_n (q := 88) d_Rf_loads_87 rfl rfl ?_
        refine wp_iald (q := 89) d_Rf_loads_88 rfl (rfl) (by omega) (by decide) ?_
        refine wp_iast (q := 90) d_Rf_loads_89 rfl (rfl) (by omega) (by decide) (fr_P) ?_
        refine wpR (rl_mid (P := upP c P b a) hnb h12 (by unfold upP; simp (disch := omega) only [upd_ne, upd_eq]; exact em) hm (by omega) hs (by unfold upP; simp (disch := omega) only [upd_ne, upd_eq]; exact q3.2) (by unfold upP; simp (disch := omega) only [upd_ne, upd_eq]; exact (h9 b (by omega)).1) (h9 b (by omega)).2 (by unfold upP; simp (disch := omega) only [upd_ne, upd_eq]) (by omega) hCI hK) ?_
        unfold upP
        (try simp (disch := omega) only [upd_ne, upd_eq]); rfl
