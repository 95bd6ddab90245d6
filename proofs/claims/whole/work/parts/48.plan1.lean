def plOK (c : T2) (m : Nat) (s t n : Int32) : Prop := inn s 3 ∧ inn t 5 ∧ btw (nI 1) n (nI 120) ∧ nI m + n ≤ nI 14400 ∧ tpl c (tn s)
theorem tpl.sz {c : T2} {s sz : Nat} (es : c 30 s = nI sz) (hsz : sz < 41) : tpl c s ↔ ¬ c 29 s = -1 ∧ sz % 2 = 0 ∧ sz ≤ 10 ∧ ∀ k, k < sz / 2 → inb c (c 31 (40 * s + 2 * k)) ∧ inn (c 31 (40 * s + (2 * k + 1))) 5 := by
  unfold tpl
  rw [es, tnt hsz]
theorem d_FG_tellsPlaces_0 : decode M_FG_tellsPlaces.2.1 0 = .ok (.aload_n 0, 1) := by decide +kernel
theorem d_FG_tellsPlaces_1 : decode M_FG_tellsPlaces.2.1 1 = .ok (.getfield 54, 3) := by decide +kernel
theorem d_FG_tellsPlaces_4 : decode M_FG_tellsPlaces.2.1 4 = .ok (.iload_n 1, 1) := by decide +kernel
theorem d_FG_tellsPlaces_5 : decode M_FG_tellsPlaces.2.1 5 = .ok (.iaload, 1) := by decide +kernel
theorem d_FG_tellsPlaces_6 : decode M_FG_tellsPlaces.2.1 6 = .ok (.iconst (-1), 1) := by decide +kernel
theorem d_FG_tellsPlaces_7 : decode M_FG_tellsPlaces.2.1 7 = .ok (.if_icmp .eq 25, 3) := by decide +kernel
theorem d_FG_tellsPlaces_10 : decode M_FG_tellsPlaces.2.1 10 = .ok (.aload_n 0, 1) := by decide +kernel
theorem d_FG_tellsPlaces_11 : decode M_FG_tellsPlaces.2.1 11 = .ok (.getfield 50, 3) := by decide +kernel
theorem d_FG_tellsPlaces_14 : decode M_FG_tellsPlaces.2.1 14 = .ok (.iload_n 1, 1) := by decide +kernel
theorem d_FG_tellsPlaces_15 : decode M_FG_tellsPlaces.2.1 15 = .ok (.iaload, 1) := by decide +kernel
theorem d_FG_tellsPlaces_16 : decode M_FG_tellsPlaces.2.1 16 = .ok (.iconst 2, 1) := by decide +kernel
theorem d_FG_tellsPlaces_17 : decode M_FG_tellsPlaces.2.1 17 = .ok (.irem, 1) := by decide +kernel
theorem d_FG_tellsPlaces_18 : decode M_FG_tellsPlaces.2.1 18 = .ok (.ifCond .ne 14, 3) := by decide +kernel
theorem d_FG_tellsPlaces_21 : decode M_FG_tellsPlaces.2.1 21 = .ok (.aload_n 0, 1) := by decide +kernel
theorem d_FG_tellsPlaces_22 : decode M_FG_tellsPlaces.2.1 22 = .ok (.getfield 50, 3) := by decide +kernel
theorem d_FG_tellsPlaces_25 : decode M_FG_tellsPlaces.2.1 25 = .ok (.iload_n 1, 1) := by decide +kernel
theorem d_FG_tellsPlaces_26 : decode M_FG_tellsPlaces.2.1 26 = .ok (.iaload, 1) := by decide +kernel
theorem d_FG_tellsPlaces_27 : decode M_FG_tellsPlaces.2.1 27 = .ok (.bipush 10, 2) := by decide +kernel
theorem d_FG_tellsPlaces_29 : decode M_FG_tellsPlaces.2.1 29 = .ok (.if_icmp .le 5, 3) := by decide +kernel
theorem d_FG_tellsPlaces_32 : decode M_FG_tellsPlaces.2.1 32 = .ok (.iconst 0, 1) := by decide +kernel
theorem d_FG_tellsPlaces_33 : decode M_FG_tellsPlaces.2.1 33 = .ok (.ireturn, 1) := by decide +kernel
theorem d_FG_tellsPlaces_34 : decode M_FG_tellsPlaces.2.1 34 = .ok (.iconst 0, 1) := by decide +kernel
theorem d_FG_tellsPlaces_35 : decode M_FG_tellsPlaces.2.1 35 = .ok (.istore_n 2, 1) := by decide +kernel
theorem d_FG_tellsPlaces_36 : decode M_FG_tellsPlaces.2.1 36 = .ok (.iload_n 2, 1) := by decide +kernel
theorem d_FG_tellsPlaces_37 : decode M_FG_tellsPlaces.2.1 37 = .ok (.iconst 1, 1) := by decide +kernel
theorem d_FG_tellsPlaces_38 : decode M_FG_tellsPlaces.2.1 38 = .ok (.iadd, 1) := by decide +kernel
theorem d_FG_tellsPlaces_39 : decode M_FG_tellsPlaces.2.1 39 = .ok (.aload_n 0, 1) := by decide +kernel
theorem d_FG_tellsPlaces_40 : decode M_FG_tellsPlaces.2.1 40 = .ok (.getfield 50, 3) := by decide +kernel
theorem d_FG_tellsPlaces_43 : decode M_FG_tellsPlaces.2.1 43 = .ok (.iload_n 1, 1) := by decide +kernel
theorem d_FG_tellsPlaces_44 : decode M_FG_tellsPlaces.2.1 44 = .ok (.iaload, 1) := by decide +kernel
theorem d_FG_tellsPlaces_45 : decode M_FG_tellsPlaces.2.1 45 = .ok (.if_icmp .ge 42, 3) := by decide +kernel
theorem d_FG_tellsPlaces_48 : decode M_FG_tellsPlaces.2.1 48 = .ok (.aload_n 0, 1) := by decide +kernel
theorem d_FG_tellsPlaces_49 : decode M_FG_tellsPlaces.2.1 49 = .ok (.aload_n 0, 1) := by decide +kernel
theorem d_FG_tellsPlaces_50 : decode M_FG_tellsPlaces.2.1 50 = .ok (.getfield 47, 3) := by decide +kernel
theorem d_FG_tellsPlaces_53 : decode M_FG_tellsPlaces.2.1 53 = .ok (.iload_n 1, 1) := by decide +kernel
theorem d_FG_tellsPlaces_54 : decode M_FG_tellsPlaces.2.1 54 = .ok (.aaload, 1) := by decide +kernel
theorem d_FG_tellsPlaces_55 : decode M_FG_tellsPlaces.2.1 55 = .ok (.iload_n 2, 1) := by decide +kernel
theorem d_FG_tellsPlaces_56 : decode M_FG_tellsPlaces.2.1 56 = .ok (.iaload, 1) := by decide +kernel
theorem d_FG_tellsPlaces_57 : decode M_FG_tellsPlaces.2.1 57 = .ok (.invokevirtual 82, 3) := by decide +kernel
theorem d_FG_tellsPlaces_60 : decode M_FG_tellsPlaces.2.1 60 = .ok (.ifCond .eq 19, 3) := by decide +kernel
theorem d_FG_tellsPlaces_63 : decode M_FG_tellsPlaces.2.1 63 = .ok (.aload_n 0, 1) := by decide +kernel
theorem d_FG_tellsPlaces_64 : decode M_FG_tellsPlaces.2.1 64 = .ok (.getfield 47, 3) := by decide +kernel
theorem d_FG_tellsPlaces_67 : decode M_FG_tellsPlaces.2.1 67 = .ok (.iload_n 1, 1) := by decide +kernel
theorem d_FG_tellsPlaces_68 : decode M_FG_tellsPlaces.2.1 68 = .ok (.aaload, 1) := by decide +kernel
theorem d_FG_tellsPlaces_69 : decode M_FG_tellsPlaces.2.1 69 = .ok (.iload_n 2, 1) := by decide +kernel
theorem d_FG_tellsPlaces_70 : decode M_FG_tellsPlaces.2.1 70 = .ok (.iconst 1, 1) := by decide +kernel
theorem d_FG_tellsPlaces_71 : decode M_FG_tellsPlaces.2.1 71 = .ok (.iadd, 1) := by decide +kernel
theorem d_FG_tellsPlaces_72 : decode M_FG_tellsPlaces.2.1 72 = .ok (.iaload, 1) := by decide +kernel
theorem d_FG_tellsPlaces_73 : decode M_FG_tellsPlaces.2.1 73 = .ok (.invokestatic 57, 3) := by decide +kernel
theorem d_FG_tellsPlaces_76 : decode M_FG_tellsPlaces.2.1 76 = .ok (.ifCond .ne 5, 3) := by decide +kernel
theorem d_FG_tellsPlaces_79 : decode M_FG_tellsPlaces.2.1 79 = .ok (.iconst 0, 1) := by decide +kernel
theorem d_FG_tellsPlaces_80 : decode M_FG_tellsPlaces.2.1 80 = .ok (.ireturn, 1) := by decide +kernel
theorem d_FG_tellsPlaces_81 : decode M_FG_tellsPlaces.2.1 81 = .ok (.iinc 2 2, 3) := by decide +kernel
theorem d_FG_tellsPlaces_84 : decode M_FG_tellsPlaces.2.1 84 = .ok (.goto (-48), 3) := by decide +kernel
theorem d_FG_tellsPlaces_87 : decode M_FG_tellsPlaces.2.1 87 = .ok (.iconst 1, 1) := by decide +kernel
theorem d_FG_tellsPlaces_88 : decode M_FG_tellsPlaces.2.1 88 = .ok (.ireturn, 1) := by decide +kernel
set_option maxHeartbeats 4000000 in
set_option maxRecDepth 100000 in
theorem ok_FG_tellsPlaces {D : xD} {N : Nat} {l : Launch} {d : Nat} {c x V : T2} {ln df : Nat → Option Nat} {rest : List va_E} {K : Option Value → List va_E → Prop} {nb : Nat} (hnb : c 32 1 = nI nb) (h12 : nb ≤ 12) {s sz : Nat} (hs : s < 4) (es : c 30 s = nI sz) (hsz : sz < 41) (h1 : tpl c s → K (some (.int (nI 1))) (encC D N c x V ln df ++ rest)) (h0 : ¬ tpl c s → K (some (.int (nI 0))) (encC D N c x V ln df ++ rest)) : Ok D N l (d + 2) M_FG_tellsPlaces [.ref (N + 0), .int (nI s)] (encC D N c x V ln df ++ rest) 0 0 K := by
  have lp : ¬ c 29 s = -1 → sz % 2 = 0 → sz ≤ 10 → ∀ k : Nat, k ≤ sz / 2 → (∀ j, j < k → inb c (c 31 (40 * s + 2 * j)) ∧ inn (c 31 (40 * s + (2 * j + 1))) 5) → Wp D N l (EI M_FG_tellsPlaces) M_FG_tellsPlaces (Rm (d + 2) 0 0) (Qm D N K 0 0) 0 0 36 [(2, .int (nI (2 * k))), (0, .ref (N + 0)), (1, .int (nI s))] [] (encC D N c x V ln df ++ rest) := by
    intro h29 h2 h10
    refine up_loop ?_ ?_
    · intro hg
      refine wp_iload_n (q := 37) d_FG_tellsPlaces_36 rfl rfl ?_
      refine wp_iconst (q := 38) d_FG_tellsPlaces_37 rfl ic_1 ?_
      first | refine wp_iaddN (q := 39) d_FG_tellsPlaces_38 rfl ?_ | refine wp_iadd (q := 39) d_FG_tellsPlaces_38 rfl ?_
      refine wp_aload_n (q := 40) d_FG_tellsPlaces_39 rfl rfl ?_
      refine wp_get (q := 43) fl_FG_50 d_FG_tellsPlaces_40 rfl rfl rfl ?_
      refine wp_iload_n (q := 44) d_FG_tellsPlaces_43 rfl rfl ?_
      refine wp_iald (q := 45) d_FG_tellsPlaces_44 rfl (rfl) (by omega) (by decide) ?_
      rw [es]
      refine wp_icmp_ge_t (tgt := 87) d_FG_tellsPlaces_45 (by decide) (nI_le (by omega) (by omega)) ?_
      refine wp_iconst (q := 88) d_FG_tellsPlaces_87 rfl ic_1 ?_
      refine wp_zret d_FG_tellsPlaces_88 rfl (rfl) (Nat.le_refl _) (Nat.le_refl _) ?_
      exact h1 ((tpl.sz es hsz).mpr ⟨h29, h2, h10, hg⟩)
    · intro k hk ih hg
      refine wp_iload_n (q := 37) d_FG_tellsPlaces_36 rfl rfl ?_
      refine wp_iconst (q := 38) d_FG_tellsPlaces_37 rfl ic_1 ?_
      first | refine wp_iaddN (q := 39) d_FG_tellsPlaces_38 rfl ?_ | refine wp_iadd (q := 39) d_FG_tellsPlaces_38 rfl ?_
      refine wp_aload_n (q := 40) d_FG_tellsPlaces_39 rfl rfl ?_
      refine wp_get (q := 43) fl_FG_50 d_FG_tellsPlaces_40 rfl rfl rfl ?_
      refine wp_iload_n (q := 44) d_FG_tellsPlaces_43 rfl rfl ?_
      refine wp_iald (q := 45) d_FG_tellsPlaces_44 rfl (rfl) (by omega) (by decide) ?_
      rw [es]
      refine wp_icmp_ge_f (q := 48) (tgt := 87) d_FG_tellsPlaces_45 (by decide) rfl (nI_ge (by omega) (by omega)) ?_
      refine wp_aload_n (q := 49) d_FG_tellsPlaces_48 rfl rfl ?_
      refine wp_aload_n (q := 50) d_FG_tellsPlaces_49 rfl rfl ?_
      refine wp_get (q := 53) fl_FG_47 d_FG_tellsPlaces_50 rfl rfl rfl ?_
      refine wp_iload_n (q := 54) d_FG_tellsPlaces_53 rfl rfl ?_
      refine wp_aldA (q := 55) d_FG_tellsPlaces_54 rfl (rfl) (by omega) (by decide) (rows_at (by omega)) ?_
      refine wp_iload_n (q := 56) d_FG_tellsPlaces_55 rfl rfl ?_
      refine wp_iald (q := 57) d_FG_tellsPlaces_56 rfl (rd_sheet (by omega)) (by omega) (by decide) ?_
      rw [sl_at (show 2 * k < 40 by omega)]
      refine wp_cv1 (q := 60) lk_FG_82 (ro _ _ _) d_FG_tellsPlaces_57 rfl (Nat.le_of_ble_eq_true rfl) (rfl) rfl (Nat.zero_le _) (Nat.zero_le _) ?_
      refine ok_FG_isBus hnb h12 (fun a ha e => ?_) (fun hbn => ?_)
      · have hgb : inb c (c 31 (40 * s + 2 * k)) := by rw [e]; exact inb_t hnb h12 ha
        refine wp_if_eq_f (q := 63) (tgt := 79) d_FG_tellsPlaces_60 (by decide) rfl (by decide) ?_
        refine wp_aload_n (q := 64) d_FG_tellsPlaces_63 rfl rfl ?_
        refine wp_get (q := 67) fl_FG_47 d_FG_tellsPlaces_64 rfl rfl rfl ?_
        refine wp_iload_n (q := 68) d_FG_tellsPlaces_67 rfl rfl ?_
        refine wp_aldA (q := 69) d_FG_tellsPlaces_68 rfl (rfl) (by omega) (by decide) (rows_at (by omega)) ?_
        refine wp_iload_n (q := 70) d_FG_tellsPlaces_69 rfl rfl ?_
        refine wp_iconst (q := 71) d_FG_tellsPlaces_70 rfl ic_1 ?_
        first | refine wp_iaddN (q := 72) d_FG_tellsPlaces_71 rfl ?_ | refine wp_iadd (q := 72) d_FG_tellsPlaces_71 rfl ?_
        refine wp_iald (q := 73) d_FG_tellsPlaces_72 rfl (rd_sheet (by omega)) (by omega) (by decide) ?_
        rw [sl_at (show 2 * k + 1 < 40 by omega)]
        refine wp_cs1 (q := 76) lk_FG_57 (ro _ _ _) d_FG_tellsPlaces_73 rfl (Nat.le_of_ble_eq_true rfl) (Nat.zero_le _) (Nat.zero_le _) ?_
        refine ok_FG_isStage (fun a2 ha2 e2 => ?_) (fun hsn => ?_)
        · have hgs : inn (c 31 (40 * s + (2 * k + 1))) 5 := by rw [e2]; exact inn_t ha2
          refine wp_if_ne_t (tgt := 81) d_FG_tellsPlaces_76 (by decide) (by decide) ?_
          refine wp_iinc (q := 84) (L2 := [(2, _), (0, _), (1, _)]) d_FG_tellsPlaces_81 rfl rfl (iinc_2) (by decide) rfl ?_
          refine wp_goto (tgt := 36) d_FG_tellsPlaces_84 (by decide) ?_
          rw [show 2 * k + 2 = 2 * (k + 1) by omega]
          exact ih (fun j hj => (Nat.lt_or_ge j k).elim (hg j) (fun q => by rw [show j = k by omega]; exact ⟨hgb, hgs⟩))
        · refine wp_if_ne_f (q := 79) (tgt := 81) d_FG_tellsPlaces_76 (by decide) rfl (by decide) ?_
          refine wp_iconst (q := 80) d_FG_tellsPlaces_79 rfl ic_0 ?_
          refine wp_zret d_FG_tellsPlaces_80 rfl (rfl) (Nat.le_refl _) (Nat.le_refl _) ?_
          exact h0 (fun g => hsn (((tpl.sz es hsz).mp g).2.2.2 k hk).2)
      · refine wp_if_eq_t (tgt := 79) d_FG_tellsPlaces_60 (by decide) (by decide) ?_
        refine wp_iconst (q := 80) d_FG_tellsPlaces_79 rfl ic_0 ?_
        refine wp_zret d_FG_tellsPlaces_80 rfl (rfl) (Nat.le_refl _) (Nat.le_refl _) ?_
        exact h0 (fun g => hbn (((tpl.sz es hsz).mp g).2.2.2 k hk).1)
  refine ok_of (L := [(0, _), (1, _)]) (by decide) (Nat.le_of_ble_eq_true rfl) rfl ?_
  refine wp_aload_n (q := 1) d_FG_tellsPlaces_0 rfl rfl ?_
  refine wp_get (q := 4) fl_FG_54 d_FG_tellsPlaces_1 rfl rfl rfl ?_
  refine wp_iload_n (q := 5) d_FG_tellsPlaces_4 rfl rfl ?_
  refine wp_iald (q := 6) d_FG_tellsPlaces_5 rfl (rfl) (by omega) (by decide) ?_
  refine wp_iconst (q := 7) d_FG_tellsPlaces_6 rfl ic_m1 ?_
  refine wp_icmp_eq (q := 10) (tgt := 32) d_FG_tellsPlaces_7 (by decide) rfl (fun hc_7 => ?_) (fun hc_7 => ?_)
  · refine wp_iconst (q := 33) d_FG_tellsPlaces_32 rfl ic_0 ?_
    refine wp_zret d_FG_tellsPlaces_33 rfl (rfl) (Nat.le_refl _) (Nat.le_refl _) ?_
    exact h0 (fun g => g.1 hc_7)
  · refine wp_aload_n (q := 11) d_FG_tellsPlaces_10 rfl rfl ?_
    refine wp_get (q := 14) fl_FG_50 d_FG_tellsPlaces_11 rfl rfl rfl ?_
    refine wp_iload_n (q := 15) d_FG_tellsPlaces_14 rfl rfl ?_
    refine wp_iald (q := 16) d_FG_tellsPlaces_15 rfl (rfl) (by omega) (by decide) ?_
    rw [es]
    refine wp_iconst (q := 17) d_FG_tellsPlaces_16 rfl ic_2 ?_
    refine wp_iremN (q := 18) d_FG_tellsPlaces_17 rfl (by omega) (by decide) (by decide) ?_
    refine wp_if_ne (q := 21) (tgt := 32) d_FG_tellsPlaces_18 (by decide) rfl (fun hc_18 => ?_) (fun hc_18 => ?_)
    · refine wp_iconst (q := 33) d_FG_tellsPlaces_32 rfl ic_0 ?_
      refine wp_zret d_FG_tellsPlaces_33 rfl (rfl) (Nat.le_refl _) (Nat.le_refl _) ?_
      exact h0 (fun g => hc_18 (by rw [((tpl.sz es hsz).mp g).2.1]; exact nI_0))
    · have h2 : sz % 2 = 0 := by
        have := congrArg tn hc_18
        rw [tnt (show sz % 2 < 41 by omega)] at this
        exact this
      refine wp_aload_n (q := 22) d_FG_tellsPlaces_21 rfl rfl ?_
      refine wp_get (q := 25) fl_FG_50 d_FG_tellsPlaces_22 rfl rfl rfl ?_
      refine wp_iload_n (q := 26) d_FG_tellsPlaces_25 rfl rfl ?_
      refine wp_iald (q := 27) d_FG_tellsPlaces_26 rfl (rfl) (by omega) (by decide) ?_
      rw [es]
      refine wp_bipush (q := 29) d_FG_tellsPlaces_27 rfl bp_10 ?_
      refine wp_icmp_le (q := 32) (tgt := 34) d_FG_tellsPlaces_29 (by decide) rfl (fun hc_29 => ?_) (fun hc_29 => ?_)
      · have h10 : sz ≤ 10 := (nI_leI (by omega) (by decide)).mp hc_29
        refine wp_iconst (q := 35) d_FG_tellsPlaces_34 rfl ic_0 ?_
        refine wp_istore_n (q := 36) (L2 := [(2, _), (0, _), (1, _)]) d_FG_tellsPlaces_35 rfl (by decide) rfl ?_
        exact lp hc_7 h2 h10 0 (Nat.zero_le _) (fun j hj => absurd hj (Nat.not_lt_zero _))
      · refine wp_iconst (q := 33) d_FG_tellsPlaces_32 rfl ic_0 ?_
        refine wp_zret d_FG_tellsPlaces_33 rfl (rfl) (Nat.le_refl _) (Nat.le_refl _) ?_
        exact h0 (fun g => hc_29 (nI_le ((tpl.sz es hsz).mp g).2.2.1 (by decide)))
theorem d_Rf_isPlan_0 : decode M_Rf_isPlan.2.1 0 = .ok (.iload_n 1, 1) := by decide +kernel
theorem d_Rf_isPlan_1 : decode M_Rf_isPlan.2.1 1 = .ok (.iconst 0, 1) := by decide +kernel
theorem d_Rf_isPlan_2 : decode M_Rf_isPlan.2.1 2 = .ok (.iconst 3, 1) := by decide +kernel
theorem d_Rf_isPlan_3 : decode M_Rf_isPlan.2.1 3 = .ok (.invokestatic 151, 3) := by decide +kernel
theorem d_Rf_isPlan_6 : decode M_Rf_isPlan.2.1 6 = .ok (.ifCond .eq 70, 3) := by decide +kernel
theorem d_Rf_isPlan_9 : decode M_Rf_isPlan.2.1 9 = .ok (.aload_n 0, 1) := by decide +kernel
theorem d_Rf_isPlan_10 : decode M_Rf_isPlan.2.1 10 = .ok (.getfield 101, 3) := by decide +kernel
theorem d_Rf_isPlan_13 : decode M_Rf_isPlan.2.1 13 = .ok (.iload_n 1, 1) := by decide +kernel
theorem d_Rf_isPlan_14 : decode M_Rf_isPlan.2.1 14 = .ok (.iaload, 1) := by decide +kernel
theorem d_Rf_isPlan_15 : decode M_Rf_isPlan.2.1 15 = .ok (.iconst (-1), 1) := by decide +kernel
theorem d_Rf_isPlan_16 : decode M_Rf_isPlan.2.1 16 = .ok (.if_icmp .eq 60, 3) := by decide +kernel
theorem d_Rf_isPlan_19 : decode M_Rf_isPlan.2.1 19 = .ok (.aload_n 0, 1) := by decide +kernel
theorem d_Rf_isPlan_20 : decode M_Rf_isPlan.2.1 20 = .ok (.getfield 104, 3) := by decide +kernel
theorem d_Rf_isPlan_23 : decode M_Rf_isPlan.2.1 23 = .ok (.iload_n 1, 1) := by decide +kernel
theorem d_Rf_isPlan_24 : decode M_Rf_isPlan.2.1 24 = .ok (.iaload, 1) := by decide +kernel
theorem d_Rf_isPlan_25 : decode M_Rf_isPlan.2.1 25 = .ok (.bipush 10, 2) := by decide +kernel
theorem d_Rf_isPlan_27 : decode M_Rf_isPlan.2.1 27 = .ok (.if_icmp .gt 49, 3) := by decide +kernel
theorem d_Rf_isPlan_30 : decode M_Rf_isPlan.2.1 30 = .ok (.aload_n 0, 1) := by decide +kernel
theorem d_Rf_isPlan_31 : decode M_Rf_isPlan.2.1 31 = .ok (.getfield 104, 3) := by decide +kernel
theorem d_Rf_isPlan_34 : decode M_Rf_isPlan.2.1 34 = .ok (.iload_n 1, 1) := by decide +kernel
theorem d_Rf_isPlan_35 : decode M_Rf_isPlan.2.1 35 = .ok (.iaload, 1) := by decide +kernel
theorem d_Rf_isPlan_36 : decode M_Rf_isPlan.2.1 36 = .ok (.iconst 2, 1) := by decide +kernel
theorem d_Rf_isPlan_37 : decode M_Rf_isPlan.2.1 37 = .ok (.irem, 1) := by decide +kernel
theorem d_Rf_isPlan_38 : decode M_Rf_isPlan.2.1 38 = .ok (.ifCond .ne 38, 3) := by decide +kernel
theorem d_Rf_isPlan_41 : decode M_Rf_isPlan.2.1 41 = .ok (.iload_n 2, 1) := by decide +kernel
theorem d_Rf_isPlan_42 : decode M_Rf_isPlan.2.1 42 = .ok (.iconst 0, 1) := by decide +kernel
theorem d_Rf_isPlan_43 : decode M_Rf_isPlan.2.1 43 = .ok (.iconst 5, 1) := by decide +kernel
theorem d_Rf_isPlan_44 : decode M_Rf_isPlan.2.1 44 = .ok (.invokestatic 151, 3) := by decide +kernel
theorem d_Rf_isPlan_47 : decode M_Rf_isPlan.2.1 47 = .ok (.ifCond .eq 29, 3) := by decide +kernel
theorem d_Rf_isPlan_50 : decode M_Rf_isPlan.2.1 50 = .ok (.iload_n 3, 1) := by decide +kernel
theorem d_Rf_isPlan_51 : decode M_Rf_isPlan.2.1 51 = .ok (.iconst 1, 1) := by decide +kernel
theorem d_Rf_isPlan_52 : decode M_Rf_isPlan.2.1 52 = .ok (.bipush 120, 2) := by decide +kernel
theorem d_Rf_isPlan_54 : decode M_Rf_isPlan.2.1 54 = .ok (.invokestatic 151, 3) := by decide +kernel
theorem d_Rf_isPlan_57 : decode M_Rf_isPlan.2.1 57 = .ok (.ifCond .eq 19, 3) := by decide +kernel
theorem d_Rf_isPlan_60 : decode M_Rf_isPlan.2.1 60 = .ok (.aload_n 0, 1) := by decide +kernel
theorem d_Rf_isPlan_61 : decode M_Rf_isPlan.2.1 61 = .ok (.getfield 7, 3) := by decide +kernel
theorem d_Rf_isPlan_64 : decode M_Rf_isPlan.2.1 64 = .ok (.sipush 234, 3) := by decide +kernel
theorem d_Rf_isPlan_67 : decode M_Rf_isPlan.2.1 67 = .ok (.iaload, 1) := by decide +kernel
theorem d_Rf_isPlan_68 : decode M_Rf_isPlan.2.1 68 = .ok (.iload_n 3, 1) := by decide +kernel
theorem d_Rf_isPlan_69 : decode M_Rf_isPlan.2.1 69 = .ok (.iadd, 1) := by decide +kernel
theorem d_Rf_isPlan_70 : decode M_Rf_isPlan.2.1 70 = .ok (.sipush 14400, 3) := by decide +kernel
theorem d_Rf_isPlan_73 : decode M_Rf_isPlan.2.1 73 = .ok (.if_icmp .le 5, 3) := by decide +kernel
theorem d_Rf_isPlan_76 : decode M_Rf_isPlan.2.1 76 = .ok (.iconst 0, 1) := by decide +kernel
theorem d_Rf_isPlan_77 : decode M_Rf_isPlan.2.1 77 = .ok (.ireturn, 1) := by decide +kernel
theorem d_Rf_isPlan_78 : decode M_Rf_isPlan.2.1 78 = .ok (.iconst 0, 1) := by decide +kernel
theorem d_Rf_isPlan_79 : decode M_Rf_isPlan.2.1 79 = .ok (.istore 4, 2) := by decide +kernel
theorem d_Rf_isPlan_81 : decode M_Rf_isPlan.2.1 81 = .ok (.iload 4, 2) := by decide +kernel
theorem d_Rf_isPlan_83 : decode M_Rf_isPlan.2.1 83 = .ok (.aload_n 0, 1) := by decide +kernel
theorem d_Rf_isPlan_84 : decode M_Rf_isPlan.2.1 84 = .ok (.getfield 104, 3) := by decide +kernel
theorem d_Rf_isPlan_87 : decode M_Rf_isPlan.2.1 87 = .ok (.iload_n 1, 1) := by decide +kernel
theorem d_Rf_isPlan_88 : decode M_Rf_isPlan.2.1 88 = .ok (.iaload, 1) := by decide +kernel
theorem d_Rf_isPlan_89 : decode M_Rf_isPlan.2.1 89 = .ok (.if_icmp .ge 50, 3) := by decide +kernel
theorem d_Rf_isPlan_92 : decode M_Rf_isPlan.2.1 92 = .ok (.aload_n 0, 1) := by decide +kernel
theorem d_Rf_isPlan_93 : decode M_Rf_isPlan.2.1 93 = .ok (.aload_n 0, 1) := by decide +kernel
theorem d_Rf_isPlan_94 : decode M_Rf_isPlan.2.1 94 = .ok (.getfield 107, 3) := by decide +kernel
theorem d_Rf_isPlan_97 : decode M_Rf_isPlan.2.1 97 = .ok (.bipush 40, 2) := by decide +kernel
theorem d_Rf_isPlan_99 : decode M_Rf_isPlan.2.1 99 = .ok (.iload_n 1, 1) := by decide +kernel
theorem d_Rf_isPlan_100 : decode M_Rf_isPlan.2.1 100 = .ok (.imul, 1) := by decide +kernel
theorem d_Rf_isPlan_101 : decode M_Rf_isPlan.2.1 101 = .ok (.iload 4, 2) := by decide +kernel
theorem d_Rf_isPlan_103 : decode M_Rf_isPlan.2.1 103 = .ok (.iadd, 1) := by decide +kernel
theorem d_Rf_isPlan_104 : decode M_Rf_isPlan.2.1 104 = .ok (.iaload, 1) := by decide +kernel
theorem d_Rf_isPlan_105 : decode M_Rf_isPlan.2.1 105 = .ok (.invokevirtual 167, 3) := by decide +kernel
theorem d_Rf_isPlan_108 : decode M_Rf_isPlan.2.1 108 = .ok (.ifCond .eq 23, 3) := by decide +kernel
theorem d_Rf_isPlan_111 : decode M_Rf_isPlan.2.1 111 = .ok (.aload_n 0, 1) := by decide +kernel
theorem d_Rf_isPlan_112 : decode M_Rf_isPlan.2.1 112 = .ok (.getfield 107, 3) := by decide +kernel
theorem d_Rf_isPlan_115 : decode M_Rf_isPlan.2.1 115 = .ok (.bipush 40, 2) := by decide +kernel
theorem d_Rf_isPlan_117 : decode M_Rf_isPlan.2.1 117 = .ok (.iload_n 1, 1) := by decide +kernel
theorem d_Rf_isPlan_118 : decode M_Rf_isPlan.2.1 118 = .ok (.imul, 1) := by decide +kernel
theorem d_Rf_isPlan_119 : decode M_Rf_isPlan.2.1 119 = .ok (.iload 4, 2) := by decide +kernel
theorem d_Rf_isPlan_121 : decode M_Rf_isPlan.2.1 121 = .ok (.iadd, 1) := by decide +kernel
theorem d_Rf_isPlan_122 : decode M_Rf_isPlan.2.1 122 = .ok (.iconst 1, 1) := by decide +kernel
theorem d_Rf_isPlan_123 : decode M_Rf_isPlan.2.1 123 = .ok (.iadd, 1) := by decide +kernel
theorem d_Rf_isPlan_124 : decode M_Rf_isPlan.2.1 124 = .ok (.iaload, 1) := by decide +kernel
theorem d_Rf_isPlan_125 : decode M_Rf_isPlan.2.1 125 = .ok (.invokestatic 163, 3) := by decide +kernel
theorem d_Rf_isPlan_128 : decode M_Rf_isPlan.2.1 128 = .ok (.ifCond .ne 5, 3) := by decide +kernel
theorem d_Rf_isPlan_131 : decode M_Rf_isPlan.2.1 131 = .ok (.iconst 0, 1) := by decide +kernel
theorem d_Rf_isPlan_132 : decode M_Rf_isPlan.2.1 132 = .ok (.ireturn, 1) := by decide +kernel
theorem d_Rf_isPlan_133 : decode M_Rf_isPlan.2.1 133 = .ok (.iinc 4 2, 3) := by decide +kernel
theorem d_Rf_isPlan_136 : decode M_Rf_isPlan.2.1 136 = .ok (.goto (-55), 3) := by decide +kernel
theorem d_Rf_isPlan_139 : decode M_Rf_isPlan.2.1 139 = .ok (.iconst 1, 1) := by decide +kernel
theorem d_Rf_isPlan_140 : decode M_Rf_isPlan.2.1 140 = .ok (.ireturn, 1) := by decide +kernel
set_option maxHeartbeats 4000000 in
set_option maxRecDepth 100000 in
theorem ip_Rf_isPlan {D : xD} {N : Nat} {l : Launch} {d : Nat} {c z : T2} {P Q : Nat → Int32} {rest : List va_E} {K : Option Value → List va_E → Prop} {nb : Nat} (hnb : c 32 1 = nI nb) (h12 : nb ≤ 12) {s sz : Nat} {t n : Int32} (hs : s < 4) (es : c 30 s = nI sz) (hsz : sz < 41) (h29 : ¬ c 29 s = -1) (h2 : sz % 2 = 0) (h10 : sz ≤ 10) (h1 : tpl c s → K (some (.int (nI 1))) (encR D N c z P Q ++ rest)) (h0 : ¬ tpl c s → K (some (.int (nI 0))) (encR D N c z P Q ++ rest)) : ∀ k : Nat, k ≤ sz / 2 → (∀ j, j < k → inb c (c 31 (40 * s + 2 * j)) ∧ inn (c 31 (40 * s + (2 * j + 1))) 5) → Wp D N l (EI M_Rf_isPlan) M_Rf_isPlan (Rm (d + 2) 0 0) (Qm D N K 0 0) 0 0 81 [(4, .int (nI (2 * k))), (0, .ref (N + 0)), (1, .int (nI s)), (2, .int t), (3, .int n)] [] (encR D N c z P Q ++ rest) := by
  refine up_loop ?_ ?_
  · intro hg
    refine wp_iload (q := 83) d_Rf_isPlan_81 rfl rfl ?_
    refine wp_aload_n (q := 84) d_Rf_isPlan_83 rfl rfl ?_
    refine wp_get (q := 87) fl_Rf_104 d_Rf_isPlan_84 rfl rfl rfl ?_
    refine wp_iload_n (q := 88) d_Rf_isPlan_87 rfl rfl ?_
    refine wp_iald (q := 89) d_Rf_isPlan_88 rfl (rfl) (by omega) (by decide) ?_
    rw [es]
    refine wp_icmp_ge_t (tgt := 139) d_Rf_isPlan_89 (by decide) (nI_le (by omega) (by omega)) ?_
    refine wp_iconst (q := 140) d_Rf_isPlan_139 rfl ic_1 ?_
    refine wp_zret d_Rf_isPlan_140 rfl (rfl) (Nat.le_refl _) (Nat.le_refl _) ?_
    exact h1 ((tpl.sz es hsz).mpr ⟨h29, h2, h10, hg⟩)
  · intro k hk ih hg
    refine wp_iload (q := 83) d_Rf_isPlan_81 rfl rfl ?_
    refine wp_aload_n (q := 84) d_Rf_isPlan_83 rfl rfl ?_
    refine wp_get (q := 87) fl_Rf_104 d_Rf_isPlan_84 rfl rfl rfl ?_
    refine wp_iload_n (q := 88) d_Rf_isPlan_87 rfl rfl ?_
    refine wp_iald (q := 89) d_Rf_isPlan_88 rfl (rfl) (by omega) (by decide) ?_
    rw [es]
    refine wp_icmp_ge_f (q := 92) (tgt := 139) d_Rf_isPlan_89 (by decide) rfl (nI_ge (by omega) (by omega)) ?_
    refine wp_aload_n (q := 93) d_Rf_isPlan_92 rfl rfl ?_
    refine wp_aload_n (q := 94) d_Rf_isPlan_93 rfl rfl ?_
    refine wp_get (q := 97) fl_Rf_107 d_Rf_isPlan_94 rfl rfl rfl ?_
    refine wp_bipush (q := 99) d_Rf_isPlan_97 rfl bp_40 ?_
    refine wp_iload_n (q := 100) d_Rf_isPlan_99 rfl rfl ?_
    first | refine wp_imulN (q := 101) d_Rf_isPlan_100 rfl ?_ | refine wp_imul (q := 101) d_Rf_isPlan_100 rfl ?_
    refine wp_iload (q := 103) d_Rf_isPlan_101 rfl rfl ?_
    first | refine wp_iaddN (q := 104) d_Rf_isPlan_103 rfl ?_ | refine wp_iadd (q := 104) d_Rf_isPlan_103 rfl ?_
    refine wp_iald (q := 105) d_Rf_isPlan_104 rfl (rfl) (by omega) (by decide) ?_
    refine wp_cv1 (q := 108) lk_Rf_167 (ro _ _ _) d_Rf_isPlan_105 rfl (Nat.le_of_ble_eq_true rfl) (rfl) rfl (Nat.zero_le _) (Nat.zero_le _) ?_
    refine ok_Rf_isBus hnb h12 (fun a ha e => ?_) (fun hbn => ?_)
    · have hgb : inb c (c 31 (40 * s + 2 * k)) := by rw [e]; exact inb_t hnb h12 ha
      refine wp_if_eq_f (q := 111) (tgt := 131) d_Rf_isPlan_108 (by decide) rfl (by decide) ?_
      refine wp_aload_n (q := 112) d_Rf_isPlan_111 rfl rfl ?_
      refine wp_get (q := 115) fl_Rf_107 d_Rf_isPlan_112 rfl rfl rfl ?_
      refine wp_bipush (q := 117) d_Rf_isPlan_115 rfl bp_40 ?_
      refine wp_iload_n (q := 118) d_Rf_isPlan_117 rfl rfl ?_
      first | refine wp_imulN (q := 119) d_Rf_isPlan_118 rfl ?_ | refine wp_imul (q := 119) d_Rf_isPlan_118 rfl ?_
      refine wp_iload (q := 121) d_Rf_isPlan_119 rfl rfl ?_
      first | refine wp_iaddN (q := 122) d_Rf_isPlan_121 rfl ?_ | refine wp_iadd (q := 122) d_Rf_isPlan_121 rfl ?_
      refine wp_iconst (q := 123) d_Rf_isPlan_122 rfl ic_1 ?_
      first | refine wp_iaddN (q := 124) d_Rf_isPlan_123 rfl ?_ | refine wp_iadd (q := 124) d_Rf_isPlan_123 rfl ?_
      refine wp_iald (q := 125) d_Rf_isPlan_124 rfl (rfl) (by omega) (by decide) ?_
      rw [show 40 * s + 2 * k + 1 = 40 * s + (2 * k + 1) from rfl]
      refine wp_cs1 (q := 128) lk_Rf_163 (ro _ _ _) d_Rf_isPlan_125 rfl (Nat.le_of_ble_eq_true rfl) (Nat.zero_le _) (Nat.zero_le _) ?_
      refine ok_Rf_isStage (fun a2 ha2 e2 => ?_) (fun hsn => ?_)
      · have hgs : inn (c 31 (40 * s + (2 * k + 1))) 5 := by rw [e2]; exact inn_t ha2
        refine wp_if_ne_t (tgt := 133) d_Rf_isPlan_128 (by decide) (by decide) ?_
        refine wp_iinc (q := 136) (L2 := [(4, _), (0, _), (1, _), (2, _), (3, _)]) d_Rf_isPlan_133 rfl rfl (iinc_2) (by decide) rfl ?_
        refine wp_goto (tgt := 81) d_Rf_isPlan_136 (by decide) ?_
        rw [show 2 * k + 2 = 2 * (k + 1) by omega]
        exact ih (fun j hj => (Nat.lt_or_ge j k).elim (hg j) (fun q => by rw [show j = k by omega]; exact ⟨hgb, hgs⟩))
      · refine wp_if_ne_f (q := 131) (tgt := 133) d_Rf_isPlan_128 (by decide) rfl (by decide) ?_
        refine wp_iconst (q := 132) d_Rf_isPlan_131 rfl ic_0 ?_
        refine wp_zret d_Rf_isPlan_132 rfl (rfl) (Nat.le_refl _) (Nat.le_refl _) ?_
        exact h0 (fun g => hsn (((tpl.sz es hsz).mp g).2.2.2 k hk).2)
    · refine wp_if_eq_t (tgt := 131) d_Rf_isPlan_108 (by decide) (by decide) ?_
      refine wp_iconst (q := 132) d_Rf_isPlan_131 rfl ic_0 ?_
      refine wp_zret d_Rf_isPlan_132 rfl (rfl) (Nat.le_refl _) (Nat.le_refl _) ?_
      exact h0 (fun g => hbn (((tpl.sz es hsz).mp g).2.2.2 k hk).1)
set_option maxHeartbeats 4000000 in
set_option maxRecDepth 100000 in
theorem ok_Rf_isPlan {D : xD} {N : Nat} {l : Launch} {d : Nat} {c z : T2} {P Q : Nat → Int32} {rest : List va_E} {K : Option Value → List va_E → Prop} {nb : Nat} (hnb : c 32 1 = nI nb) (h12 : nb ≤ 12) (hSZ : ∀ s, s < 4 → isN (c 30 s) 41) {m : Nat} (em : P 234 = nI m) {s t n : Int32} (h1 : plOK c m s t n → K (some (.int (nI 1))) (encR D N c z P Q ++ rest)) (h0 : ¬ plOK c m s t n → K (some (.int (nI 0))) (encR D N c z P Q ++ rest)) : Ok D N l (d + 2) M_Rf_isPlan [.ref (N + 0), .int s, .int t, .int n] (encR D N c z P Q ++ rest) 0 0 K := by
  refine ok_of (L := [(0, _), (1, _), (2, _), (3, _)]) (by decide) (Nat.le_of_ble_eq_true rfl) rfl ?_
  refine wp_iload_n (q := 1) d_Rf_isPlan_0 rfl rfl ?_
  refine wp_iconst (q := 2) d_Rf_isPlan_1 rfl ic_0 ?_
  refine wp_iconst (q := 3) d_Rf_isPlan_2 rfl ic_3 ?_
  refine wp_cs3 (q := 6) lk_Rf_151 (ro _ _ _) d_Rf_isPlan_3 rfl (Nat.le_of_ble_eq_true rfl) (Nat.zero_le _) (Nat.zero_le _) ?_
  refine ok_Rf_in0 (b := 3) (by decide) (fun s1 hs1 e => ?_) (fun hs1 => ?_)
  · subst e
    obtain ⟨sz, hsz, es⟩ := (hSZ s1 (by omega)).ex
    refine wp_if_eq_f (q := 9) (tgt := 76) d_Rf_isPlan_6 (by decide) rfl (by decide) ?_
    refine wp_aload_n (q := 10) d_Rf_isPlan_9 rfl rfl ?_
    refine wp_get (q := 13) fl_Rf_101 d_Rf_isPlan_10 rfl rfl rfl ?_
    refine wp_iload_n (q := 14) d_Rf_isPlan_13 rfl rfl ?_
    refine wp_iald (q := 15) d_Rf_isPlan_14 rfl (rfl) (by omega) (by decide) ?_
    refine wp_iconst (q := 16) d_Rf_isPlan_15 rfl ic_m1 ?_
    refine wp_icmp_eq (q := 19) (tgt := 76) d_Rf_isPlan_16 (by decide) rfl (fun hc_16 => ?_) (fun hc_16 => ?_)
    · refine wp_iconst (q := 77) d_Rf_isPlan_76 rfl ic_0 ?_
      refine wp_zret d_Rf_isPlan_77 rfl (rfl) (Nat.le_refl _) (Nat.le_refl _) ?_
      exact h0 (fun g => by have g5 := g.2.2.2.2; rw [tnl hs1] at g5; exact g5.1 hc_16)
    · refine wp_aload_n (q := 20) d_Rf_isPlan_19 rfl rfl ?_
      refine wp_get (q := 23) fl_Rf_104 d_Rf_isPlan_20 rfl rfl rfl ?_
      refine wp_iload_n (q := 24) d_Rf_isPlan_23 rfl rfl ?_
      refine wp_iald (q := 25) d_Rf_isPlan_24 rfl (rfl) (by omega) (by decide) ?_
      rw [es]
      refine wp_bipush (q := 27) d_Rf_isPlan_25 rfl bp_10 ?_
      refine wp_icmp_gt (q := 30) (tgt := 76) d_Rf_isPlan_27 (by decide) rfl (fun hc_27 => ?_) (fun hc_27 => ?_)
      · refine wp_iconst (q := 77) d_Rf_isPlan_76 rfl ic_0 ?_
        refine wp_zret d_Rf_isPlan_77 rfl (rfl) (Nat.le_refl _) (Nat.le_refl _) ?_
        exact h0 (fun g => by have g5 := g.2.2.2.2; rw [tnl hs1, tpl.sz es hsz] at g5; exact le_nlt (nI_le g5.2.2.1 (by decide)) hc_27)
      · have h10 : sz ≤ 10 := Nat.le_of_not_lt (fun q => hc_27 (nI_lt q (by omega)))
        refine wp_aload_n (q := 31) d_Rf_isPlan_30 rfl rfl ?_
        refine wp_get (q := 34) fl_Rf_104 d_Rf_isPlan_31 rfl rfl rfl ?_
        refine wp_iload_n (q := 35) d_Rf_isPlan_34 rfl rfl ?_
        refine wp_iald (q := 36) d_Rf_isPlan_35 rfl (rfl) (by omega) (by decide) ?_
        rw [es]
        refine wp_iconst (q := 37) d_Rf_isPlan_36 rfl ic_2 ?_
        refine wp_iremN (q := 38) d_Rf_isPlan_37 rfl (by omega) (by decide) (by decide) ?_
        refine wp_if_ne (q := 41) (tgt := 76) d_Rf_isPlan_38 (by decide) rfl (fun hc_38 => ?_) (fun hc_38 => ?_)
        · refine wp_iconst (q := 77) d_Rf_isPlan_76 rfl ic_0 ?_
          refine wp_zret d_Rf_isPlan_77 rfl (rfl) (Nat.le_refl _) (Nat.le_refl _) ?_
          exact h0 (fun g => by have g5 := g.2.2.2.2; rw [tnl hs1, tpl.sz es hsz] at g5; exact hc_38 (by rw [g5.2.1]; exact nI_0))
        · have h2 : sz % 2 = 0 := by
            have := congrArg tn hc_38
            rw [tnt (show sz % 2 < 41 by omega)] at this
            exact this
          refine wp_iload_n (q := 42) d_Rf_isPlan_41 rfl rfl ?_
          refine wp_iconst (q := 43) d_Rf_isPlan_42 rfl ic_0 ?_
          refine wp_iconst (q := 44) d_Rf_isPlan_43 rfl ic_5 ?_
          refine wp_cs3 (q := 47) lk_Rf_151 (ro _ _ _) d_Rf_isPlan_44 rfl (Nat.le_of_ble_eq_true rfl) (Nat.zero_le _) (Nat.zero_le _) ?_
          refine ok_Rf_in (fun hta htb => ?_) (fun htn => ?_)
          · refine wp_if_eq_f (q := 50) (tgt := 76) d_Rf_isPlan_47 (by decide) rfl (by decide) ?_
            refine wp_iload_n (q := 51) d_Rf_isPlan_50 rfl rfl ?_
            refine wp_iconst (q := 52) d_Rf_isPlan_51 rfl ic_1 ?_
            refine wp_bipush (q := 54) d_Rf_isPlan_52 rfl bp_120 ?_
            refine wp_cs3 (q := 57) lk_Rf_151 (ro _ _ _) d_Rf_isPlan_54 rfl (Nat.le_of_ble_eq_true rfl) (Nat.zero_le _) (Nat.zero_le _) ?_
            refine ok_Rf_in (fun hna hnb3 => ?_) (fun hnn => ?_)
            · refine wp_if_eq_f (q := 60) (tgt := 76) d_Rf_isPlan_57 (by decide) rfl (by decide) ?_
              refine wp_aload_n (q := 61) d_Rf_isPlan_60 rfl rfl ?_
              refine wp_get (q := 64) fl_Rf_7 d_Rf_isPlan_61 rfl rfl rfl ?_
              refine wp_sipush (q := 67) d_Rf_isPlan_64 rfl sp_234 ?_
              refine wp_iald (q := 68) d_Rf_isPlan_67 rfl (rfl) (by omega) (by decide) ?_
              rw [em]
              refine wp_iload_n (q := 69) d_Rf_isPlan_68 rfl rfl ?_
              first | refine wp_iaddN (q := 70) d_Rf_isPlan_69 rfl ?_ | refine wp_iadd (q := 70) d_Rf_isPlan_69 rfl ?_
              refine wp_sipush (q := 73) d_Rf_isPlan_70 rfl sp_14400 ?_
              refine wp_icmp_le (q := 76) (tgt := 78) d_Rf_isPlan_73 (by decide) rfl (fun hc_73 => ?_) (fun hc_73 => ?_)
              · refine wp_iconst (q := 79) d_Rf_isPlan_78 rfl ic_0 ?_
                refine wp_istore (q := 81) (L2 := [(4, _), (0, _), (1, _), (2, _), (3, _)]) d_Rf_isPlan_79 rfl (by decide) rfl ?_
                exact ip_Rf_isPlan hnb h12 (by omega) es hsz hc_16 h2 h10 (fun g => h1 ⟨inn_t hs1, ⟨hta, htb⟩, ⟨hna, hnb3⟩, hc_73, by rw [tnl hs1]; exact g⟩) (fun g => h0 (fun q => g (by have := q.2.2.2.2; rw [tnl hs1] at this; exact this))) 0 (Nat.zero_le _) (fun j hj => absurd hj (Nat.not_lt_zero _))
              · refine wp_iconst (q := 77) d_Rf_isPlan_76 rfl ic_0 ?_
                refine wp_zret d_Rf_isPlan_77 rfl (rfl) (Nat.le_refl _) (Nat.le_refl _) ?_
                exact h0 (fun g => hc_73 g.2.2.2.1)
            · refine wp_if_eq_t (tgt := 76) d_Rf_isPlan_57 (by decide) (by decide) ?_
              refine wp_iconst (q := 77) d_Rf_isPlan_76 rfl ic_0 ?_
              refine wp_zret d_Rf_isPlan_77 rfl (rfl) (Nat.le_refl _) (Nat.le_refl _) ?_
              exact h0 (fun g => hnn g.2.2.1)
          · refine wp_if_eq_t (tgt := 76) d_Rf_isPlan_47 (by decide) (by decide) ?_
            refine wp_iconst (q := 77) d_Rf_isPlan_76 rfl ic_0 ?_
            refine wp_zret d_Rf_isPlan_77 rfl (rfl) (Nat.le_refl _) (Nat.le_refl _) ?_
            exact h0 (fun g => htn g.2.1)
  · refine wp_if_eq_t (tgt := 76) d_Rf_isPlan_6 (by decide) (by decide) ?_
    refine wp_iconst (q := 77) d_Rf_isPlan_76 rfl ic_0 ?_
    refine wp_zret d_Rf_isPlan_77 rfl (rfl) (Nat.le_refl _) (Nat.le_refl _) ?_
    exact h0 (fun g => hs1 g.1)
theorem d_FG_waitedWith_0 : decode M_FG_waitedWith.2.1 0 = .ok (.aload_n 0, 1) := by decide +kernel
theorem d_FG_waitedWith_1 : decode M_FG_waitedWith.2.1 1 = .ok (.getfield 23, 3) := by decide +kernel
theorem d_FG_waitedWith_4 : decode M_FG_waitedWith.2.1 4 = .ok (.aload_n 0, 1) := by decide +kernel
theorem d_FG_waitedWith_5 : decode M_FG_waitedWith.2.1 5 = .ok (.getfield 19, 3) := by decide +kernel
theorem d_FG_waitedWith_8 : decode M_FG_waitedWith.2.1 8 = .ok (.invokevirtual 250, 3) := by decide +kernel
theorem d_FG_waitedWith_11 : decode M_FG_waitedWith.2.1 11 = .ok (.iconst 0, 1) := by decide +kernel
theorem d_FG_waitedWith_12 : decode M_FG_waitedWith.2.1 12 = .ok (.istore 4, 2) := by decide +kernel
theorem d_FG_waitedWith_14 : decode M_FG_waitedWith.2.1 14 = .ok (.iload 4, 2) := by decide +kernel
theorem d_FG_waitedWith_16 : decode M_FG_waitedWith.2.1 16 = .ok (.iconst 5, 1) := by decide +kernel
theorem d_FG_waitedWith_17 : decode M_FG_waitedWith.2.1 17 = .ok (.if_icmp .ge 67, 3) := by decide +kernel
theorem d_FG_waitedWith_20 : decode M_FG_waitedWith.2.1 20 = .ok (.iload_n 2, 1) := by decide +kernel
theorem d_FG_waitedWith_21 : decode M_FG_waitedWith.2.1 21 = .ok (.iload 4, 2) := by decide +kernel
theorem d_FG_waitedWith_23 : decode M_FG_waitedWith.2.1 23 = .ok (.ishr, 1) := by decide +kernel
theorem d_FG_waitedWith_24 : decode M_FG_waitedWith.2.1 24 = .ok (.iconst 1, 1) := by decide +kernel
theorem d_FG_waitedWith_25 : decode M_FG_waitedWith.2.1 25 = .ok (.iand, 1) := by decide +kernel
theorem d_FG_waitedWith_26 : decode M_FG_waitedWith.2.1 26 = .ok (.ifCond .ne 6, 3) := by decide +kernel
theorem d_FG_waitedWith_29 : decode M_FG_waitedWith.2.1 29 = .ok (.goto 49, 3) := by decide +kernel
theorem d_FG_waitedWith_32 : decode M_FG_waitedWith.2.1 32 = .ok (.aload_n 1, 1) := by decide +kernel
theorem d_FG_waitedWith_33 : decode M_FG_waitedWith.2.1 33 = .ok (.iconst 2, 1) := by decide +kernel
theorem d_FG_waitedWith_34 : decode M_FG_waitedWith.2.1 34 = .ok (.iload 4, 2) := by decide +kernel
theorem d_FG_waitedWith_36 : decode M_FG_waitedWith.2.1 36 = .ok (.imul, 1) := by decide +kernel
theorem d_FG_waitedWith_37 : decode M_FG_waitedWith.2.1 37 = .ok (.iaload, 1) := by decide +kernel
theorem d_FG_waitedWith_38 : decode M_FG_waitedWith.2.1 38 = .ok (.istore 5, 2) := by decide +kernel
theorem d_FG_waitedWith_40 : decode M_FG_waitedWith.2.1 40 = .ok (.aload_n 0, 1) := by decide +kernel
theorem d_FG_waitedWith_41 : decode M_FG_waitedWith.2.1 41 = .ok (.getfield 23, 3) := by decide +kernel
theorem d_FG_waitedWith_44 : decode M_FG_waitedWith.2.1 44 = .ok (.getfield 85, 3) := by decide +kernel
theorem d_FG_waitedWith_47 : decode M_FG_waitedWith.2.1 47 = .ok (.iload 5, 2) := by decide +kernel
theorem d_FG_waitedWith_49 : decode M_FG_waitedWith.2.1 49 = .ok (.aaload, 1) := by decide +kernel
theorem d_FG_waitedWith_50 : decode M_FG_waitedWith.2.1 50 = .ok (.getfield 89, 3) := by decide +kernel
theorem d_FG_waitedWith_53 : decode M_FG_waitedWith.2.1 53 = .ok (.ifCond .eq 7, 3) := by decide +kernel
theorem d_FG_waitedWith_56 : decode M_FG_waitedWith.2.1 56 = .ok (.ldc2_w 261, 3) := by decide +kernel
theorem d_FG_waitedWith_59 : decode M_FG_waitedWith.2.1 59 = .ok (.lreturn, 1) := by decide +kernel
theorem d_FG_waitedWith_60 : decode M_FG_waitedWith.2.1 60 = .ok (.aload_n 0, 1) := by decide +kernel
theorem d_FG_waitedWith_61 : decode M_FG_waitedWith.2.1 61 = .ok (.getfield 23, 3) := by decide +kernel
theorem d_FG_waitedWith_64 : decode M_FG_waitedWith.2.1 64 = .ok (.iload 5, 2) := by decide +kernel
theorem d_FG_waitedWith_66 : decode M_FG_waitedWith.2.1 66 = .ok (.aload_n 1, 1) := by decide +kernel
theorem d_FG_waitedWith_67 : decode M_FG_waitedWith.2.1 67 = .ok (.iconst 2, 1) := by decide +kernel
theorem d_FG_waitedWith_68 : decode M_FG_waitedWith.2.1 68 = .ok (.iload 4, 2) := by decide +kernel
theorem d_FG_waitedWith_70 : decode M_FG_waitedWith.2.1 70 = .ok (.imul, 1) := by decide +kernel
theorem d_FG_waitedWith_71 : decode M_FG_waitedWith.2.1 71 = .ok (.iconst 1, 1) := by decide +kernel
theorem d_FG_waitedWith_72 : decode M_FG_waitedWith.2.1 72 = .ok (.iadd, 1) := by decide +kernel
theorem d_FG_waitedWith_73 : decode M_FG_waitedWith.2.1 73 = .ok (.iaload, 1) := by decide +kernel
theorem d_FG_waitedWith_74 : decode M_FG_waitedWith.2.1 74 = .ok (.invokevirtual 94, 3) := by decide +kernel
theorem d_FG_waitedWith_77 : decode M_FG_waitedWith.2.1 77 = .ok (.pop, 1) := by decide +kernel
theorem d_FG_waitedWith_78 : decode M_FG_waitedWith.2.1 78 = .ok (.iinc 4 1, 3) := by decide +kernel
theorem d_FG_waitedWith_81 : decode M_FG_waitedWith.2.1 81 = .ok (.goto (-67), 3) := by decide +kernel
theorem d_FG_waitedWith_84 : decode M_FG_waitedWith.2.1 84 = .ok (.iconst 0, 1) := by decide +kernel
theorem d_FG_waitedWith_85 : decode M_FG_waitedWith.2.1 85 = .ok (.istore 4, 2) := by decide +kernel
theorem d_FG_waitedWith_87 : decode M_FG_waitedWith.2.1 87 = .ok (.iload 4, 2) := by decide +kernel
theorem d_FG_waitedWith_89 : decode M_FG_waitedWith.2.1 89 = .ok (.iload_n 3, 1) := by decide +kernel
theorem d_FG_waitedWith_90 : decode M_FG_waitedWith.2.1 90 = .ok (.if_icmp .ge 20, 3) := by decide +kernel
theorem d_FG_waitedWith_93 : decode M_FG_waitedWith.2.1 93 = .ok (.aload_n 0, 1) := by decide +kernel
theorem d_FG_waitedWith_94 : decode M_FG_waitedWith.2.1 94 = .ok (.getfield 10, 3) := by decide +kernel
theorem d_FG_waitedWith_97 : decode M_FG_waitedWith.2.1 97 = .ok (.aload_n 0, 1) := by decide +kernel
theorem d_FG_waitedWith_98 : decode M_FG_waitedWith.2.1 98 = .ok (.getfield 23, 3) := by decide +kernel
theorem d_FG_waitedWith_101 : decode M_FG_waitedWith.2.1 101 = .ok (.invokevirtual 168, 3) := by decide +kernel
theorem d_FG_waitedWith_104 : decode M_FG_waitedWith.2.1 104 = .ok (.iinc 4 1, 3) := by decide +kernel
theorem d_FG_waitedWith_107 : decode M_FG_waitedWith.2.1 107 = .ok (.goto (-20), 3) := by decide +kernel
theorem d_FG_waitedWith_110 : decode M_FG_waitedWith.2.1 110 = .ok (.aload_n 0, 1) := by decide +kernel
theorem d_FG_waitedWith_111 : decode M_FG_waitedWith.2.1 111 = .ok (.getfield 23, 3) := by decide +kernel
theorem d_FG_waitedWith_114 : decode M_FG_waitedWith.2.1 114 = .ok (.getfield 233, 3) := by decide +kernel
theorem d_FG_waitedWith_117 : decode M_FG_waitedWith.2.1 117 = .ok (.i2l, 1) := by decide +kernel
theorem d_FG_waitedWith_118 : decode M_FG_waitedWith.2.1 118 = .ok (.aload_n 0, 1) := by decide +kernel
theorem d_FG_waitedWith_119 : decode M_FG_waitedWith.2.1 119 = .ok (.getfield 19, 3) := by decide +kernel
theorem d_FG_waitedWith_122 : decode M_FG_waitedWith.2.1 122 = .ok (.getfield 233, 3) := by decide +kernel
theorem d_FG_waitedWith_125 : decode M_FG_waitedWith.2.1 125 = .ok (.i2l, 1) := by decide +kernel
theorem d_FG_waitedWith_126 : decode M_FG_waitedWith.2.1 126 = .ok (.lsub, 1) := by decide +kernel
theorem d_FG_waitedWith_127 : decode M_FG_waitedWith.2.1 127 = .ok (.lreturn, 1) := by decide +kernel
set_option maxHeartbeats 4000000 in
set_option maxRecDepth 100000 in
theorem ww_FG_waitedWith {D : xD} {N : Nat} {l : Launch} {d : Nat} {c V : T2} {P : Nat → Int32} {ln df : Nat → Option Nat} {rest : List va_E} {K : Option Value → List va_E → Prop} {nb : Nat} (hnb : c 32 1 = nI nb) (h12 : nb ≤ 12) {m n s set : Nat} {R : Nat → Int32} (hWR : WV c R nb m) (hmn : m + n ≤ 14400) (hT : TI c) (hSE : SE c) (hCI : CI c) (hLOK : LOK D N c ln rest) (hK : ∀ (x2 : T2) (Z : Nat → Int32), K (some (.long ((pN c R nb m n 238).toInt64 - (P 238).toInt64))) (encC D N c x2 (va_up (va_up V 0 P) 1 (Z)) ln df ++ rest)) : ∀ k, k ≤ n → ∀ x, Wp D N l (EI M_FG_waitedWith) M_FG_waitedWith (Rm (d + 7) 0 0) (Qm D N K 0 0) 0 0 87 [(4, .int (nI k)), (0, .ref (N + 0)), (1, .ref (N + (118 + s))), (2, .int (nI set)), (3, .int (nI n))] [] (encC D N c x (va_up (va_up V 0 P) 1 (pN c R nb m k)) ln df ++ rest) := by
  refine up_loop ?_ ?_
  · intro x
    refine wp_iload (q := 89) d_FG_waitedWith_87 rfl rfl ?_
    refine wp_iload_n (q := 90) d_FG_waitedWith_89 rfl rfl ?_
    refine wp_icmp_ge_t (tgt := 110) d_FG_waitedWith_90 (by decide) (nI_le (Nat.le_refl _) (by omega)) ?_
    refine wp_aload_n (q := 111) d_FG_waitedWith_110 rfl rfl ?_
    refine wp_get (q := 114) fl_FG_23 d_FG_waitedWith_111 rfl rfl rfl ?_
    refine wp_get (q := 117) fl_FG_233 d_FG_waitedWith_114 rfl (rdO (w := 1) (by decide)) rfl ?_
    refine wp_i2l (q := 118) d_FG_waitedWith_117 rfl ?_
    refine wp_aload_n (q := 119) d_FG_waitedWith_118 rfl rfl ?_
    refine wp_get (q := 122) fl_FG_19 d_FG_waitedWith_119 rfl rfl rfl ?_
    refine wp_get (q := 125) fl_FG_233 d_FG_waitedWith_122 rfl (rdO2 (v := 0) (w := 1) (by decide) (by decide)) rfl ?_
    rw [show va_up V 0 P 0 = P from va_up_self _ _ _]
    refine wp_i2l (q := 126) d_FG_waitedWith_125 rfl ?_
    refine wp_lsub (q := 127) d_FG_waitedWith_126 rfl ?_
    refine wp_lret d_FG_waitedWith_127 rfl (Nat.le_refl _) (Nat.le_refl _) ?_
    exact hK x _
  · intro k hk ih x
    refine wp_iload (q := 89) d_FG_waitedWith_87 rfl rfl ?_
    refine wp_iload_n (q := 90) d_FG_waitedWith_89 rfl rfl ?_
    refine wp_icmp_ge_f (q := 93) (tgt := 110) d_FG_waitedWith_90 (by decide) rfl (nI_ge hk (by omega)) ?_
    have wk := hWR.ps hT hSE h12 k (by omega)
    refine wp_aload_n (q := 94) d_FG_waitedWith_93 rfl rfl ?_
    refine wp_get (q := 97) fl_FG_10 d_FG_waitedWith_94 rfl rfl rfl ?_
    refine wp_aload_n (q := 98) d_FG_waitedWith_97 rfl rfl ?_
    refine wp_get (q := 101) fl_FG_23 d_FG_waitedWith_98 rfl rfl rfl ?_
    refine wp_cv1 (q := 104) lk_FG_168 (ro _ _ _) d_FG_waitedWith_101 rfl (Nat.le_of_ble_eq_true rfl) (rfl) rfl (Nat.zero_le _) (Nat.zero_le _) ?_
    refine ok_Tn_pass (w := 1) hnb h12 (by decide) (by omega) wk.1 hT hCI hLOK wk.cr wk.2.2.1 ?_
    intro x2
    refine wp_iinc (q := 107) (L2 := [(4, _), (0, _), (1, _), (2, _), (3, _)]) d_FG_waitedWith_104 rfl rfl (iinc_1) (by decide) rfl ?_
    refine wp_goto (tgt := 87) d_FG_waitedWith_107 (by decide) ?_
    exact ih x2
def plV (c : T2) (P : Nat → Int32) (nb m s n set : Nat) : Option Int64 := match qp c P s set 5 with
  | none => none
  | some R => some ((pN c R nb m n 238).toInt64 - (P 238).toInt64)
def ovL (o : Option Int64) : Int64 := match o with
  | none => -1
  | some v => v
set_option maxHeartbeats 4000000 in
set_option maxRecDepth 100000 in
theorem ok_FG_waitedWith {D : xD} {N : Nat} {l : Launch} {d : Nat} {c x V : T2} {P : Nat → Int32} {ln df : Nat → Option Nat} {rest : List va_E} {K : Option Value → List va_E → Prop} {nb : Nat} (hnb : c 32 1 = nI nb) (h12 : nb ≤ 12) {m : Nat} (hWV : WV c P nb m) (hm : m ≤ 14400) (hT : TI c) (hSE : SE c) (hCI : CI c) (hLOK : LOK D N c ln rest) {s set n h q : Nat} (hs : s < 4) (ht : tpl c s) (eh : tn (c 30 s) / 2 = h) (hset : set < 2 ^ h) (hmn : m + n ≤ 14400) (hSt : St P q) (hq : q < 800000000) (hK : ∀ (x2 : T2) (Z : Nat → Int32), K (some (.long (ovL (plV c P nb m s n set)))) (encC D N c x2 (va_up (va_up V 0 P) 1 (Z)) ln df ++ rest)) : Ok D N l (d + 7) M_FG_waitedWith [.ref (N + 0), .ref (N + (118 + s)), .int (nI set), .int (nI n)] (encC D N c x (va_up V 0 P) ln df ++ rest) 0 0 K := by
  have hh : h < 6 := by have := ht.2.2.1; omega
  have hQ := fun j hj => qp_WV (set := set) hWV hSt hq ht hnb h12 hSE eh hset hh j hj
  unfold plV at hK
  have lp : ∀ j : Nat, j ≤ 5 → ∀ R, qp c P s set j = some R → ∀ x, Wp D N l (EI M_FG_waitedWith) M_FG_waitedWith (Rm (d + 7) 0 0) (Qm D N K 0 0) 0 0 14 [(4, .int (nI j)), (0, .ref (N + 0)), (1, .ref (N + (118 + s))), (2, .int (nI set)), (3, .int (nI n))] [] (encC D N c x (va_up (va_up V 0 P) 1 (R)) ln df ++ rest) := by
    refine up_loop ?_ ?_
    · intro R hR x
      refine wp_iload (q := 16) d_FG_waitedWith_14 rfl rfl ?_
      refine wp_iconst (q := 17) d_FG_waitedWith_16 rfl ic_5 ?_
      refine wp_icmp_ge_t (tgt := 84) d_FG_waitedWith_17 (by decide) (nI_le (Nat.le_refl _) (by decide)) ?_
      refine wp_iconst (q := 85) d_FG_waitedWith_84 rfl ic_0 ?_
      refine wp_istore (q := 87) (L2 := [(4, _), (0, _), (1, _), (2, _), (3, _)]) d_FG_waitedWith_85 rfl (by decide) rfl ?_
      rw [hR] at hK
      exact ww_FG_waitedWith (R := R) hnb h12 (hQ 5 (by decide) R hR).1 hmn hT hSE hCI hLOK hK 0 (Nat.zero_le _) x
    · intro j hj ih R hR x
      refine wp_iload (q := 16) d_FG_waitedWith_14 rfl rfl ?_
      refine wp_iconst (q := 17) d_FG_waitedWith_16 rfl ic_5 ?_
      refine wp_icmp_ge_f (q := 20) (tgt := 84) d_FG_waitedWith_17 (by decide) rfl (nI_ge hj (by decide)) ?_
      refine wp_iload_n (q := 21) d_FG_waitedWith_20 rfl rfl ?_
      refine wp_iload (q := 23) d_FG_waitedWith_21 rfl rfl ?_
      refine wp_ishr (q := 24) d_FG_waitedWith_23 rfl ?_
      refine wp_iconst (q := 25) d_FG_waitedWith_24 rfl ic_1 ?_
      refine wp_iand (q := 26) d_FG_waitedWith_25 rfl ?_
      refine wp_if_ne (q := 29) (tgt := 32) d_FG_waitedWith_26 (by decide) rfl (fun hc_26 => ?_) (fun hc_26 => ?_)
      · have hjh : j < h := Nat.lt_of_not_le (fun g => hc_26 (bit_hi h hh set hset j (by omega) g))
        obtain ⟨b, t, hb, htt, eb, et⟩ := ht.at hnb h12 (k := j) (by rw [eh]; exact hjh)
        have etb : tn (c 31 (40 * s + 2 * j)) = b := by rw [eb]; exact tnt (show b < 12 by omega)
        have ett : tn (c 31 (40 * s + (2 * j + 1))) = t := by rw [et]; exact tnt htt
        refine wp_aload_n (q := 33) d_FG_waitedWith_32 rfl rfl ?_
        refine wp_iconst (q := 34) d_FG_waitedWith_33 rfl ic_2 ?_
        refine wp_iload (q := 36) d_FG_waitedWith_34 rfl rfl ?_
        first | refine wp_imulN (q := 37) d_FG_waitedWith_36 rfl ?_ | refine wp_imul (q := 37) d_FG_waitedWith_36 rfl ?_
        refine wp_iald (q := 38) d_FG_waitedWith_37 rfl (rd_sheet (by omega)) (by omega) (by decide) ?_
        rw [sl_at (show 2 * j < 40 by omega), eb]
        refine wp_istore (q := 40) (L2 := [(5, _), (4, _), (0, _), (1, _), (2, _), (3, _)]) d_FG_waitedWith_38 rfl (by decide) rfl ?_
        refine wp_aload_n (q := 41) d_FG_waitedWith_40 rfl rfl ?_
        refine wp_get (q := 44) fl_FG_23 d_FG_waitedWith_41 rfl rfl rfl ?_
        refine wp_get (q := 47) fl_FG_85 d_FG_waitedWith_44 rfl (rdO (w := 1) (by decide)) rfl ?_
        refine wp_iload (q := 49) d_FG_waitedWith_47 rfl rfl ?_
        refine wp_aldR (q := 50) d_FG_waitedWith_49 rfl (rd4 (w := 1) (by decide)) (by omega) (by decide) (rowsW_at (by omega)) ?_
        refine wp_get (q := 53) fl_FG_89 d_FG_waitedWith_50 rfl (rdR (w := 1) (by decide) (by omega)) rfl ?_
        refine wp_if_eq (q := 56) (tgt := 60) d_FG_waitedWith_53 (by decide) rfl (fun hc_53 => ?_) (fun hc_53 => ?_)
        · refine wp_aload_n (q := 61) d_FG_waitedWith_60 rfl rfl ?_
          refine wp_get (q := 64) fl_FG_23 d_FG_waitedWith_61 rfl rfl rfl ?_
          refine wp_iload (q := 66) d_FG_waitedWith_64 rfl rfl ?_
          refine wp_aload_n (q := 67) d_FG_waitedWith_66 rfl rfl ?_
          refine wp_iconst (q := 68) d_FG_waitedWith_67 rfl ic_2 ?_
          refine wp_iload (q := 70) d_FG_waitedWith_68 rfl rfl ?_
          first | refine wp_imulN (q := 71) d_FG_waitedWith_70 rfl ?_ | refine wp_imul (q := 71) d_FG_waitedWith_70 rfl ?_
          refine wp_iconst (q := 72) d_FG_waitedWith_71 rfl ic_1 ?_
          first | refine wp_iaddN (q := 73) d_FG_waitedWith_72 rfl ?_ | refine wp_iadd (q := 73) d_FG_waitedWith_72 rfl ?_
          refine wp_iald (q := 74) d_FG_waitedWith_73 rfl (rd_sheet (by omega)) (by omega) (by decide) ?_
          rw [sl_at (show 2 * j + 1 < 40 by omega), et]
          refine wp_cv2 (q := 77) lk_FG_94 (ro _ _ _) d_FG_waitedWith_74 rfl (Nat.le_of_ble_eq_true rfl) (rdO (w := 1) (by decide)) rfl (Nat.zero_le _) (Nat.zero_le _) ?_
          refine ok_Wd_lineUp (w := 1) (by decide) (by omega) htt ?_
          refine wp_pop (q := 78) d_FG_waitedWith_77 rfl rfl ?_
          refine wp_iinc (q := 81) (L2 := [(4, _), (5, _), (0, _), (1, _), (2, _), (3, _)]) d_FG_waitedWith_78 rfl rfl (iinc_1) (by decide) rfl ?_
          refine wp_goto (tgt := 14) d_FG_waitedWith_81 (by decide) ?_
          refine wp_sub [0, 2, 3, 4, 5] rfl ?_
          exact ih _ (by have e := qp_y hR hc_26 (by rw [etb]; exact hc_53); rw [etb, ett] at e; exact e) x
        · refine wp_ldc2 (q := 59) d_FG_waitedWith_56 rfl kl_FG_261 ?_
          refine wp_lret d_FG_waitedWith_59 rfl (Nat.le_refl _) (Nat.le_refl _) ?_
          have hn : qp c P s set 5 = none := by
            have := qp_none (qp_n hR hc_26 (by rw [etb]; exact hc_53)) (4 - j)
            rw [show j + 1 + (4 - j) = 5 by omega] at this
            exact this
          rw [hn] at hK
          exact hK x _
      · refine wp_goto (tgt := 78) d_FG_waitedWith_29 (by decide) ?_
        refine wp_iinc (q := 81) (L2 := [(4, _), (0, _), (1, _), (2, _), (3, _)]) d_FG_waitedWith_78 rfl rfl (iinc_1) (by decide) rfl ?_
        refine wp_goto (tgt := 14) d_FG_waitedWith_81 (by decide) ?_
        exact ih R (qp_0 hR hc_26) x
  refine ok_of (L := [(0, _), (1, _), (2, _), (3, _)]) (by decide) (Nat.le_of_ble_eq_true rfl) rfl ?_
  refine wp_aload_n (q := 1) d_FG_waitedWith_0 rfl rfl ?_
  refine wp_get (q := 4) fl_FG_23 d_FG_waitedWith_1 rfl rfl rfl ?_
  refine wp_aload_n (q := 5) d_FG_waitedWith_4 rfl rfl ?_
  refine wp_get (q := 8) fl_FG_19 d_FG_waitedWith_5 rfl rfl rfl ?_
  refine wp_cv1 (q := 11) lk_FG_250 (ro _ _ _) d_FG_waitedWith_8 rfl (Nat.le_of_ble_eq_true rfl) ((rdV (w := 1) (by decide))) rfl (Nat.zero_le _) (Nat.zero_le _) ?_
  refine ok_become (V := va_up V 0 P) (w := 1) (v := 0) (by decide) (by decide) (by decide) ?_
  rw [show va_up V 0 P 0 = P from va_up_self _ _ _]
  refine wp_iconst (q := 12) d_FG_waitedWith_11 rfl ic_0 ?_
  refine wp_istore (q := 14) (L2 := [(4, _), (0, _), (1, _), (2, _), (3, _)]) d_FG_waitedWith_12 rfl (by decide) rfl ?_
  exact lp 0 (Nat.zero_le _) P rfl x
