def sp_road (c : T2) (a b n : Int32) : Int32 × T2 := if ¬ inn a 5 ∨ ¬ inn b 5 then (-1, c) else if a = b ∨ ¬ inn n 60 then (-2, c) else (c 2 (6 * tn a + tn b), tput c 2 (upd (upd (c 2) (6 * tn a + tn b) n) (6 * tn b + tn a) n))
theorem d_FG_road_0 : decode M_FG_road.2.1 0 = .ok (.iload_n 1, 1) := by decide +kernel
theorem d_FG_road_1 : decode M_FG_road.2.1 1 = .ok (.invokestatic 57, 3) := by decide +kernel
theorem d_FG_road_4 : decode M_FG_road.2.1 4 = .ok (.ifCond .eq 10, 3) := by decide +kernel
theorem d_FG_road_7 : decode M_FG_road.2.1 7 = .ok (.iload_n 2, 1) := by decide +kernel
theorem d_FG_road_8 : decode M_FG_road.2.1 8 = .ok (.invokestatic 57, 3) := by decide +kernel
theorem d_FG_road_11 : decode M_FG_road.2.1 11 = .ok (.ifCond .ne 5, 3) := by decide +kernel
theorem d_FG_road_14 : decode M_FG_road.2.1 14 = .ok (.iconst (-1), 1) := by decide +kernel
theorem d_FG_road_15 : decode M_FG_road.2.1 15 = .ok (.ireturn, 1) := by decide +kernel
theorem d_FG_road_16 : decode M_FG_road.2.1 16 = .ok (.iload_n 1, 1) := by decide +kernel
theorem d_FG_road_17 : decode M_FG_road.2.1 17 = .ok (.iload_n 2, 1) := by decide +kernel
theorem d_FG_road_18 : decode M_FG_road.2.1 18 = .ok (.if_icmp .eq 13, 3) := by decide +kernel
theorem d_FG_road_21 : decode M_FG_road.2.1 21 = .ok (.iload_n 3, 1) := by decide +kernel
theorem d_FG_road_22 : decode M_FG_road.2.1 22 = .ok (.iconst 0, 1) := by decide +kernel
theorem d_FG_road_23 : decode M_FG_road.2.1 23 = .ok (.bipush 60, 2) := by decide +kernel
theorem d_FG_road_25 : decode M_FG_road.2.1 25 = .ok (.invokestatic 61, 3) := by decide +kernel
theorem d_FG_road_28 : decode M_FG_road.2.1 28 = .ok (.ifCond .ne 6, 3) := by decide +kernel
theorem d_FG_road_31 : decode M_FG_road.2.1 31 = .ok (.bipush (-2), 2) := by decide +kernel
theorem d_FG_road_33 : decode M_FG_road.2.1 33 = .ok (.ireturn, 1) := by decide +kernel
theorem d_FG_road_34 : decode M_FG_road.2.1 34 = .ok (.aload_n 0, 1) := by decide +kernel
theorem d_FG_road_35 : decode M_FG_road.2.1 35 = .ok (.getfield 10, 3) := by decide +kernel
theorem d_FG_road_38 : decode M_FG_road.2.1 38 = .ok (.getfield 65, 3) := by decide +kernel
theorem d_FG_road_41 : decode M_FG_road.2.1 41 = .ok (.iload_n 1, 1) := by decide +kernel
theorem d_FG_road_42 : decode M_FG_road.2.1 42 = .ok (.bipush 6, 2) := by decide +kernel
theorem d_FG_road_44 : decode M_FG_road.2.1 44 = .ok (.imul, 1) := by decide +kernel
theorem d_FG_road_45 : decode M_FG_road.2.1 45 = .ok (.iload_n 2, 1) := by decide +kernel
theorem d_FG_road_46 : decode M_FG_road.2.1 46 = .ok (.iadd, 1) := by decide +kernel
theorem d_FG_road_47 : decode M_FG_road.2.1 47 = .ok (.iaload, 1) := by decide +kernel
theorem d_FG_road_48 : decode M_FG_road.2.1 48 = .ok (.istore 4, 2) := by decide +kernel
theorem d_FG_road_50 : decode M_FG_road.2.1 50 = .ok (.aload_n 0, 1) := by decide +kernel
theorem d_FG_road_51 : decode M_FG_road.2.1 51 = .ok (.getfield 10, 3) := by decide +kernel
theorem d_FG_road_54 : decode M_FG_road.2.1 54 = .ok (.getfield 65, 3) := by decide +kernel
theorem d_FG_road_57 : decode M_FG_road.2.1 57 = .ok (.iload_n 1, 1) := by decide +kernel
theorem d_FG_road_58 : decode M_FG_road.2.1 58 = .ok (.bipush 6, 2) := by decide +kernel
theorem d_FG_road_60 : decode M_FG_road.2.1 60 = .ok (.imul, 1) := by decide +kernel
theorem d_FG_road_61 : decode M_FG_road.2.1 61 = .ok (.iload_n 2, 1) := by decide +kernel
theorem d_FG_road_62 : decode M_FG_road.2.1 62 = .ok (.iadd, 1) := by decide +kernel
theorem d_FG_road_63 : decode M_FG_road.2.1 63 = .ok (.iload_n 3, 1) := by decide +kernel
theorem d_FG_road_64 : decode M_FG_road.2.1 64 = .ok (.iastore, 1) := by decide +kernel
theorem d_FG_road_65 : decode M_FG_road.2.1 65 = .ok (.aload_n 0, 1) := by decide +kernel
theorem d_FG_road_66 : decode M_FG_road.2.1 66 = .ok (.getfield 10, 3) := by decide +kernel
theorem d_FG_road_69 : decode M_FG_road.2.1 69 = .ok (.getfield 65, 3) := by decide +kernel
theorem d_FG_road_72 : decode M_FG_road.2.1 72 = .ok (.iload_n 2, 1) := by decide +kernel
theorem d_FG_road_73 : decode M_FG_road.2.1 73 = .ok (.bipush 6, 2) := by decide +kernel
theorem d_FG_road_75 : decode M_FG_road.2.1 75 = .ok (.imul, 1) := by decide +kernel
theorem d_FG_road_76 : decode M_FG_road.2.1 76 = .ok (.iload_n 1, 1) := by decide +kernel
theorem d_FG_road_77 : decode M_FG_road.2.1 77 = .ok (.iadd, 1) := by decide +kernel
theorem d_FG_road_78 : decode M_FG_road.2.1 78 = .ok (.iload_n 3, 1) := by decide +kernel
theorem d_FG_road_79 : decode M_FG_road.2.1 79 = .ok (.iastore, 1) := by decide +kernel
theorem d_FG_road_80 : decode M_FG_road.2.1 80 = .ok (.iload 4, 2) := by decide +kernel
theorem d_FG_road_82 : decode M_FG_road.2.1 82 = .ok (.ireturn, 1) := by decide +kernel
set_option maxHeartbeats 4000000 in
set_option maxRecDepth 100000 in
theorem ok_FG_road {D : xD} {N : Nat} {l : Launch} {d : Nat} {c x V : T2} {P : Nat → Int32} {ln df : Nat → Option Nat} {rest : List va_E} {K : Option Value → List va_E → Prop} {a : Int32} {b : Int32} {n : Int32}   (hK : K (some (.int (sp_road c a b n).1)) (encC D N (sp_road c a b n).2 x (va_up V 0 P) ln df ++ rest)) : Ok D N l (d + 2) M_FG_road [.ref (N + 0), .int a, .int b, .int n] (encC D N c x (va_up V 0 P) ln df ++ rest) 0 0 K := by
  refine ok_of (L := [(0, _), (1, _), (2, _), (3, _)]) (by decide) (Nat.le_of_ble_eq_true rfl) rfl ?_
  refine wp_iload_n (q := 1) d_FG_road_0 rfl rfl ?_
  refine wp_cs1 (q := 4) lk_FG_57 (ro _ _ _) d_FG_road_1 rfl (Nat.le_of_ble_eq_true rfl) (Nat.zero_le _) (Nat.zero_le _) ?_
  refine ok_FG_isStage (fun a1 ha1 e => ?_) (fun ha1 => ?_)
  · subst e
    refine wp_if_eq_f (q := 7) (tgt := 14) d_FG_road_4 (by decide) rfl (by decide) ?_
    refine wp_iload_n (q := 8) d_FG_road_7 rfl rfl ?_
    refine wp_cs1 (q := 11) lk_FG_57 (ro _ _ _) d_FG_road_8 rfl (Nat.le_of_ble_eq_true rfl) (Nat.zero_le _) (Nat.zero_le _) ?_
    refine ok_FG_isStage (fun b1 hb1 e => ?_) (fun hb1 => ?_)
    · subst e
      refine wp_if_ne_t (tgt := 16) d_FG_road_11 (by decide) (by decide) ?_
      refine wp_iload_n (q := 17) d_FG_road_16 rfl rfl ?_
      refine wp_iload_n (q := 18) d_FG_road_17 rfl rfl ?_
      refine wp_icmp_eq (q := 21) (tgt := 31) d_FG_road_18 (by decide) rfl (fun hc_18 => ?_) (fun hc_18 => ?_)
      · refine wp_bipush (q := 33) d_FG_road_31 rfl bp_m2 ?_
        refine wp_iret d_FG_road_33 rfl (Nat.le_refl _) (Nat.le_refl _) ?_
        simp only [sp_road, inn, inb, inm, btw, inn_t ha1, tnl ha1, inn_t hb1, tnl hb1, hc_18, not_true_eq_false, not_false_eq_true, or_false, false_or, or_true, true_or, and_true, true_and, and_false, false_and, or_self, and_self, if_true, if_false, ite_true, ite_false, eq_self] at hK
        first | exact hK | (simp (disch := omega) only [tput_eq, tput2, tput_ne, upd_eq, upd_ne, ne_eq, va_upeq, va_upne, va_up2, not_true_eq_false, not_false_eq_true, or_false, false_or, or_true, true_or, and_true, true_and, and_false, false_and, or_self, and_self, if_true, if_false, ite_true, ite_false, eq_self] at hK ⊢; exact hK) | (simp (disch := omega) only [tput_eq, tput2, tput_ne, upd_eq, upd_ne, ne_eq, va_upeq, va_upne, va_up2, not_true_eq_false, not_false_eq_true, or_false, false_or, or_true, true_or, and_true, true_and, and_false, false_and, or_self, and_self, if_true, if_false, ite_true, ite_false, eq_self]; exact hK) | (simp (disch := omega) only [tput_eq, tput2, tput_ne, upd_eq, upd_ne, ne_eq, va_upeq, va_upne, va_up2, not_true_eq_false, not_false_eq_true, or_false, false_or, or_true, true_or, and_true, true_and, and_false, false_and, or_self, and_self, if_true, if_false, ite_true, ite_false, eq_self] at hK; exact hK)
      · refine wp_iload_n (q := 22) d_FG_road_21 rfl rfl ?_
        refine wp_iconst (q := 23) d_FG_road_22 rfl ic_0 ?_
        refine wp_bipush (q := 25) d_FG_road_23 rfl bp_60 ?_
        refine wp_cs3 (q := 28) lk_FG_61 (ro _ _ _) d_FG_road_25 rfl (Nat.le_of_ble_eq_true rfl) (Nat.zero_le _) (Nat.zero_le _) ?_
        refine ok_FG_within0 (b := 60) (by decide) (fun n1 hn1 e => ?_) (fun hn1 => ?_)
        · subst e
          refine wp_if_ne_t (tgt := 34) d_FG_road_28 (by decide) (by decide) ?_
          refine wp_aload_n (q := 35) d_FG_road_34 rfl rfl ?_
          refine wp_get (q := 38) fl_FG_10 d_FG_road_35 rfl rfl rfl ?_
          refine wp_get (q := 41) fl_FG_65 d_FG_road_38 rfl rfl rfl ?_
          refine wp_iload_n (q := 42) d_FG_road_41 rfl rfl ?_
          refine wp_bipush (q := 44) d_FG_road_42 rfl bp_6 ?_
          first | refine wp_imulC (q := 45) d_FG_road_44 rfl ?_ | refine wp_imul (q := 45) d_FG_road_44 rfl ?_
          refine wp_iload_n (q := 46) d_FG_road_45 rfl rfl ?_
          first | refine wp_iaddN (q := 47) d_FG_road_46 rfl ?_ | refine wp_iadd (q := 47) d_FG_road_46 rfl ?_
          refine wp_iald (q := 48) d_FG_road_47 rfl (rfl) (by omega) (by decide) ?_
          refine wp_istore (q := 50) (L2 := [(4, _), (0, _), (1, _), (2, _), (3, _)]) d_FG_road_48 rfl (by decide) rfl ?_
          refine wp_aload_n (q := 51) d_FG_road_50 rfl rfl ?_
          refine wp_get (q := 54) fl_FG_10 d_FG_road_51 rfl rfl rfl ?_
          refine wp_get (q := 57) fl_FG_65 d_FG_road_54 rfl rfl rfl ?_
          refine wp_iload_n (q := 58) d_FG_road_57 rfl rfl ?_
          refine wp_bipush (q := 60) d_FG_road_58 rfl bp_6 ?_
          first | refine wp_imulC (q := 61) d_FG_road_60 rfl ?_ | refine wp_imul (q := 61) d_FG_road_60 rfl ?_
          refine wp_iload_n (q := 62) d_FG_road_61 rfl rfl ?_
          first | refine wp_iaddN (q := 63) d_FG_road_62 rfl ?_ | refine wp_iadd (q := 63) d_FG_road_62 rfl ?_
          refine wp_iload_n (q := 64) d_FG_road_63 rfl rfl ?_
          refine wp_iast (q := 65) d_FG_road_64 rfl (rfl) (by omega) (by decide) (fc_2) ?_
          refine wp_aload_n (q := 66) d_FG_road_65 rfl rfl ?_
          refine wp_get (q := 69) fl_FG_10 d_FG_road_66 rfl rfl rfl ?_
          refine wp_get (q := 72) fl_FG_65 d_FG_road_69 rfl rfl rfl ?_
          refine wp_iload_n (q := 73) d_FG_road_72 rfl rfl ?_
          refine wp_bipush (q := 75) d_FG_road_73 rfl bp_6 ?_
          first | refine wp_imulC (q := 76) d_FG_road_75 rfl ?_ | refine wp_imul (q := 76) d_FG_road_75 rfl ?_
          refine wp_iload_n (q := 77) d_FG_road_76 rfl rfl ?_
          first | refine wp_iaddN (q := 78) d_FG_road_77 rfl ?_ | refine wp_iadd (q := 78) d_FG_road_77 rfl ?_
          refine wp_iload_n (q := 79) d_FG_road_78 rfl rfl ?_
          refine wp_iast (q := 80) d_FG_road_79 rfl (rfl) (by omega) (by decide) (fc_2) ?_
          refine wp_iload (q := 82) d_FG_road_80 rfl rfl ?_
          refine wp_iret d_FG_road_82 rfl (Nat.le_refl _) (Nat.le_refl _) ?_
          simp only [sp_road, inn, inb, inm, btw, inn_t ha1, tnl ha1, inn_t hb1, tnl hb1, hc_18, inn_t hn1, tnl hn1, not_true_eq_false, not_false_eq_true, or_false, false_or, or_true, true_or, and_true, true_and, and_false, false_and, or_self, and_self, if_true, if_false, ite_true, ite_false, eq_self] at hK
          first | exact hK | (simp (disch := omega) only [tput_eq, tput2, tput_ne, upd_eq, upd_ne, ne_eq, va_upeq, va_upne, va_up2, not_true_eq_false, not_false_eq_true, or_false, false_or, or_true, true_or, and_true, true_and, and_false, false_and, or_self, and_self, if_true, if_false, ite_true, ite_false, eq_self] at hK ⊢; exact hK) | (simp (disch := omega) only [tput_eq, tput2, tput_ne, upd_eq, upd_ne, ne_eq, va_upeq, va_upne, va_up2, not_true_eq_false, not_false_eq_true, or_false, false_or, or_true, true_or, and_true, true_and, and_false, false_and, or_self, and_self, if_true, if_false, ite_true, ite_false, eq_self]; exact hK) | (simp (disch := omega) only [tput_eq, tput2, tput_ne, upd_eq, upd_ne, ne_eq, va_upeq, va_upne, va_up2, not_true_eq_false, not_false_eq_true, or_false, false_or, or_true, true_or, and_true, true_and, and_false, false_and, or_self, and_self, if_true, if_false, ite_true, ite_false, eq_self] at hK; exact hK)
        · refine wp_if_ne_f (q := 31) (tgt := 34) d_FG_road_28 (by decide) rfl (by decide) ?_
          refine wp_bipush (q := 33) d_FG_road_31 rfl bp_m2 ?_
          refine wp_iret d_FG_road_33 rfl (Nat.le_refl _) (Nat.le_refl _) ?_
          simp only [sp_road, inn, inb, inm, btw, inn_t ha1, tnl ha1, inn_t hb1, tnl hb1, hc_18, hn1, not_true_eq_false, not_false_eq_true, or_false, false_or, or_true, true_or, and_true, true_and, and_false, false_and, or_self, and_self, if_true, if_false, ite_true, ite_false, eq_self] at hK
          first | exact hK | (simp (disch := omega) only [tput_eq, tput2, tput_ne, upd_eq, upd_ne, ne_eq, va_upeq, va_upne, va_up2, not_true_eq_false, not_false_eq_true, or_false, false_or, or_true, true_or, and_true, true_and, and_false, false_and, or_self, and_self, if_true, if_false, ite_true, ite_false, eq_self] at hK ⊢; exact hK) | (simp (disch := omega) only [tput_eq, tput2, tput_ne, upd_eq, upd_ne, ne_eq, va_upeq, va_upne, va_up2, not_true_eq_false, not_false_eq_true, or_false, false_or, or_true, true_or, and_true, true_and, and_false, false_and, or_self, and_self, if_true, if_false, ite_true, ite_false, eq_self]; exact hK) | (simp (disch := omega) only [tput_eq, tput2, tput_ne, upd_eq, upd_ne, ne_eq, va_upeq, va_upne, va_up2, not_true_eq_false, not_false_eq_true, or_false, false_or, or_true, true_or, and_true, true_and, and_false, false_and, or_self, and_self, if_true, if_false, ite_true, ite_false, eq_self] at hK; exact hK)
    · refine wp_if_ne_f (q := 14) (tgt := 16) d_FG_road_11 (by decide) rfl (by decide) ?_
      refine wp_iconst (q := 15) d_FG_road_14 rfl ic_m1 ?_
      refine wp_iret d_FG_road_15 rfl (Nat.le_refl _) (Nat.le_refl _) ?_
      simp only [sp_road, inn, inb, inm, btw, inn_t ha1, tnl ha1, hb1, not_true_eq_false, not_false_eq_true, or_false, false_or, or_true, true_or, and_true, true_and, and_false, false_and, or_self, and_self, if_true, if_false, ite_true, ite_false, eq_self] at hK
      first | exact hK | (simp (disch := omega) only [tput_eq, tput2, tput_ne, upd_eq, upd_ne, ne_eq, va_upeq, va_upne, va_up2, not_true_eq_false, not_false_eq_true, or_false, false_or, or_true, true_or, and_true, true_and, and_false, false_and, or_self, and_self, if_true, if_false, ite_true, ite_false, eq_self] at hK ⊢; exact hK) | (simp (disch := omega) only [tput_eq, tput2, tput_ne, upd_eq, upd_ne, ne_eq, va_upeq, va_upne, va_up2, not_true_eq_false, not_false_eq_true, or_false, false_or, or_true, true_or, and_true, true_and, and_false, false_and, or_self, and_self, if_true, if_false, ite_true, ite_false, eq_self]; exact hK) | (simp (disch := omega) only [tput_eq, tput2, tput_ne, upd_eq, upd_ne, ne_eq, va_upeq, va_upne, va_up2, not_true_eq_false, not_false_eq_true, or_false, false_or, or_true, true_or, and_true, true_and, and_false, false_and, or_self, and_self, if_true, if_false, ite_true, ite_false, eq_self] at hK; exact hK)
  · refine wp_if_eq_t (tgt := 14) d_FG_road_4 (by decide) (by decide) ?_
    refine wp_iconst (q := 15) d_FG_road_14 rfl ic_m1 ?_
    refine wp_iret d_FG_road_15 rfl (Nat.le_refl _) (Nat.le_refl _) ?_
    simp only [sp_road, inn, inb, inm, btw, ha1, not_true_eq_false, not_false_eq_true, or_false, false_or, or_true, true_or, and_true, true_and, and_false, false_and, or_self, and_self, if_true, if_false, ite_true, ite_false, eq_self] at hK
    first | exact hK | (simp (disch := omega) only [tput_eq, tput2, tput_ne, upd_eq, upd_ne, ne_eq, va_upeq, va_upne, va_up2, not_true_eq_false, not_false_eq_true, or_false, false_or, or_true, true_or, and_true, true_and, and_false, false_and, or_self, and_self, if_true, if_false, ite_true, ite_false, eq_self] at hK ⊢; exact hK) | (simp (disch := omega) only [tput_eq, tput2, tput_ne, upd_eq, upd_ne, ne_eq, va_upeq, va_upne, va_up2, not_true_eq_false, not_false_eq_true, or_false, false_or, or_true, true_or, and_true, true_and, and_false, false_and, or_self, and_self, if_true, if_false, ite_true, ite_false, eq_self]; exact hK) | (simp (disch := omega) only [tput_eq, tput2, tput_ne, upd_eq, upd_ne, ne_eq, va_upeq, va_upne, va_up2, not_true_eq_false, not_false_eq_true, or_false, false_or, or_true, true_or, and_true, true_and, and_false, false_and, or_self, and_self, if_true, if_false, ite_true, ite_false, eq_self] at hK; exact hK)
theorem d_Rf_road_0 : decode M_Rf_road.2.1 0 = .ok (.iload_n 1, 1) := by decide +kernel
theorem d_Rf_road_1 : decode M_Rf_road.2.1 1 = .ok (.invokestatic 163, 3) := by decide +kernel
theorem d_Rf_road_4 : decode M_Rf_road.2.1 4 = .ok (.ifCond .eq 10, 3) := by decide +kernel
theorem d_Rf_road_7 : decode M_Rf_road.2.1 7 = .ok (.iload_n 2, 1) := by decide +kernel
theorem d_Rf_road_8 : decode M_Rf_road.2.1 8 = .ok (.invokestatic 163, 3) := by decide +kernel
theorem d_Rf_road_11 : decode M_Rf_road.2.1 11 = .ok (.ifCond .ne 5, 3) := by decide +kernel
theorem d_Rf_road_14 : decode M_Rf_road.2.1 14 = .ok (.iconst (-1), 1) := by decide +kernel
theorem d_Rf_road_15 : decode M_Rf_road.2.1 15 = .ok (.ireturn, 1) := by decide +kernel
theorem d_Rf_road_16 : decode M_Rf_road.2.1 16 = .ok (.iload_n 1, 1) := by decide +kernel
theorem d_Rf_road_17 : decode M_Rf_road.2.1 17 = .ok (.iload_n 2, 1) := by decide +kernel
theorem d_Rf_road_18 : decode M_Rf_road.2.1 18 = .ok (.if_icmp .eq 13, 3) := by decide +kernel
theorem d_Rf_road_21 : decode M_Rf_road.2.1 21 = .ok (.iload_n 3, 1) := by decide +kernel
theorem d_Rf_road_22 : decode M_Rf_road.2.1 22 = .ok (.iconst 0, 1) := by decide +kernel
theorem d_Rf_road_23 : decode M_Rf_road.2.1 23 = .ok (.bipush 60, 2) := by decide +kernel
theorem d_Rf_road_25 : decode M_Rf_road.2.1 25 = .ok (.invokestatic 151, 3) := by decide +kernel
theorem d_Rf_road_28 : decode M_Rf_road.2.1 28 = .ok (.ifCond .ne 6, 3) := by decide +kernel
theorem d_Rf_road_31 : decode M_Rf_road.2.1 31 = .ok (.bipush (-2), 2) := by decide +kernel
theorem d_Rf_road_33 : decode M_Rf_road.2.1 33 = .ok (.ireturn, 1) := by decide +kernel
theorem d_Rf_road_34 : decode M_Rf_road.2.1 34 = .ok (.aload_n 0, 1) := by decide +kernel
theorem d_Rf_road_35 : decode M_Rf_road.2.1 35 = .ok (.getfield 19, 3) := by decide +kernel
theorem d_Rf_road_38 : decode M_Rf_road.2.1 38 = .ok (.bipush 6, 2) := by decide +kernel
theorem d_Rf_road_40 : decode M_Rf_road.2.1 40 = .ok (.iload_n 1, 1) := by decide +kernel
theorem d_Rf_road_41 : decode M_Rf_road.2.1 41 = .ok (.imul, 1) := by decide +kernel
theorem d_Rf_road_42 : decode M_Rf_road.2.1 42 = .ok (.iload_n 2, 1) := by decide +kernel
theorem d_Rf_road_43 : decode M_Rf_road.2.1 43 = .ok (.iadd, 1) := by decide +kernel
theorem d_Rf_road_44 : decode M_Rf_road.2.1 44 = .ok (.iaload, 1) := by decide +kernel
theorem d_Rf_road_45 : decode M_Rf_road.2.1 45 = .ok (.istore 4, 2) := by decide +kernel
theorem d_Rf_road_47 : decode M_Rf_road.2.1 47 = .ok (.aload_n 0, 1) := by decide +kernel
theorem d_Rf_road_48 : decode M_Rf_road.2.1 48 = .ok (.getfield 19, 3) := by decide +kernel
theorem d_Rf_road_51 : decode M_Rf_road.2.1 51 = .ok (.bipush 6, 2) := by decide +kernel
theorem d_Rf_road_53 : decode M_Rf_road.2.1 53 = .ok (.iload_n 1, 1) := by decide +kernel
theorem d_Rf_road_54 : decode M_Rf_road.2.1 54 = .ok (.imul, 1) := by decide +kernel
theorem d_Rf_road_55 : decode M_Rf_road.2.1 55 = .ok (.iload_n 2, 1) := by decide +kernel
theorem d_Rf_road_56 : decode M_Rf_road.2.1 56 = .ok (.iadd, 1) := by decide +kernel
theorem d_Rf_road_57 : decode M_Rf_road.2.1 57 = .ok (.iload_n 3, 1) := by decide +kernel
theorem d_Rf_road_58 : decode M_Rf_road.2.1 58 = .ok (.iastore, 1) := by decide +kernel
theorem d_Rf_road_59 : decode M_Rf_road.2.1 59 = .ok (.aload_n 0, 1) := by decide +kernel
theorem d_Rf_road_60 : decode M_Rf_road.2.1 60 = .ok (.getfield 19, 3) := by decide +kernel
theorem d_Rf_road_63 : decode M_Rf_road.2.1 63 = .ok (.bipush 6, 2) := by decide +kernel
theorem d_Rf_road_65 : decode M_Rf_road.2.1 65 = .ok (.iload_n 2, 1) := by decide +kernel
theorem d_Rf_road_66 : decode M_Rf_road.2.1 66 = .ok (.imul, 1) := by decide +kernel
theorem d_Rf_road_67 : decode M_Rf_road.2.1 67 = .ok (.iload_n 1, 1) := by decide +kernel
theorem d_Rf_road_68 : decode M_Rf_road.2.1 68 = .ok (.iadd, 1) := by decide +kernel
theorem d_Rf_road_69 : decode M_Rf_road.2.1 69 = .ok (.iload_n 3, 1) := by decide +kernel
theorem d_Rf_road_70 : decode M_Rf_road.2.1 70 = .ok (.iastore, 1) := by decide +kernel
theorem d_Rf_road_71 : decode M_Rf_road.2.1 71 = .ok (.iload 4, 2) := by decide +kernel
theorem d_Rf_road_73 : decode M_Rf_road.2.1 73 = .ok (.ireturn, 1) := by decide +kernel
set_option maxHeartbeats 4000000 in
set_option maxRecDepth 100000 in
theorem ok_Rf_road {D : xD} {N : Nat} {l : Launch} {d : Nat} {c z : T2} {P Q : Nat → Int32} {rest : List va_E} {K : Option Value → List va_E → Prop} {a : Int32} {b : Int32} {n : Int32}   (hK : K (some (.int (sp_road c a b n).1)) (encR D N (sp_road c a b n).2 z P Q ++ rest)) : Ok D N l (d + 2) M_Rf_road [.ref (N + 0), .int a, .int b, .int n] (encR D N c z P Q ++ rest) 0 0 K := by
  refine ok_of (L := [(0, _), (1, _), (2, _), (3, _)]) (by decide) (Nat.le_of_ble_eq_true rfl) rfl ?_
  refine wp_iload_n (q := 1) d_Rf_road_0 rfl rfl ?_
  refine wp_cs1 (q := 4) lk_Rf_163 (ro _ _ _) d_Rf_road_1 rfl (Nat.le_of_ble_eq_true rfl) (Nat.zero_le _) (Nat.zero_le _) ?_
  refine ok_Rf_isStage (fun a1 ha1 e => ?_) (fun ha1 => ?_)
  · subst e
    refine wp_if_eq_f (q := 7) (tgt := 14) d_Rf_road_4 (by decide) rfl (by decide) ?_
    refine wp_iload_n (q := 8) d_Rf_road_7 rfl rfl ?_
    refine wp_cs1 (q := 11) lk_Rf_163 (ro _ _ _) d_Rf_road_8 rfl (Nat.le_of_ble_eq_true rfl) (Nat.zero_le _) (Nat.zero_le _) ?_
    refine ok_Rf_isStage (fun b1 hb1 e => ?_) (fun hb1 => ?_)
    · subst e
      refine wp_if_ne_t (tgt := 16) d_Rf_road_11 (by decide) (by decide) ?_
      refine wp_iload_n (q := 17) d_Rf_road_16 rfl rfl ?_
      refine wp_iload_n (q := 18) d_Rf_road_17 rfl rfl ?_
      refine wp_icmp_eq (q := 21) (tgt := 31) d_Rf_road_18 (by decide) rfl (fun hc_18 => ?_) (fun hc_18 => ?_)
      · refine wp_bipush (q := 33) d_Rf_road_31 rfl bp_m2 ?_
        refine wp_iret d_Rf_road_33 rfl (Nat.le_refl _) (Nat.le_refl _) ?_
        simp only [sp_road, inn, inb, inm, btw, inn_t ha1, tnl ha1, inn_t hb1, tnl hb1, hc_18, not_true_eq_false, not_false_eq_true, or_false, false_or, or_true, true_or, and_true, true_and, and_false, false_and, or_self, and_self, if_true, if_false, ite_true, ite_false, eq_self] at hK
        first | exact hK | (simp (disch := omega) only [tput_eq, tput2, tput_ne, upd_eq, upd_ne, ne_eq, va_upeq, va_upne, va_up2, not_true_eq_false, not_false_eq_true, or_false, false_or, or_true, true_or, and_true, true_and, and_false, false_and, or_self, and_self, if_true, if_false, ite_true, ite_false, eq_self] at hK ⊢; exact hK) | (simp (disch := omega) only [tput_eq, tput2, tput_ne, upd_eq, upd_ne, ne_eq, va_upeq, va_upne, va_up2, not_true_eq_false, not_false_eq_true, or_false, false_or, or_true, true_or, and_true, true_and, and_false, false_and, or_self, and_self, if_true, if_false, ite_true, ite_false, eq_self]; exact hK) | (simp (disch := omega) only [tput_eq, tput2, tput_ne, upd_eq, upd_ne, ne_eq, va_upeq, va_upne, va_up2, not_true_eq_false, not_false_eq_true, or_false, false_or, or_true, true_or, and_true, true_and, and_false, false_and, or_self, and_self, if_true, if_false, ite_true, ite_false, eq_self] at hK; exact hK)
      · refine wp_iload_n (q := 22) d_Rf_road_21 rfl rfl ?_
        refine wp_iconst (q := 23) d_Rf_road_22 rfl ic_0 ?_
        refine wp_bipush (q := 25) d_Rf_road_23 rfl bp_60 ?_
        refine wp_cs3 (q := 28) lk_Rf_151 (ro _ _ _) d_Rf_road_25 rfl (Nat.le_of_ble_eq_true rfl) (Nat.zero_le _) (Nat.zero_le _) ?_
        refine ok_Rf_in0 (b := 60) (by decide) (fun n1 hn1 e => ?_) (fun hn1 => ?_)
        · subst e
          refine wp_if_ne_t (tgt := 34) d_Rf_road_28 (by decide) (by decide) ?_
          refine wp_aload_n (q := 35) d_Rf_road_34 rfl rfl ?_
          refine wp_get (q := 38) fl_Rf_19 d_Rf_road_35 rfl rfl rfl ?_
          refine wp_bipush (q := 40) d_Rf_road_38 rfl bp_6 ?_
          refine wp_iload_n (q := 41) d_Rf_road_40 rfl rfl ?_
          first | refine wp_imulN (q := 42) d_Rf_road_41 rfl ?_ | refine wp_imul (q := 42) d_Rf_road_41 rfl ?_
          refine wp_iload_n (q := 43) d_Rf_road_42 rfl rfl ?_
          first | refine wp_iaddN (q := 44) d_Rf_road_43 rfl ?_ | refine wp_iadd (q := 44) d_Rf_road_43 rfl ?_
          refine wp_iald (q := 45) d_Rf_road_44 rfl (rfl) (by omega) (by decide) ?_
          refine wp_istore (q := 47) (L2 := [(4, _), (0, _), (1, _), (2, _), (3, _)]) d_Rf_road_45 rfl (by decide) rfl ?_
          refine wp_aload_n (q := 48) d_Rf_road_47 rfl rfl ?_
          refine wp_get (q := 51) fl_Rf_19 d_Rf_road_48 rfl rfl rfl ?_
          refine wp_bipush (q := 53) d_Rf_road_51 rfl bp_6 ?_
          refine wp_iload_n (q := 54) d_Rf_road_53 rfl rfl ?_
          first | refine wp_imulN (q := 55) d_Rf_road_54 rfl ?_ | refine wp_imul (q := 55) d_Rf_road_54 rfl ?_
          refine wp_iload_n (q := 56) d_Rf_road_55 rfl rfl ?_
          first | refine wp_iaddN (q := 57) d_Rf_road_56 rfl ?_ | refine wp_iadd (q := 57) d_Rf_road_56 rfl ?_
          refine wp_iload_n (q := 58) d_Rf_road_57 rfl rfl ?_
          refine wp_iast (q := 59) d_Rf_road_58 rfl (rfl) (by omega) (by decide) (fr_4) ?_
          refine wp_aload_n (q := 60) d_Rf_road_59 rfl rfl ?_
          refine wp_get (q := 63) fl_Rf_19 d_Rf_road_60 rfl rfl rfl ?_
          refine wp_bipush (q := 65) d_Rf_road_63 rfl bp_6 ?_
          refine wp_iload_n (q := 66) d_Rf_road_65 rfl rfl ?_
          first | refine wp_imulN (q := 67) d_Rf_road_66 rfl ?_ | refine wp_imul (q := 67) d_Rf_road_66 rfl ?_
          refine wp_iload_n (q := 68) d_Rf_road_67 rfl rfl ?_
          first | refine wp_iaddN (q := 69) d_Rf_road_68 rfl ?_ | refine wp_iadd (q := 69) d_Rf_road_68 rfl ?_
          refine wp_iload_n (q := 70) d_Rf_road_69 rfl rfl ?_
          refine wp_iast (q := 71) d_Rf_road_70 rfl (rfl) (by omega) (by decide) (fr_4) ?_
          refine wp_iload (q := 73) d_Rf_road_71 rfl rfl ?_
          refine wp_iret d_Rf_road_73 rfl (Nat.le_refl _) (Nat.le_refl _) ?_
          simp only [sp_road, inn, inb, inm, btw, inn_t ha1, tnl ha1, inn_t hb1, tnl hb1, hc_18, inn_t hn1, tnl hn1, not_true_eq_false, not_false_eq_true, or_false, false_or, or_true, true_or, and_true, true_and, and_false, false_and, or_self, and_self, if_true, if_false, ite_true, ite_false, eq_self] at hK
          first | exact hK | (simp (disch := omega) only [tput_eq, tput2, tput_ne, upd_eq, upd_ne, ne_eq, va_upeq, va_upne, va_up2, not_true_eq_false, not_false_eq_true, or_false, false_or, or_true, true_or, and_true, true_and, and_false, false_and, or_self, and_self, if_true, if_false, ite_true, ite_false, eq_self] at hK ⊢; exact hK) | (simp (disch := omega) only [tput_eq, tput2, tput_ne, upd_eq, upd_ne, ne_eq, va_upeq, va_upne, va_up2, not_true_eq_false, not_false_eq_true, or_false, false_or, or_true, true_or, and_true, true_and, and_false, false_and, or_self, and_self, if_true, if_false, ite_true, ite_false, eq_self]; exact hK) | (simp (disch := omega) only [tput_eq, tput2, tput_ne, upd_eq, upd_ne, ne_eq, va_upeq, va_upne, va_up2, not_true_eq_false, not_false_eq_true, or_false, false_or, or_true, true_or, and_true, true_and, and_false, false_and, or_self, and_self, if_true, if_false, ite_true, ite_false, eq_self] at hK; exact hK)
        · refine wp_if_ne_f (q := 31) (tgt := 34) d_Rf_road_28 (by decide) rfl (by decide) ?_
          refine wp_bipush (q := 33) d_Rf_road_31 rfl bp_m2 ?_
          refine wp_iret d_Rf_road_33 rfl (Nat.le_refl _) (Nat.le_refl _) ?_
          simp only [sp_road, inn, inb, inm, btw, inn_t ha1, tnl ha1, inn_t hb1, tnl hb1, hc_18, hn1, not_true_eq_false, not_false_eq_true, or_false, false_or, or_true, true_or, and_true, true_and, and_false, false_and, or_self, and_self, if_true, if_false, ite_true, ite_false, eq_self] at hK
          first | exact hK | (simp (disch := omega) only [tput_eq, tput2, tput_ne, upd_eq, upd_ne, ne_eq, va_upeq, va_upne, va_up2, not_true_eq_false, not_false_eq_true, or_false, false_or, or_true, true_or, and_true, true_and, and_false, false_and, or_self, and_self, if_true, if_false, ite_true, ite_false, eq_self] at hK ⊢; exact hK) | (simp (disch := omega) only [tput_eq, tput2, tput_ne, upd_eq, upd_ne, ne_eq, va_upeq, va_upne, va_up2, not_true_eq_false, not_false_eq_true, or_false, false_or, or_true, true_or, and_true, true_and, and_false, false_and, or_self, and_self, if_true, if_false, ite_true, ite_false, eq_self]; exact hK) | (simp (disch := omega) only [tput_eq, tput2, tput_ne, upd_eq, upd_ne, ne_eq, va_upeq, va_upne, va_up2, not_true_eq_false, not_false_eq_true, or_false, false_or, or_true, true_or, and_true, true_and, and_false, false_and, or_self, and_self, if_true, if_false, ite_true, ite_false, eq_self] at hK; exact hK)
    · refine wp_if_ne_f (q := 14) (tgt := 16) d_Rf_road_11 (by decide) rfl (by decide) ?_
      refine wp_iconst (q := 15) d_Rf_road_14 rfl ic_m1 ?_
      refine wp_iret d_Rf_road_15 rfl (Nat.le_refl _) (Nat.le_refl _) ?_
      simp only [sp_road, inn, inb, inm, btw, inn_t ha1, tnl ha1, hb1, not_true_eq_false, not_false_eq_true, or_false, false_or, or_true, true_or, and_true, true_and, and_false, false_and, or_self, and_self, if_true, if_false, ite_true, ite_false, eq_self] at hK
      first | exact hK | (simp (disch := omega) only [tput_eq, tput2, tput_ne, upd_eq, upd_ne, ne_eq, va_upeq, va_upne, va_up2, not_true_eq_false, not_false_eq_true, or_false, false_or, or_true, true_or, and_true, true_and, and_false, false_and, or_self, and_self, if_true, if_false, ite_true, ite_false, eq_self] at hK ⊢; exact hK) | (simp (disch := omega) only [tput_eq, tput2, tput_ne, upd_eq, upd_ne, ne_eq, va_upeq, va_upne, va_up2, not_true_eq_false, not_false_eq_true, or_false, false_or, or_true, true_or, and_true, true_and, and_false, false_and, or_self, and_self, if_true, if_false, ite_true, ite_false, eq_self]; exact hK) | (simp (disch := omega) only [tput_eq, tput2, tput_ne, upd_eq, upd_ne, ne_eq, va_upeq, va_upne, va_up2, not_true_eq_false, not_false_eq_true, or_false, false_or, or_true, true_or, and_true, true_and, and_false, false_and, or_self, and_self, if_true, if_false, ite_true, ite_false, eq_self] at hK; exact hK)
  · refine wp_if_eq_t (tgt := 14) d_Rf_road_4 (by decide) (by decide) ?_
    refine wp_iconst (q := 15) d_Rf_road_14 rfl ic_m1 ?_
    refine wp_iret d_Rf_road_15 rfl (Nat.le_refl _) (Nat.le_refl _) ?_
    simp only [sp_road, inn, inb, inm, btw, ha1, not_true_eq_false, not_false_eq_true, or_false, false_or, or_true, true_or, and_true, true_and, and_false, false_and, or_self, and_self, if_true, if_false, ite_true, ite_false, eq_self] at hK
    first | exact hK | (simp (disch := omega) only [tput_eq, tput2, tput_ne, upd_eq, upd_ne, ne_eq, va_upeq, va_upne, va_up2, not_true_eq_false, not_false_eq_true, or_false, false_or, or_true, true_or, and_true, true_and, and_false, false_and, or_self, and_self, if_true, if_false, ite_true, ite_false, eq_self] at hK ⊢; exact hK) | (simp (disch := omega) only [tput_eq, tput2, tput_ne, upd_eq, upd_ne, ne_eq, va_upeq, va_upne, va_up2, not_true_eq_false, not_false_eq_true, or_false, false_or, or_true, true_or, and_true, true_and, and_false, false_and, or_self, and_self, if_true, if_false, ite_true, ite_false, eq_self]; exact hK) | (simp (disch := omega) only [tput_eq, tput2, tput_ne, upd_eq, upd_ne, ne_eq, va_upeq, va_upne, va_up2, not_true_eq_false, not_false_eq_true, or_false, false_or, or_true, true_or, and_true, true_and, and_false, false_and, or_self, and_self, if_true, if_false, ite_true, ite_false, eq_self] at hK; exact hK)
def sp_jam (c : T2) (h t : Int32) : Int32 × T2 := if ¬ inn h 23 ∨ ¬ btw (nI 1) t (nI 50) then (-2, c) else (c 4 (tn h), tput c 4 (upd (c 4) (tn h) t))
theorem d_FG_jam_0 : decode M_FG_jam.2.1 0 = .ok (.iload_n 1, 1) := by decide +kernel
theorem d_FG_jam_1 : decode M_FG_jam.2.1 1 = .ok (.iconst 0, 1) := by decide +kernel
theorem d_FG_jam_2 : decode M_FG_jam.2.1 2 = .ok (.bipush 23, 2) := by decide +kernel
theorem d_FG_jam_4 : decode M_FG_jam.2.1 4 = .ok (.invokestatic 61, 3) := by decide +kernel
theorem d_FG_jam_7 : decode M_FG_jam.2.1 7 = .ok (.ifCond .eq 13, 3) := by decide +kernel
theorem d_FG_jam_10 : decode M_FG_jam.2.1 10 = .ok (.iload_n 2, 1) := by decide +kernel
theorem d_FG_jam_11 : decode M_FG_jam.2.1 11 = .ok (.iconst 1, 1) := by decide +kernel
theorem d_FG_jam_12 : decode M_FG_jam.2.1 12 = .ok (.bipush 50, 2) := by decide +kernel
theorem d_FG_jam_14 : decode M_FG_jam.2.1 14 = .ok (.invokestatic 61, 3) := by decide +kernel
theorem d_FG_jam_17 : decode M_FG_jam.2.1 17 = .ok (.ifCond .ne 6, 3) := by decide +kernel
theorem d_FG_jam_20 : decode M_FG_jam.2.1 20 = .ok (.bipush (-2), 2) := by decide +kernel
theorem d_FG_jam_22 : decode M_FG_jam.2.1 22 = .ok (.ireturn, 1) := by decide +kernel
theorem d_FG_jam_23 : decode M_FG_jam.2.1 23 = .ok (.aload_n 0, 1) := by decide +kernel
theorem d_FG_jam_24 : decode M_FG_jam.2.1 24 = .ok (.getfield 10, 3) := by decide +kernel
theorem d_FG_jam_27 : decode M_FG_jam.2.1 27 = .ok (.getfield 68, 3) := by decide +kernel
theorem d_FG_jam_30 : decode M_FG_jam.2.1 30 = .ok (.iload_n 1, 1) := by decide +kernel
theorem d_FG_jam_31 : decode M_FG_jam.2.1 31 = .ok (.iaload, 1) := by decide +kernel
theorem d_FG_jam_32 : decode M_FG_jam.2.1 32 = .ok (.istore_n 3, 1) := by decide +kernel
theorem d_FG_jam_33 : decode M_FG_jam.2.1 33 = .ok (.aload_n 0, 1) := by decide +kernel
theorem d_FG_jam_34 : decode M_FG_jam.2.1 34 = .ok (.getfield 10, 3) := by decide +kernel
theorem d_FG_jam_37 : decode M_FG_jam.2.1 37 = .ok (.getfield 68, 3) := by decide +kernel
theorem d_FG_jam_40 : decode M_FG_jam.2.1 40 = .ok (.iload_n 1, 1) := by decide +kernel
theorem d_FG_jam_41 : decode M_FG_jam.2.1 41 = .ok (.iload_n 2, 1) := by decide +kernel
theorem d_FG_jam_42 : decode M_FG_jam.2.1 42 = .ok (.iastore, 1) := by decide +kernel
theorem d_FG_jam_43 : decode M_FG_jam.2.1 43 = .ok (.iload_n 3, 1) := by decide +kernel
theorem d_FG_jam_44 : decode M_FG_jam.2.1 44 = .ok (.ireturn, 1) := by decide +kernel
set_option maxHeartbeats 4000000 in
set_option maxRecDepth 100000 in
theorem ok_FG_jam {D : xD} {N : Nat} {l : Launch} {d : Nat} {c x V : T2} {P : Nat → Int32} {ln df : Nat → Option Nat} {rest : List va_E} {K : Option Value → List va_E → Prop} {h : Int32} {t : Int32}   (hK : K (some (.int (sp_jam c h t).1)) (encC D N (sp_jam c h t).2 x (va_up V 0 P) ln df ++ rest)) : Ok D N l (d + 1) M_FG_jam [.ref (N + 0), .int h, .int t] (encC D N c x (va_up V 0 P) ln df ++ rest) 0 0 K := by
  refine ok_of (L := [(0, _), (1, _), (2, _)]) (by decide) (Nat.le_of_ble_eq_true rfl) rfl ?_
  refine wp_iload_n (q := 1) d_FG_jam_0 rfl rfl ?_
  refine wp_iconst (q := 2) d_FG_jam_1 rfl ic_0 ?_
  refine wp_bipush (q := 4) d_FG_jam_2 rfl bp_23 ?_
  refine wp_cs3 (q := 7) lk_FG_61 (ro _ _ _) d_FG_jam_4 rfl (Nat.le_of_ble_eq_true rfl) (Nat.zero_le _) (Nat.zero_le _) ?_
  refine ok_FG_within0 (b := 23) (by decide) (fun a1 ha1 e => ?_) (fun ha1 => ?_)
  · subst e
    refine wp_if_eq_f (q := 10) (tgt := 20) d_FG_jam_7 (by decide) rfl (by decide) ?_
    refine wp_iload_n (q := 11) d_FG_jam_10 rfl rfl ?_
    refine wp_iconst (q := 12) d_FG_jam_11 rfl ic_1 ?_
    refine wp_bipush (q := 14) d_FG_jam_12 rfl bp_50 ?_
    refine wp_cs3 (q := 17) lk_FG_61 (ro _ _ _) d_FG_jam_14 rfl (Nat.le_of_ble_eq_true rfl) (Nat.zero_le _) (Nat.zero_le _) ?_
    refine ok_FG_within (fun hb1a hb1b => ?_) (fun hb1 => ?_)
    · refine wp_if_ne_t (tgt := 23) d_FG_jam_17 (by decide) (by decide) ?_
      refine wp_aload_n (q := 24) d_FG_jam_23 rfl rfl ?_
      refine wp_get (q := 27) fl_FG_10 d_FG_jam_24 rfl rfl rfl ?_
      refine wp_get (q := 30) fl_FG_68 d_FG_jam_27 rfl rfl rfl ?_
      refine wp_iload_n (q := 31) d_FG_jam_30 rfl rfl ?_
      refine wp_iald (q := 32) d_FG_jam_31 rfl (rfl) (by omega) (by decide) ?_
      refine wp_istore_n (q := 33) (L2 := [(3, _), (0, _), (1, _), (2, _)]) d_FG_jam_32 rfl (by decide) rfl ?_
      refine wp_aload_n (q := 34) d_FG_jam_33 rfl rfl ?_
      refine wp_get (q := 37) fl_FG_10 d_FG_jam_34 rfl rfl rfl ?_
      refine wp_get (q := 40) fl_FG_68 d_FG_jam_37 rfl rfl rfl ?_
      refine wp_iload_n (q := 41) d_FG_jam_40 rfl rfl ?_
      refine wp_iload_n (q := 42) d_FG_jam_41 rfl rfl ?_
      refine wp_iast (q := 43) d_FG_jam_42 rfl (rfl) (by omega) (by decide) (fc_4) ?_
      refine wp_iload_n (q := 44) d_FG_jam_43 rfl rfl ?_
      refine wp_iret d_FG_jam_44 rfl (Nat.le_refl _) (Nat.le_refl _) ?_
      simp only [sp_jam, inn, inb, inm, btw, inn_t ha1, tnl ha1, hb1a, hb1b, not_true_eq_false, not_false_eq_true, or_false, false_or, or_true, true_or, and_true, true_and, and_false, false_and, or_self, and_self, if_true, if_false, ite_true, ite_false, eq_self] at hK
      first | exact hK | (simp (disch := omega) only [tput_eq, tput2, tput_ne, upd_eq, upd_ne, ne_eq, va_upeq, va_upne, va_up2, not_true_eq_false, not_false_eq_true, or_false, false_or, or_true, true_or, and_true, true_and, and_false, false_and, or_self, and_self, if_true, if_false, ite_true, ite_false, eq_self] at hK ⊢; exact hK) | (simp (disch := omega) only [tput_eq, tput2, tput_ne, upd_eq, upd_ne, ne_eq, va_upeq, va_upne, va_up2, not_true_eq_false, not_false_eq_true, or_false, false_or, or_true, true_or, and_true, true_and, and_false, false_and, or_self, and_self, if_true, if_false, ite_true, ite_false, eq_self]; exact hK) | (simp (disch := omega) only [tput_eq, tput2, tput_ne, upd_eq, upd_ne, ne_eq, va_upeq, va_upne, va_up2, not_true_eq_false, not_false_eq_true, or_false, false_or, or_true, true_or, and_true, true_and, and_false, false_and, or_self, and_self, if_true, if_false, ite_true, ite_false, eq_self] at hK; exact hK)
    · refine wp_if_ne_f (q := 20) (tgt := 23) d_FG_jam_17 (by decide) rfl (by decide) ?_
      refine wp_bipush (q := 22) d_FG_jam_20 rfl bp_m2 ?_
      refine wp_iret d_FG_jam_22 rfl (Nat.le_refl _) (Nat.le_refl _) ?_
      simp only [sp_jam, inn, inb, inm, btw, inn_t ha1, tnl ha1, hb1, not_true_eq_false, not_false_eq_true, or_false, false_or, or_true, true_or, and_true, true_and, and_false, false_and, or_self, and_self, if_true, if_false, ite_true, ite_false, eq_self] at hK
      first | exact hK | (simp (disch := omega) only [tput_eq, tput2, tput_ne, upd_eq, upd_ne, ne_eq, va_upeq, va_upne, va_up2, not_true_eq_false, not_false_eq_true, or_false, false_or, or_true, true_or, and_true, true_and, and_false, false_and, or_self, and_self, if_true, if_false, ite_true, ite_false, eq_self] at hK ⊢; exact hK) | (simp (disch := omega) only [tput_eq, tput2, tput_ne, upd_eq, upd_ne, ne_eq, va_upeq, va_upne, va_up2, not_true_eq_false, not_false_eq_true, or_false, false_or, or_true, true_or, and_true, true_and, and_false, false_and, or_self, and_self, if_true, if_false, ite_true, ite_false, eq_self]; exact hK) | (simp (disch := omega) only [tput_eq, tput2, tput_ne, upd_eq, upd_ne, ne_eq, va_upeq, va_upne, va_up2, not_true_eq_false, not_false_eq_true, or_false, false_or, or_true, true_or, and_true, true_and, and_false, false_and, or_self, and_self, if_true, if_false, ite_true, ite_false, eq_self] at hK; exact hK)
  · refine wp_if_eq_t (tgt := 20) d_FG_jam_7 (by decide) (by decide) ?_
    refine wp_bipush (q := 22) d_FG_jam_20 rfl bp_m2 ?_
    refine wp_iret d_FG_jam_22 rfl (Nat.le_refl _) (Nat.le_refl _) ?_
    simp only [sp_jam, inn, inb, inm, btw, ha1, not_true_eq_false, not_false_eq_true, or_false, false_or, or_true, true_or, and_true, true_and, and_false, false_and, or_self, and_self, if_true, if_false, ite_true, ite_false, eq_self] at hK
    first | exact hK | (simp (disch := omega) only [tput_eq, tput2, tput_ne, upd_eq, upd_ne, ne_eq, va_upeq, va_upne, va_up2, not_true_eq_false, not_false_eq_true, or_false, false_or, or_true, true_or, and_true, true_and, and_false, false_and, or_self, and_self, if_true, if_false, ite_true, ite_false, eq_self] at hK ⊢; exact hK) | (simp (disch := omega) only [tput_eq, tput2, tput_ne, upd_eq, upd_ne, ne_eq, va_upeq, va_upne, va_up2, not_true_eq_false, not_false_eq_true, or_false, false_or, or_true, true_or, and_true, true_and, and_false, false_and, or_self, and_self, if_true, if_false, ite_true, ite_false, eq_self]; exact hK) | (simp (disch := omega) only [tput_eq, tput2, tput_ne, upd_eq, upd_ne, ne_eq, va_upeq, va_upne, va_up2, not_true_eq_false, not_false_eq_true, or_false, false_or, or_true, true_or, and_true, true_and, and_false, false_and, or_self, and_self, if_true, if_false, ite_true, ite_false, eq_self] at hK; exact hK)
theorem d_Rf_jam_0 : decode M_Rf_jam.2.1 0 = .ok (.iload_n 1, 1) := by decide +kernel
theorem d_Rf_jam_1 : decode M_Rf_jam.2.1 1 = .ok (.iconst 0, 1) := by decide +kernel
theorem d_Rf_jam_2 : decode M_Rf_jam.2.1 2 = .ok (.bipush 23, 2) := by decide +kernel
theorem d_Rf_jam_4 : decode M_Rf_jam.2.1 4 = .ok (.invokestatic 151, 3) := by decide +kernel
theorem d_Rf_jam_7 : decode M_Rf_jam.2.1 7 = .ok (.ifCond .eq 13, 3) := by decide +kernel
theorem d_Rf_jam_10 : decode M_Rf_jam.2.1 10 = .ok (.iload_n 2, 1) := by decide +kernel
theorem d_Rf_jam_11 : decode M_Rf_jam.2.1 11 = .ok (.iconst 1, 1) := by decide +kernel
theorem d_Rf_jam_12 : decode M_Rf_jam.2.1 12 = .ok (.bipush 50, 2) := by decide +kernel
theorem d_Rf_jam_14 : decode M_Rf_jam.2.1 14 = .ok (.invokestatic 151, 3) := by decide +kernel
theorem d_Rf_jam_17 : decode M_Rf_jam.2.1 17 = .ok (.ifCond .ne 6, 3) := by decide +kernel
theorem d_Rf_jam_20 : decode M_Rf_jam.2.1 20 = .ok (.bipush (-2), 2) := by decide +kernel
theorem d_Rf_jam_22 : decode M_Rf_jam.2.1 22 = .ok (.ireturn, 1) := by decide +kernel
theorem d_Rf_jam_23 : decode M_Rf_jam.2.1 23 = .ok (.aload_n 0, 1) := by decide +kernel
theorem d_Rf_jam_24 : decode M_Rf_jam.2.1 24 = .ok (.getfield 25, 3) := by decide +kernel
theorem d_Rf_jam_27 : decode M_Rf_jam.2.1 27 = .ok (.iload_n 1, 1) := by decide +kernel
theorem d_Rf_jam_28 : decode M_Rf_jam.2.1 28 = .ok (.iaload, 1) := by decide +kernel
theorem d_Rf_jam_29 : decode M_Rf_jam.2.1 29 = .ok (.istore_n 3, 1) := by decide +kernel
theorem d_Rf_jam_30 : decode M_Rf_jam.2.1 30 = .ok (.aload_n 0, 1) := by decide +kernel
theorem d_Rf_jam_31 : decode M_Rf_jam.2.1 31 = .ok (.getfield 25, 3) := by decide +kernel
theorem d_Rf_jam_34 : decode M_Rf_jam.2.1 34 = .ok (.iload_n 1, 1) := by decide +kernel
theorem d_Rf_jam_35 : decode M_Rf_jam.2.1 35 = .ok (.iload_n 2, 1) := by decide +kernel
theorem d_Rf_jam_36 : decode M_Rf_jam.2.1 36 = .ok (.iastore, 1) := by decide +kernel
theorem d_Rf_jam_37 : decode M_Rf_jam.2.1 37 = .ok (.iload_n 3, 1) := by decide +kernel
theorem d_Rf_jam_38 : decode M_Rf_jam.2.1 38 = .ok (.ireturn, 1) := by decide +kernel
set_option maxHeartbeats 4000000 in
set_option maxRecDepth 100000 in
theorem ok_Rf_jam {D : xD} {N : Nat} {l : Launch} {d : Nat} {c z : T2} {P Q : Nat → Int32} {rest : List va_E} {K : Option Value → List va_E → Prop} {h : Int32} {t : Int32}   (hK : K (some (.int (sp_jam c h t).1)) (encR D N (sp_jam c h t).2 z P Q ++ rest)) : Ok D N l (d + 1) M_Rf_jam [.ref (N + 0), .int h, .int t] (encR D N c z P Q ++ rest) 0 0 K := by
  refine ok_of (L := [(0, _), (1, _), (2, _)]) (by decide) (Nat.le_of_ble_eq_true rfl) rfl ?_
  refine wp_iload_n (q := 1) d_Rf_jam_0 rfl rfl ?_
  refine wp_iconst (q := 2) d_Rf_jam_1 rfl ic_0 ?_
  refine wp_bipush (q := 4) d_Rf_jam_2 rfl bp_23 ?_
  refine wp_cs3 (q := 7) lk_Rf_151 (ro _ _ _) d_Rf_jam_4 rfl (Nat.le_of_ble_eq_true rfl) (Nat.zero_le _) (Nat.zero_le _) ?_
  refine ok_Rf_in0 (b := 23) (by decide) (fun a1 ha1 e => ?_) (fun ha1 => ?_)
  · subst e
    refine wp_if_eq_f (q := 10) (tgt := 20) d_Rf_jam_7 (by decide) rfl (by decide) ?_
    refine wp_iload_n (q := 11) d_Rf_jam_10 rfl rfl ?_
    refine wp_iconst (q := 12) d_Rf_jam_11 rfl ic_1 ?_
    refine wp_bipush (q := 14) d_Rf_jam_12 rfl bp_50 ?_
    refine wp_cs3 (q := 17) lk_Rf_151 (ro _ _ _) d_Rf_jam_14 rfl (Nat.le_of_ble_eq_true rfl) (Nat.zero_le _) (Nat.zero_le _) ?_
    refine ok_Rf_in (fun hb1a hb1b => ?_) (fun hb1 => ?_)
    · refine wp_if_ne_t (tgt := 23) d_Rf_jam_17 (by decide) (by decide) ?_
      refine wp_aload_n (q := 24) d_Rf_jam_23 rfl rfl ?_
      refine wp_get (q := 27) fl_Rf_25 d_Rf_jam_24 rfl rfl rfl ?_
      refine wp_iload_n (q := 28) d_Rf_jam_27 rfl rfl ?_
      refine wp_iald (q := 29) d_Rf_jam_28 rfl (rfl) (by omega) (by decide) ?_
      refine wp_istore_n (q := 30) (L2 := [(3, _), (0, _), (1, _), (2, _)]) d_Rf_jam_29 rfl (by decide) rfl ?_
      refine wp_aload_n (q := 31) d_Rf_jam_30 rfl rfl ?_
      refine wp_get (q := 34) fl_Rf_25 d_Rf_jam_31 rfl rfl rfl ?_
      refine wp_iload_n (q := 35) d_Rf_jam_34 rfl rfl ?_
      refine wp_iload_n (q := 36) d_Rf_jam_35 rfl rfl ?_
      refine wp_iast (q := 37) d_Rf_jam_36 rfl (rfl) (by omega) (by decide) (fr_6) ?_
      refine wp_iload_n (q := 38) d_Rf_jam_37 rfl rfl ?_
      refine wp_iret d_Rf_jam_38 rfl (Nat.le_refl _) (Nat.le_refl _) ?_
      simp only [sp_jam, inn, inb, inm, btw, inn_t ha1, tnl ha1, hb1a, hb1b, not_true_eq_false, not_false_eq_true, or_false, false_or, or_true, true_or, and_true, true_and, and_false, false_and, or_self, and_self, if_true, if_false, ite_true, ite_false, eq_self] at hK
      first | exact hK | (simp (disch := omega) only [tput_eq, tput2, tput_ne, upd_eq, upd_ne, ne_eq, va_upeq, va_upne, va_up2, not_true_eq_false, not_false_eq_true, or_false, false_or, or_true, true_or, and_true, true_and, and_false, false_and, or_self, and_self, if_true, if_false, ite_true, ite_false, eq_self] at hK ⊢; exact hK) | (simp (disch := omega) only [tput_eq, tput2, tput_ne, upd_eq, upd_ne, ne_eq, va_upeq, va_upne, va_up2, not_true_eq_false, not_false_eq_true, or_false, false_or, or_true, true_or, and_true, true_and, and_false, false_and, or_self, and_self, if_true, if_false, ite_true, ite_false, eq_self]; exact hK) | (simp (disch := omega) only [tput_eq, tput2, tput_ne, upd_eq, upd_ne, ne_eq, va_upeq, va_upne, va_up2, not_true_eq_false, not_false_eq_true, or_false, false_or, or_true, true_or, and_true, true_and, and_false, false_and, or_self, and_self, if_true, if_false, ite_true, ite_false, eq_self] at hK; exact hK)
    · refine wp_if_ne_f (q := 20) (tgt := 23) d_Rf_jam_17 (by decide) rfl (by decide) ?_
      refine wp_bipush (q := 22) d_Rf_jam_20 rfl bp_m2 ?_
      refine wp_iret d_Rf_jam_22 rfl (Nat.le_refl _) (Nat.le_refl _) ?_
      simp only [sp_jam, inn, inb, inm, btw, inn_t ha1, tnl ha1, hb1, not_true_eq_false, not_false_eq_true, or_false, false_or, or_true, true_or, and_true, true_and, and_false, false_and, or_self, and_self, if_true, if_false, ite_true, ite_false, eq_self] at hK
      first | exact hK | (simp (disch := omega) only [tput_eq, tput2, tput_ne, upd_eq, upd_ne, ne_eq, va_upeq, va_upne, va_up2, not_true_eq_false, not_false_eq_true, or_false, false_or, or_true, true_or, and_true, true_and, and_false, false_and, or_self, and_self, if_true, if_false, ite_true, ite_false, eq_self] at hK ⊢; exact hK) | (simp (disch := omega) only [tput_eq, tput2, tput_ne, upd_eq, upd_ne, ne_eq, va_upeq, va_upne, va_up2, not_true_eq_false, not_false_eq_true, or_false, false_or, or_true, true_or, and_true, true_and, and_false, false_and, or_self, and_self, if_true, if_false, ite_true, ite_false, eq_self]; exact hK) | (simp (disch := omega) only [tput_eq, tput2, tput_ne, upd_eq, upd_ne, ne_eq, va_upeq, va_upne, va_up2, not_true_eq_false, not_false_eq_true, or_false, false_or, or_true, true_or, and_true, true_and, and_false, false_and, or_self, and_self, if_true, if_false, ite_true, ite_false, eq_self] at hK; exact hK)
  · refine wp_if_eq_t (tgt := 20) d_Rf_jam_7 (by decide) (by decide) ?_
    refine wp_bipush (q := 22) d_Rf_jam_20 rfl bp_m2 ?_
    refine wp_iret d_Rf_jam_22 rfl (Nat.le_refl _) (Nat.le_refl _) ?_
    simp only [sp_jam, inn, inb, inm, btw, ha1, not_true_eq_false, not_false_eq_true, or_false, false_or, or_true, true_or, and_true, true_and, and_false, false_and, or_self, and_self, if_true, if_false, ite_true, ite_false, eq_self] at hK
    first | exact hK | (simp (disch := omega) only [tput_eq, tput2, tput_ne, upd_eq, upd_ne, ne_eq, va_upeq, va_upne, va_up2, not_true_eq_false, not_false_eq_true, or_false, false_or, or_true, true_or, and_true, true_and, and_false, false_and, or_self, and_self, if_true, if_false, ite_true, ite_false, eq_self] at hK ⊢; exact hK) | (simp (disch := omega) only [tput_eq, tput2, tput_ne, upd_eq, upd_ne, ne_eq, va_upeq, va_upne, va_up2, not_true_eq_false, not_false_eq_true, or_false, false_or, or_true, true_or, and_true, true_and, and_false, false_and, or_self, and_self, if_true, if_false, ite_true, ite_false, eq_self]; exact hK) | (simp (disch := omega) only [tput_eq, tput2, tput_ne, upd_eq, upd_ne, ne_eq, va_upeq, va_upne, va_up2, not_true_eq_false, not_false_eq_true, or_false, false_or, or_true, true_or, and_true, true_and, and_false, false_and, or_self, and_self, if_true, if_false, ite_true, ite_false, eq_self] at hK; exact hK)
def sp_people (c : T2) (a b n : Int32) : Int32 × T2 := if ¬ inn a 5 ∨ ¬ inn b 5 then (-1, c) else if a = b ∨ ¬ inn n 99 then (-2, c) else (c 3 (6 * tn a + tn b), tput c 3 (upd (c 3) (6 * tn a + tn b) n))
theorem d_FG_people_0 : decode M_FG_people.2.1 0 = .ok (.iload_n 1, 1) := by decide +kernel
theorem d_FG_people_1 : decode M_FG_people.2.1 1 = .ok (.invokestatic 57, 3) := by decide +kernel
theorem d_FG_people_4 : decode M_FG_people.2.1 4 = .ok (.ifCond .eq 10, 3) := by decide +kernel
theorem d_FG_people_7 : decode M_FG_people.2.1 7 = .ok (.iload_n 2, 1) := by decide +kernel
theorem d_FG_people_8 : decode M_FG_people.2.1 8 = .ok (.invokestatic 57, 3) := by decide +kernel
theorem d_FG_people_11 : decode M_FG_people.2.1 11 = .ok (.ifCond .ne 5, 3) := by decide +kernel
theorem d_FG_people_14 : decode M_FG_people.2.1 14 = .ok (.iconst (-1), 1) := by decide +kernel
theorem d_FG_people_15 : decode M_FG_people.2.1 15 = .ok (.ireturn, 1) := by decide +kernel
theorem d_FG_people_16 : decode M_FG_people.2.1 16 = .ok (.iload_n 1, 1) := by decide +kernel
theorem d_FG_people_17 : decode M_FG_people.2.1 17 = .ok (.iload_n 2, 1) := by decide +kernel
theorem d_FG_people_18 : decode M_FG_people.2.1 18 = .ok (.if_icmp .eq 13, 3) := by decide +kernel
theorem d_FG_people_21 : decode M_FG_people.2.1 21 = .ok (.iload_n 3, 1) := by decide +kernel
theorem d_FG_people_22 : decode M_FG_people.2.1 22 = .ok (.iconst 0, 1) := by decide +kernel
theorem d_FG_people_23 : decode M_FG_people.2.1 23 = .ok (.bipush 99, 2) := by decide +kernel
theorem d_FG_people_25 : decode M_FG_people.2.1 25 = .ok (.invokestatic 61, 3) := by decide +kernel
theorem d_FG_people_28 : decode M_FG_people.2.1 28 = .ok (.ifCond .ne 6, 3) := by decide +kernel
theorem d_FG_people_31 : decode M_FG_people.2.1 31 = .ok (.bipush (-2), 2) := by decide +kernel
theorem d_FG_people_33 : decode M_FG_people.2.1 33 = .ok (.ireturn, 1) := by decide +kernel
theorem d_FG_people_34 : decode M_FG_people.2.1 34 = .ok (.aload_n 0, 1) := by decide +kernel
theorem d_FG_people_35 : decode M_FG_people.2.1 35 = .ok (.getfield 10, 3) := by decide +kernel
theorem d_FG_people_38 : decode M_FG_people.2.1 38 = .ok (.getfield 71, 3) := by decide +kernel
theorem d_FG_people_41 : decode M_FG_people.2.1 41 = .ok (.iload_n 1, 1) := by decide +kernel
theorem d_FG_people_42 : decode M_FG_people.2.1 42 = .ok (.bipush 6, 2) := by decide +kernel
theorem d_FG_people_44 : decode M_FG_people.2.1 44 = .ok (.imul, 1) := by decide +kernel
theorem d_FG_people_45 : decode M_FG_people.2.1 45 = .ok (.iload_n 2, 1) := by decide +kernel
theorem d_FG_people_46 : decode M_FG_people.2.1 46 = .ok (.iadd, 1) := by decide +kernel
theorem d_FG_people_47 : decode M_FG_people.2.1 47 = .ok (.iaload, 1) := by decide +kernel
theorem d_FG_people_48 : decode M_FG_people.2.1 48 = .ok (.istore 4, 2) := by decide +kernel
theorem d_FG_people_50 : decode M_FG_people.2.1 50 = .ok (.aload_n 0, 1) := by decide +kernel
theorem d_FG_people_51 : decode M_FG_people.2.1 51 = .ok (.getfield 10, 3) := by decide +kernel
theorem d_FG_people_54 : decode M_FG_people.2.1 54 = .ok (.getfield 71, 3) := by decide +kernel
theorem d_FG_people_57 : decode M_FG_people.2.1 57 = .ok (.iload_n 1, 1) := by decide +kernel
theorem d_FG_people_58 : decode M_FG_people.2.1 58 = .ok (.bipush 6, 2) := by decide +kernel
theorem d_FG_people_60 : decode M_FG_people.2.1 60 = .ok (.imul, 1) := by decide +kernel
theorem d_FG_people_61 : decode M_FG_people.2.1 61 = .ok (.iload_n 2, 1) := by decide +kernel
theorem d_FG_people_62 : decode M_FG_people.2.1 62 = .ok (.iadd, 1) := by decide +kernel
theorem d_FG_people_63 : decode M_FG_people.2.1 63 = .ok (.iload_n 3, 1) := by decide +kernel
theorem d_FG_people_64 : decode M_FG_people.2.1 64 = .ok (.iastore, 1) := by decide +kernel
theorem d_FG_people_65 : decode M_FG_people.2.1 65 = .ok (.iload 4, 2) := by decide +kernel
theorem d_FG_people_67 : decode M_FG_people.2.1 67 = .ok (.ireturn, 1) := by decide +kernel
set_option maxHeartbeats 4000000 in
set_option maxRecDepth 100000 in
theorem ok_FG_people {D : xD} {N : Nat} {l : Launch} {d : Nat} {c x V : T2} {P : Nat → Int32} {ln df : Nat → Option Nat} {rest : List va_E} {K : Option Value → List va_E → Prop} {a : Int32} {b : Int32} {n : Int32}   (hK : K (some (.int (sp_people c a b n).1)) (encC D N (sp_people c a b n).2 x (va_up V 0 P) ln df ++ rest)) : Ok D N l (d + 2) M_FG_people [.ref (N + 0), .int a, .int b, .int n] (encC D N c x (va_up V 0 P) ln df ++ rest) 0 0 K := by
  refine ok_of (L := [(0, _), (1, _), (2, _), (3, _)]) (by decide) (Nat.le_of_ble_eq_true rfl) rfl ?_
  refine wp_iload_n (q := 1) d_FG_people_0 rfl rfl ?_
  refine wp_cs1 (q := 4) lk_FG_57 (ro _ _ _) d_FG_people_1 rfl (Nat.le_of_ble_eq_true rfl) (Nat.zero_le _) (Nat.zero_le _) ?_
  refine ok_FG_isStage (fun a1 ha1 e => ?_) (fun ha1 => ?_)
  · subst e
    refine wp_if_eq_f (q := 7) (tgt := 14) d_FG_people_4 (by decide) rfl (by decide) ?_
    refine wp_iload_n (q := 8) d_FG_people_7 rfl rfl ?_
    refine wp_cs1 (q := 11) lk_FG_57 (ro _ _ _) d_FG_people_8 rfl (Nat.le_of_ble_eq_true rfl) (Nat.zero_le _) (Nat.zero_le _) ?_
    refine ok_FG_isStage (fun b1 hb1 e => ?_) (fun hb1 => ?_)
    · subst e
      refine wp_if_ne_t (tgt := 16) d_FG_people_11 (by decide) (by decide) ?_
      refine wp_iload_n (q := 17) d_FG_people_16 rfl rfl ?_
      refine wp_iload_n (q := 18) d_FG_people_17 rfl rfl ?_
      refine wp_icmp_eq (q := 21) (tgt := 31) d_FG_people_18 (by decide) rfl (fun hc_18 => ?_) (fun hc_18 => ?_)
      · refine wp_bipush (q := 33) d_FG_people_31 rfl bp_m2 ?_
        refine wp_iret d_FG_people_33 rfl (Nat.le_refl _) (Nat.le_refl _) ?_
        simp only [sp_people, inn, inb, inm, btw, inn_t ha1, tnl ha1, inn_t hb1, tnl hb1, hc_18, not_true_eq_false, not_false_eq_true, or_false, false_or, or_true, true_or, and_true, true_and, and_false, false_and, or_self, and_self, if_true, if_false, ite_true, ite_false, eq_self] at hK
        first | exact hK | (simp (disch := omega) only [tput_eq, tput2, tput_ne, upd_eq, upd_ne, ne_eq, va_upeq, va_upne, va_up2, not_true_eq_false, not_false_eq_true, or_false, false_or, or_true, true_or, and_true, true_and, and_false, false_and, or_self, and_self, if_true, if_false, ite_true, ite_false, eq_self] at hK ⊢; exact hK) | (simp (disch := omega) only [tput_eq, tput2, tput_ne, upd_eq, upd_ne, ne_eq, va_upeq, va_upne, va_up2, not_true_eq_false, not_false_eq_true, or_false, false_or, or_true, true_or, and_true, true_and, and_false, false_and, or_self, and_self, if_true, if_false, ite_true, ite_false, eq_self]; exact hK) | (simp (disch := omega) only [tput_eq, tput2, tput_ne, upd_eq, upd_ne, ne_eq, va_upeq, va_upne, va_up2, not_true_eq_false, not_false_eq_true, or_false, false_or, or_true, true_or, and_true, true_and, and_false, false_and, or_self, and_self, if_true, if_false, ite_true, ite_false, eq_self] at hK; exact hK)
      · refine wp_iload_n (q := 22) d_FG_people_21 rfl rfl ?_
        refine wp_iconst (q := 23) d_FG_people_22 rfl ic_0 ?_
        refine wp_bipush (q := 25) d_FG_people_23 rfl bp_99 ?_
        refine wp_cs3 (q := 28) lk_FG_61 (ro _ _ _) d_FG_people_25 rfl (Nat.le_of_ble_eq_true rfl) (Nat.zero_le _) (Nat.zero_le _) ?_
        refine ok_FG_within0 (b := 99) (by decide) (fun n1 hn1 e => ?_) (fun hn1 => ?_)
        · subst e
          refine wp_if_ne_t (tgt := 34) d_FG_people_28 (by decide) (by decide) ?_
          refine wp_aload_n (q := 35) d_FG_people_34 rfl rfl ?_
          refine wp_get (q := 38) fl_FG_10 d_FG_people_35 rfl rfl rfl ?_
          refine wp_get (q := 41) fl_FG_71 d_FG_people_38 rfl rfl rfl ?_
          refine wp_iload_n (q := 42) d_FG_people_41 rfl rfl ?_
          refine wp_bipush (q := 44) d_FG_people_42 rfl bp_6 ?_
          first | refine wp_imulC (q := 45) d_FG_people_44 rfl ?_ | refine wp_imul (q := 45) d_FG_people_44 rfl ?_
          refine wp_iload_n (q := 46) d_FG_people_45 rfl rfl ?_
          first | refine wp_iaddN (q := 47) d_FG_people_46 rfl ?_ | refine wp_iadd (q := 47) d_FG_people_46 rfl ?_
          refine wp_iald (q := 48) d_FG_people_47 rfl (rfl) (by omega) (by decide) ?_
          refine wp_istore (q := 50) (L2 := [(4, _), (0, _), (1, _), (2, _), (3, _)]) d_FG_people_48 rfl (by decide) rfl ?_
          refine wp_aload_n (q := 51) d_FG_people_50 rfl rfl ?_
          refine wp_get (q := 54) fl_FG_10 d_FG_people_51 rfl rfl rfl ?_
          refine wp_get (q := 57) fl_FG_71 d_FG_people_54 rfl rfl rfl ?_
          refine wp_iload_n (q := 58) d_FG_people_57 rfl rfl ?_
          refine wp_bipush (q := 60) d_FG_people_58 rfl bp_6 ?_
          first | refine wp_imulC (q := 61) d_FG_people_60 rfl ?_ | refine wp_imul (q := 61) d_FG_people_60 rfl ?_
          refine wp_iload_n (q := 62) d_FG_people_61 rfl rfl ?_
          first | refine wp_iaddN (q := 63) d_FG_people_62 rfl ?_ | refine wp_iadd (q := 63) d_FG_people_62 rfl ?_
          refine wp_iload_n (q := 64) d_FG_people_63 rfl rfl ?_
          refine wp_iast (q := 65) d_FG_people_64 rfl (rfl) (by omega) (by decide) (fc_3) ?_
          refine wp_iload (q := 67) d_FG_people_65 rfl rfl ?_
          refine wp_iret d_FG_people_67 rfl (Nat.le_refl _) (Nat.le_refl _) ?_
          simp only [sp_people, inn, inb, inm, btw, inn_t ha1, tnl ha1, inn_t hb1, tnl hb1, hc_18, inn_t hn1, tnl hn1, not_true_eq_false, not_false_eq_true, or_false, false_or, or_true, true_or, and_true, true_and, and_false, false_and, or_self, and_self, if_true, if_false, ite_true, ite_false, eq_self] at hK
          first | exact hK | (simp (disch := omega) only [tput_eq, tput2, tput_ne, upd_eq, upd_ne, ne_eq, va_upeq, va_upne, va_up2, not_true_eq_false, not_false_eq_true, or_false, false_or, or_true, true_or, and_true, true_and, and_false, false_and, or_self, and_self, if_true, if_false, ite_true, ite_false, eq_self] at hK ⊢; exact hK) | (simp (disch := omega) only [tput_eq, tput2, tput_ne, upd_eq, upd_ne, ne_eq, va_upeq, va_upne, va_up2, not_true_eq_false, not_false_eq_true, or_false, false_or, or_true, true_or, and_true, true_and, and_false, false_and, or_self, and_self, if_true, if_false, ite_true, ite_false, eq_self]; exact hK) | (simp (disch := omega) only [tput_eq, tput2, tput_ne, upd_eq, upd_ne, ne_eq, va_upeq, va_upne, va_up2, not_true_eq_false, not_false_eq_true, or_false, false_or, or_true, true_or, and_true, true_and, and_false, false_and, or_self, and_self, if_true, if_false, ite_true, ite_false, eq_self] at hK; exact hK)
        · refine wp_if_ne_f (q := 31) (tgt := 34) d_FG_people_28 (by decide) rfl (by decide) ?_
          refine wp_bipush (q := 33) d_FG_people_31 rfl bp_m2 ?_
          refine wp_iret d_FG_people_33 rfl (Nat.le_refl _) (Nat.le_refl _) ?_
          simp only [sp_people, inn, inb, inm, btw, inn_t ha1, tnl ha1, inn_t hb1, tnl hb1, hc_18, hn1, not_true_eq_false, not_false_eq_true, or_false, false_or, or_true, true_or, and_true, true_and, and_false, false_and, or_self, and_self, if_true, if_false, ite_true, ite_false, eq_self] at hK
          first | exact hK | (simp (disch := omega) only [tput_eq, tput2, tput_ne, upd_eq, upd_ne, ne_eq, va_upeq, va_upne, va_up2, not_true_eq_false, not_false_eq_true, or_false, false_or, or_true, true_or, and_true, true_and, and_false, false_and, or_self, and_self, if_true, if_false, ite_true, ite_false, eq_self] at hK ⊢; exact hK) | (simp (disch := omega) only [tput_eq, tput2, tput_ne, upd_eq, upd_ne, ne_eq, va_upeq, va_upne, va_up2, not_true_eq_false, not_false_eq_true, or_false, false_or, or_true, true_or, and_true, true_and, and_false, false_and, or_self, and_self, if_true, if_false, ite_true, ite_false, eq_self]; exact hK) | (simp (disch := omega) only [tput_eq, tput2, tput_ne, upd_eq, upd_ne, ne_eq, va_upeq, va_upne, va_up2, not_true_eq_false, not_false_eq_true, or_false, false_or, or_true, true_or, and_true, true_and, and_false, false_and, or_self, and_self, if_true, if_false, ite_true, ite_false, eq_self] at hK; exact hK)
    · refine wp_if_ne_f (q := 14) (tgt := 16) d_FG_people_11 (by decide) rfl (by decide) ?_
      refine wp_iconst (q := 15) d_FG_people_14 rfl ic_m1 ?_
      refine wp_iret d_FG_people_15 rfl (Nat.le_refl _) (Nat.le_refl _) ?_
      simp only [sp_people, inn, inb, inm, btw, inn_t ha1, tnl ha1, hb1, not_true_eq_false, not_false_eq_true, or_false, false_or, or_true, true_or, and_true, true_and, and_false, false_and, or_self, and_self, if_true, if_false, ite_true, ite_false, eq_self] at hK
      first | exact hK | (simp (disch := omega) only [tput_eq, tput2, tput_ne, upd_eq, upd_ne, ne_eq, va_upeq, va_upne, va_up2, not_true_eq_false, not_false_eq_true, or_false, false_or, or_true, true_or, and_true, true_and, and_false, false_and, or_self, and_self, if_true, if_false, ite_true, ite_false, eq_self] at hK ⊢; exact hK) | (simp (disch := omega) only [tput_eq, tput2, tput_ne, upd_eq, upd_ne, ne_eq, va_upeq, va_upne, va_up2, not_true_eq_false, not_false_eq_true, or_false, false_or, or_true, true_or, and_true, true_and, and_false, false_and, or_self, and_self, if_true, if_false, ite_true, ite_false, eq_self]; exact hK) | (simp (disch := omega) only [tput_eq, tput2, tput_ne, upd_eq, upd_ne, ne_eq, va_upeq, va_upne, va_up2, not_true_eq_false, not_false_eq_true, or_false, false_or, or_true, true_or, and_true, true_and, and_false, false_and, or_self, and_self, if_true, if_false, ite_true, ite_false, eq_self] at hK; exact hK)
  · refine wp_if_eq_t (tgt := 14) d_FG_people_4 (by decide) (by decide) ?_
    refine wp_iconst (q := 15) d_FG_people_14 rfl ic_m1 ?_
    refine wp_iret d_FG_people_15 rfl (Nat.le_refl _) (Nat.le_refl _) ?_
    simp only [sp_people, inn, inb, inm, btw, ha1, not_true_eq_false, not_false_eq_true, or_false, false_or, or_true, true_or, and_true, true_and, and_false, false_and, or_self, and_self, if_true, if_false, ite_true, ite_false, eq_self] at hK
    first | exact hK | (simp (disch := omega) only [tput_eq, tput2, tput_ne, upd_eq, upd_ne, ne_eq, va_upeq, va_upne, va_up2, not_true_eq_false, not_false_eq_true, or_false, false_or, or_true, true_or, and_true, true_and, and_false, false_and, or_self, and_self, if_true, if_false, ite_true, ite_false, eq_self] at hK ⊢; exact hK) | (simp (disch := omega) only [tput_eq, tput2, tput_ne, upd_eq, upd_ne, ne_eq, va_upeq, va_upne, va_up2, not_true_eq_false, not_false_eq_true, or_false, false_or, or_true, true_or, and_true, true_and, and_false, false_and, or_self, and_self, if_true, if_false, ite_true, ite_false, eq_self]; exact hK) | (simp (disch := omega) only [tput_eq, tput2, tput_ne, upd_eq, upd_ne, ne_eq, va_upeq, va_upne, va_up2, not_true_eq_false, not_false_eq_true, or_false, false_or, or_true, true_or, and_true, true_and, and_false, false_and, or_self, and_self, if_true, if_false, ite_true, ite_false, eq_self] at hK; exact hK)
theorem d_Rf_people_0 : decode M_Rf_people.2.1 0 = .ok (.iload_n 1, 1) := by decide +kernel
theorem d_Rf_people_1 : decode M_Rf_people.2.1 1 = .ok (.invokestatic 163, 3) := by decide +kernel
theorem d_Rf_people_4 : decode M_Rf_people.2.1 4 = .ok (.ifCond .eq 10, 3) := by decide +kernel
theorem d_Rf_people_7 : decode M_Rf_people.2.1 7 = .ok (.iload_n 2, 1) := by decide +kernel
theorem d_Rf_people_8 : decode M_Rf_people.2.1 8 = .ok (.invokestatic 163, 3) := by decide +kernel
theorem d_Rf_people_11 : decode M_Rf_people.2.1 11 = .ok (.ifCond .ne 5, 3) := by decide +kernel
theorem d_Rf_people_14 : decode M_Rf_people.2.1 14 = .ok (.iconst (-1), 1) := by decide +kernel
theorem d_Rf_people_15 : decode M_Rf_people.2.1 15 = .ok (.ireturn, 1) := by decide +kernel
theorem d_Rf_people_16 : decode M_Rf_people.2.1 16 = .ok (.iload_n 1, 1) := by decide +kernel
theorem d_Rf_people_17 : decode M_Rf_people.2.1 17 = .ok (.iload_n 2, 1) := by decide +kernel
theorem d_Rf_people_18 : decode M_Rf_people.2.1 18 = .ok (.if_icmp .eq 13, 3) := by decide +kernel
theorem d_Rf_people_21 : decode M_Rf_people.2.1 21 = .ok (.iload_n 3, 1) := by decide +kernel
theorem d_Rf_people_22 : decode M_Rf_people.2.1 22 = .ok (.iconst 0, 1) := by decide +kernel
theorem d_Rf_people_23 : decode M_Rf_people.2.1 23 = .ok (.bipush 99, 2) := by decide +kernel
theorem d_Rf_people_25 : decode M_Rf_people.2.1 25 = .ok (.invokestatic 151, 3) := by decide +kernel
theorem d_Rf_people_28 : decode M_Rf_people.2.1 28 = .ok (.ifCond .ne 6, 3) := by decide +kernel
theorem d_Rf_people_31 : decode M_Rf_people.2.1 31 = .ok (.bipush (-2), 2) := by decide +kernel
theorem d_Rf_people_33 : decode M_Rf_people.2.1 33 = .ok (.ireturn, 1) := by decide +kernel
theorem d_Rf_people_34 : decode M_Rf_people.2.1 34 = .ok (.aload_n 0, 1) := by decide +kernel
theorem d_Rf_people_35 : decode M_Rf_people.2.1 35 = .ok (.getfield 22, 3) := by decide +kernel
theorem d_Rf_people_38 : decode M_Rf_people.2.1 38 = .ok (.bipush 6, 2) := by decide +kernel
theorem d_Rf_people_40 : decode M_Rf_people.2.1 40 = .ok (.iload_n 1, 1) := by decide +kernel
theorem d_Rf_people_41 : decode M_Rf_people.2.1 41 = .ok (.imul, 1) := by decide +kernel
theorem d_Rf_people_42 : decode M_Rf_people.2.1 42 = .ok (.iload_n 2, 1) := by decide +kernel
theorem d_Rf_people_43 : decode M_Rf_people.2.1 43 = .ok (.iadd, 1) := by decide +kernel
theorem d_Rf_people_44 : decode M_Rf_people.2.1 44 = .ok (.iaload, 1) := by decide +kernel
theorem d_Rf_people_45 : decode M_Rf_people.2.1 45 = .ok (.istore 4, 2) := by decide +kernel
theorem d_Rf_people_47 : decode M_Rf_people.2.1 47 = .ok (.aload_n 0, 1) := by decide +kernel
theorem d_Rf_people_48 : decode M_Rf_people.2.1 48 = .ok (.getfield 22, 3) := by decide +kernel
theorem d_Rf_people_51 : decode M_Rf_people.2.1 51 = .ok (.bipush 6, 2) := by decide +kernel
theorem d_Rf_people_53 : decode M_Rf_people.2.1 53 = .ok (.iload_n 1, 1) := by decide +kernel
theorem d_Rf_people_54 : decode M_Rf_people.2.1 54 = .ok (.imul, 1) := by decide +kernel
theorem d_Rf_people_55 : decode M_Rf_people.2.1 55 = .ok (.iload_n 2, 1) := by decide +kernel
theorem d_Rf_people_56 : decode M_Rf_people.2.1 56 = .ok (.iadd, 1) := by decide +kernel
theorem d_Rf_people_57 : decode M_Rf_people.2.1 57 = .ok (.iload_n 3, 1) := by decide +kernel
theorem d_Rf_people_58 : decode M_Rf_people.2.1 58 = .ok (.iastore, 1) := by decide +kernel
theorem d_Rf_people_59 : decode M_Rf_people.2.1 59 = .ok (.iload 4, 2) := by decide +kernel
theorem d_Rf_people_61 : decode M_Rf_people.2.1 61 = .ok (.ireturn, 1) := by decide +kernel
set_option maxHeartbeats 4000000 in
set_option maxRecDepth 100000 in
theorem ok_Rf_people {D : xD} {N : Nat} {l : Launch} {d : Nat} {c z : T2} {P Q : Nat → Int32} {rest : List va_E} {K : Option Value → List va_E → Prop} {a : Int32} {b : Int32} {n : Int32}   (hK : K (some (.int (sp_people c a b n).1)) (encR D N (sp_people c a b n).2 z P Q ++ rest)) : Ok D N l (d + 2) M_Rf_people [.ref (N + 0), .int a, .int b, .int n] (encR D N c z P Q ++ rest) 0 0 K := by
  refine ok_of (L := [(0, _), (1, _), (2, _), (3, _)]) (by decide) (Nat.le_of_ble_eq_true rfl) rfl ?_
  refine wp_iload_n (q := 1) d_Rf_people_0 rfl rfl ?_
  refine wp_cs1 (q := 4) lk_Rf_163 (ro _ _ _) d_Rf_people_1 rfl (Nat.le_of_ble_eq_true rfl) (Nat.zero_le _) (Nat.zero_le _) ?_
  refine ok_Rf_isStage (fun a1 ha1 e => ?_) (fun ha1 => ?_)
  · subst e
    refine wp_if_eq_f (q := 7) (tgt := 14) d_Rf_people_4 (by decide) rfl (by decide) ?_
    refine wp_iload_n (q := 8) d_Rf_people_7 rfl rfl ?_
    refine wp_cs1 (q := 11) lk_Rf_163 (ro _ _ _) d_Rf_people_8 rfl (Nat.le_of_ble_eq_true rfl) (Nat.zero_le _) (Nat.zero_le _) ?_
    refine ok_Rf_isStage (fun b1 hb1 e => ?_) (fun hb1 => ?_)
    · subst e
      refine wp_if_ne_t (tgt := 16) d_Rf_people_11 (by decide) (by decide) ?_
      refine wp_iload_n (q := 17) d_Rf_people_16 rfl rfl ?_
      refine wp_iload_n (q := 18) d_Rf_people_17 rfl rfl ?_
      refine wp_icmp_eq (q := 21) (tgt := 31) d_Rf_people_18 (by decide) rfl (fun hc_18 => ?_) (fun hc_18 => ?_)
      · refine wp_bipush (q := 33) d_Rf_people_31 rfl bp_m2 ?_
        refine wp_iret d_Rf_people_33 rfl (Nat.le_refl _) (Nat.le_refl _) ?_
        simp only [sp_people, inn, inb, inm, btw, inn_t ha1, tnl ha1, inn_t hb1, tnl hb1, hc_18, not_true_eq_false, not_false_eq_true, or_false, false_or, or_true, true_or, and_true, true_and, and_false, false_and, or_self, and_self, if_true, if_false, ite_true, ite_false, eq_self] at hK
        first | exact hK | (simp (disch := omega) only [tput_eq, tput2, tput_ne, upd_eq, upd_ne, ne_eq, va_upeq, va_upne, va_up2, not_true_eq_false, not_false_eq_true, or_false, false_or, or_true, true_or, and_true, true_and, and_false, false_and, or_self, and_self, if_true, if_false, ite_true, ite_false, eq_self] at hK ⊢; exact hK) | (simp (disch := omega) only [tput_eq, tput2, tput_ne, upd_eq, upd_ne, ne_eq, va_upeq, va_upne, va_up2, not_true_eq_false, not_false_eq_true, or_false, false_or, or_true, true_or, and_true, true_and, and_false, false_and, or_self, and_self, if_true, if_false, ite_true, ite_false, eq_self]; exact hK) | (simp (disch := omega) only [tput_eq, tput2, tput_ne, upd_eq, upd_ne, ne_eq, va_upeq, va_upne, va_up2, not_true_eq_false, not_false_eq_true, or_false, false_or, or_true, true_or, and_true, true_and, and_false, false_and, or_self, and_self, if_true, if_false, ite_true, ite_false, eq_self] at hK; exact hK)
      · refine wp_iload_n (q := 22) d_Rf_people_21 rfl rfl ?_
        refine wp_iconst (q := 23) d_Rf_people_22 rfl ic_0 ?_
        refine wp_bipush (q := 25) d_Rf_people_23 rfl bp_99 ?_
        refine wp_cs3 (q := 28) lk_Rf_151 (ro _ _ _) d_Rf_people_25 rfl (Nat.le_of_ble_eq_true rfl) (Nat.zero_le _) (Nat.zero_le _) ?_
        refine ok_Rf_in0 (b := 99) (by decide) (fun n1 hn1 e => ?_) (fun hn1 => ?_)
        · subst e
          refine wp_if_ne_t (tgt := 34) d_Rf_people_28 (by decide) (by decide) ?_
          refine wp_aload_n (q := 35) d_Rf_people_34 rfl rfl ?_
          refine wp_get (q := 38) fl_Rf_22 d_Rf_people_35 rfl rfl rfl ?_
          refine wp_bipush (q := 40) d_Rf_people_38 rfl bp_6 ?_
          refine wp_iload_n (q := 41) d_Rf_people_40 rfl rfl ?_
          first | refine wp_imulN (q := 42) d_Rf_people_41 rfl ?_ | refine wp_imul (q := 42) d_Rf_people_41 rfl ?_
          refine wp_iload_n (q := 43) d_Rf_people_42 rfl rfl ?_
          first | refine wp_iaddN (q := 44) d_Rf_people_43 rfl ?_ | refine wp_iadd (q := 44) d_Rf_people_43 rfl ?_
          refine wp_iald (q := 45) d_Rf_people_44 rfl (rfl) (by omega) (by decide) ?_
          refine wp_istore (q := 47) (L2 := [(4, _), (0, _), (1, _), (2, _), (3, _)]) d_Rf_people_45 rfl (by decide) rfl ?_
          refine wp_aload_n (q := 48) d_Rf_people_47 rfl rfl ?_
          refine wp_get (q := 51) fl_Rf_22 d_Rf_people_48 rfl rfl rfl ?_
          refine wp_bipush (q := 53) d_Rf_people_51 rfl bp_6 ?_
          refine wp_iload_n (q := 54) d_Rf_people_53 rfl rfl ?_
          first | refine wp_imulN (q := 55) d_Rf_people_54 rfl ?_ | refine wp_imul (q := 55) d_Rf_people_54 rfl ?_
          refine wp_iload_n (q := 56) d_Rf_people_55 rfl rfl ?_
          first | refine wp_iaddN (q := 57) d_Rf_people_56 rfl ?_ | refine wp_iadd (q := 57) d_Rf_people_56 rfl ?_
          refine wp_iload_n (q := 58) d_Rf_people_57 rfl rfl ?_
          refine wp_iast (q := 59) d_Rf_people_58 rfl (rfl) (by omega) (by decide) (fr_5) ?_
          refine wp_iload (q := 61) d_Rf_people_59 rfl rfl ?_
          refine wp_iret d_Rf_people_61 rfl (Nat.le_refl _) (Nat.le_refl _) ?_
          simp only [sp_people, inn, inb, inm, btw, inn_t ha1, tnl ha1, inn_t hb1, tnl hb1, hc_18, inn_t hn1, tnl hn1, not_true_eq_false, not_false_eq_true, or_false, false_or, or_true, true_or, and_true, true_and, and_false, false_and, or_self, and_self, if_true, if_false, ite_true, ite_false, eq_self] at hK
          first | exact hK | (simp (disch := omega) only [tput_eq, tput2, tput_ne, upd_eq, upd_ne, ne_eq, va_upeq, va_upne, va_up2, not_true_eq_false, not_false_eq_true, or_false, false_or, or_true, true_or, and_true, true_and, and_false, false_and, or_self, and_self, if_true, if_false, ite_true, ite_false, eq_self] at hK ⊢; exact hK) | (simp (disch := omega) only [tput_eq, tput2, tput_ne, upd_eq, upd_ne, ne_eq, va_upeq, va_upne, va_up2, not_true_eq_false, not_false_eq_true, or_false, false_or, or_true, true_or, and_true, true_and, and_false, false_and, or_self, and_self, if_true, if_false, ite_true, ite_false, eq_self]; exact hK) | (simp (disch := omega) only [tput_eq, tput2, tput_ne, upd_eq, upd_ne, ne_eq, va_upeq, va_upne, va_up2, not_true_eq_false, not_false_eq_true, or_false, false_or, or_true, true_or, and_true, true_and, and_false, false_and, or_self, and_self, if_true, if_false, ite_true, ite_false, eq_self] at hK; exact hK)
        · refine wp_if_ne_f (q := 31) (tgt := 34) d_Rf_people_28 (by decide) rfl (by decide) ?_
          refine wp_bipush (q := 33) d_Rf_people_31 rfl bp_m2 ?_
          refine wp_iret d_Rf_people_33 rfl (Nat.le_refl _) (Nat.le_refl _) ?_
          simp only [sp_people, inn, inb, inm, btw, inn_t ha1, tnl ha1, inn_t hb1, tnl hb1, hc_18, hn1, not_true_eq_false, not_false_eq_true, or_false, false_or, or_true, true_or, and_true, true_and, and_false, false_and, or_self, and_self, if_true, if_false, ite_true, ite_false, eq_self] at hK
          first | exact hK | (simp (disch := omega) only [tput_eq, tput2, tput_ne, upd_eq, upd_ne, ne_eq, va_upeq, va_upne, va_up2, not_true_eq_false, not_false_eq_true, or_false, false_or, or_true, true_or, and_true, true_and, and_false, false_and, or_self, and_self, if_true, if_false, ite_true, ite_false, eq_self] at hK ⊢; exact hK) | (simp (disch := omega) only [tput_eq, tput2, tput_ne, upd_eq, upd_ne, ne_eq, va_upeq, va_upne, va_up2, not_true_eq_false, not_false_eq_true, or_false, false_or, or_true, true_or, and_true, true_and, and_false, false_and, or_self, and_self, if_true, if_false, ite_true, ite_false, eq_self]; exact hK) | (simp (disch := omega) only [tput_eq, tput2, tput_ne, upd_eq, upd_ne, ne_eq, va_upeq, va_upne, va_up2, not_true_eq_false, not_false_eq_true, or_false, false_or, or_true, true_or, and_true, true_and, and_false, false_and, or_self, and_self, if_true, if_false, ite_true, ite_false, eq_self] at hK; exact hK)
    · refine wp_if_ne_f (q := 14) (tgt := 16) d_Rf_people_11 (by decide) rfl (by decide) ?_
      refine wp_iconst (q := 15) d_Rf_people_14 rfl ic_m1 ?_
      refine wp_iret d_Rf_people_15 rfl (Nat.le_refl _) (Nat.le_refl _) ?_
      simp only [sp_people, inn, inb, inm, btw, inn_t ha1, tnl ha1, hb1, not_true_eq_false, not_false_eq_true, or_false, false_or, or_true, true_or, and_true, true_and, and_false, false_and, or_self, and_self, if_true, if_false, ite_true, ite_false, eq_self] at hK
      first | exact hK | (simp (disch := omega) only [tput_eq, tput2, tput_ne, upd_eq, upd_ne, ne_eq, va_upeq, va_upne, va_up2, not_true_eq_false, not_false_eq_true, or_false, false_or, or_true, true_or, and_true, true_and, and_false, false_and, or_self, and_self, if_true, if_false, ite_true, ite_false, eq_self] at hK ⊢; exact hK) | (simp (disch := omega) only [tput_eq, tput2, tput_ne, upd_eq, upd_ne, ne_eq, va_upeq, va_upne, va_up2, not_true_eq_false, not_false_eq_true, or_false, false_or, or_true, true_or, and_true, true_and, and_false, false_and, or_self, and_self, if_true, if_false, ite_true, ite_false, eq_self]; exact hK) | (simp (disch := omega) only [tput_eq, tput2, tput_ne, upd_eq, upd_ne, ne_eq, va_upeq, va_upne, va_up2, not_true_eq_false, not_false_eq_true, or_false, false_or, or_true, true_or, and_true, true_and, and_false, false_and, or_self, and_self, if_true, if_false, ite_true, ite_false, eq_self] at hK; exact hK)
  · refine wp_if_eq_t (tgt := 14) d_Rf_people_4 (by decide) (by decide) ?_
    refine wp_iconst (q := 15) d_Rf_people_14 rfl ic_m1 ?_
    refine wp_iret d_Rf_people_15 rfl (Nat.le_refl _) (Nat.le_refl _) ?_
    simp only [sp_people, inn, inb, inm, btw, ha1, not_true_eq_false, not_false_eq_true, or_false, false_or, or_true, true_or, and_true, true_and, and_false, false_and, or_self, and_self, if_true, if_false, ite_true, ite_false, eq_self] at hK
    first | exact hK | (simp (disch := omega) only [tput_eq, tput2, tput_ne, upd_eq, upd_ne, ne_eq, va_upeq, va_upne, va_up2, not_true_eq_false, not_false_eq_true, or_false, false_or, or_true, true_or, and_true, true_and, and_false, false_and, or_self, and_self, if_true, if_false, ite_true, ite_false, eq_self] at hK ⊢; exact hK) | (simp (disch := omega) only [tput_eq, tput2, tput_ne, upd_eq, upd_ne, ne_eq, va_upeq, va_upne, va_up2, not_true_eq_false, not_false_eq_true, or_false, false_or, or_true, true_or, and_true, true_and, and_false, false_and, or_self, and_self, if_true, if_false, ite_true, ite_false, eq_self]; exact hK) | (simp (disch := omega) only [tput_eq, tput2, tput_ne, upd_eq, upd_ne, ne_eq, va_upeq, va_upne, va_up2, not_true_eq_false, not_false_eq_true, or_false, false_or, or_true, true_or, and_true, true_and, and_false, false_and, or_self, and_self, if_true, if_false, ite_true, ite_false, eq_self] at hK; exact hK)
def sp_rain (c : T2) (P : Nat → Int32) (r : Int32) : Int32 × (Nat → Int32) := if ¬ inn r 1 then (-2, P) else (P 235, upd P 235 r)
theorem d_FG_rain_0 : decode M_FG_rain.2.1 0 = .ok (.iload_n 1, 1) := by decide +kernel
theorem d_FG_rain_1 : decode M_FG_rain.2.1 1 = .ok (.iconst 0, 1) := by decide +kernel
theorem d_FG_rain_2 : decode M_FG_rain.2.1 2 = .ok (.iconst 1, 1) := by decide +kernel
theorem d_FG_rain_3 : decode M_FG_rain.2.1 3 = .ok (.invokestatic 61, 3) := by decide +kernel
theorem d_FG_rain_6 : decode M_FG_rain.2.1 6 = .ok (.ifCond .ne 6, 3) := by decide +kernel
theorem d_FG_rain_9 : decode M_FG_rain.2.1 9 = .ok (.bipush (-2), 2) := by decide +kernel
theorem d_FG_rain_11 : decode M_FG_rain.2.1 11 = .ok (.ireturn, 1) := by decide +kernel
theorem d_FG_rain_12 : decode M_FG_rain.2.1 12 = .ok (.aload_n 0, 1) := by decide +kernel
theorem d_FG_rain_13 : decode M_FG_rain.2.1 13 = .ok (.getfield 19, 3) := by decide +kernel
theorem d_FG_rain_16 : decode M_FG_rain.2.1 16 = .ok (.getfield 74, 3) := by decide +kernel
theorem d_FG_rain_19 : decode M_FG_rain.2.1 19 = .ok (.istore_n 2, 1) := by decide +kernel
theorem d_FG_rain_20 : decode M_FG_rain.2.1 20 = .ok (.aload_n 0, 1) := by decide +kernel
theorem d_FG_rain_21 : decode M_FG_rain.2.1 21 = .ok (.getfield 19, 3) := by decide +kernel
theorem d_FG_rain_24 : decode M_FG_rain.2.1 24 = .ok (.iload_n 1, 1) := by decide +kernel
theorem d_FG_rain_25 : decode M_FG_rain.2.1 25 = .ok (.putfield 74, 3) := by decide +kernel
theorem d_FG_rain_28 : decode M_FG_rain.2.1 28 = .ok (.iload_n 2, 1) := by decide +kernel
theorem d_FG_rain_29 : decode M_FG_rain.2.1 29 = .ok (.ireturn, 1) := by decide +kernel
set_option maxHeartbeats 4000000 in
set_option maxRecDepth 100000 in
theorem ok_FG_rain {D : xD} {N : Nat} {l : Launch} {d : Nat} {c x V : T2} {P : Nat → Int32} {ln df : Nat → Option Nat} {rest : List va_E} {K : Option Value → List va_E → Prop} {r : Int32}   (hK : K (some (.int (sp_rain c P r).1)) (encC D N c x (va_up V 0 (sp_rain c P r).2) ln df ++ rest)) : Ok D N l (d + 1) M_FG_rain [.ref (N + 0), .int r] (encC D N c x (va_up V 0 P) ln df ++ rest) 0 0 K := by
  refine ok_of (L := [(0, _), (1, _)]) (by decide) (Nat.le_of_ble_eq_true rfl) rfl ?_
  refine wp_iload_n (q := 1) d_FG_rain_0 rfl rfl ?_
  refine wp_iconst (q := 2) d_FG_rain_1 rfl ic_0 ?_
  refine wp_iconst (q := 3) d_FG_rain_2 rfl ic_1 ?_
  refine wp_cs3 (q := 6) lk_FG_61 (ro _ _ _) d_FG_rain_3 rfl (Nat.le_of_ble_eq_true rfl) (Nat.zero_le _) (Nat.zero_le _) ?_
  refine ok_FG_within0 (b := 1) (by decide) (fun a1 ha1 e => ?_) (fun ha1 => ?_)
  · subst e
    refine wp_if_ne_t (tgt := 12) d_FG_rain_6 (by decide) (by decide) ?_
    refine wp_aload_n (q := 13) d_FG_rain_12 rfl rfl ?_
    refine wp_get (q := 16) fl_FG_19 d_FG_rain_13 rfl rfl rfl ?_
    refine wp_get (q := 19) fl_FG_74 d_FG_rain_16 rfl (rdO (w := 0) (by decide)) rfl ?_
    refine wp_istore_n (q := 20) (L2 := [(2, _), (0, _), (1, _)]) d_FG_rain_19 rfl (by decide) rfl ?_
    refine wp_aload_n (q := 21) d_FG_rain_20 rfl rfl ?_
    refine wp_get (q := 24) fl_FG_19 d_FG_rain_21 rfl rfl rfl ?_
    refine wp_iload_n (q := 25) d_FG_rain_24 rfl rfl ?_
    refine wp_put (q := 28) fl_FG_74 d_FG_rain_25 rfl (rdO (w := 0) (by decide)) (Nat.le_of_ble_eq_true rfl) rfl rfl (fdw (w := 0) (i := 0) (by decide) (by decide) ws_o1) ?_
    refine wp_iload_n (q := 29) d_FG_rain_28 rfl rfl ?_
    refine wp_iret d_FG_rain_29 rfl (Nat.le_refl _) (Nat.le_refl _) ?_
    simp only [sp_rain, inn, inb, inm, btw, inn_t ha1, tnl ha1, not_true_eq_false, not_false_eq_true, or_false, false_or, or_true, true_or, and_true, true_and, and_false, false_and, or_self, and_self, if_true, if_false, ite_true, ite_false, eq_self] at hK
    first | exact hK | (simp (disch := omega) only [tput_eq, tput2, tput_ne, upd_eq, upd_ne, ne_eq, va_upeq, va_upne, va_up2, not_true_eq_false, not_false_eq_true, or_false, false_or, or_true, true_or, and_true, true_and, and_false, false_and, or_self, and_self, if_true, if_false, ite_true, ite_false, eq_self] at hK ⊢; exact hK) | (simp (disch := omega) only [tput_eq, tput2, tput_ne, upd_eq, upd_ne, ne_eq, va_upeq, va_upne, va_up2, not_true_eq_false, not_false_eq_true, or_false, false_or, or_true, true_or, and_true, true_and, and_false, false_and, or_self, and_self, if_true, if_false, ite_true, ite_false, eq_self]; exact hK) | (simp (disch := omega) only [tput_eq, tput2, tput_ne, upd_eq, upd_ne, ne_eq, va_upeq, va_upne, va_up2, not_true_eq_false, not_false_eq_true, or_false, false_or, or_true, true_or, and_true, true_and, and_false, false_and, or_self, and_self, if_true, if_false, ite_true, ite_false, eq_self] at hK; exact hK)
  · refine wp_if_ne_f (q := 9) (tgt := 12) d_FG_rain_6 (by decide) rfl (by decide) ?_
    refine wp_bipush (q := 11) d_FG_rain_9 rfl bp_m2 ?_
    refine wp_iret d_FG_rain_11 rfl (Nat.le_refl _) (Nat.le_refl _) ?_
    simp only [sp_rain, inn, inb, inm, btw, ha1, not_true_eq_false, not_false_eq_true, or_false, false_or, or_true, true_or, and_true, true_and, and_false, false_and, or_self, and_self, if_true, if_false, ite_true, ite_false, eq_self] at hK
    first | exact hK | (simp (disch := omega) only [tput_eq, tput2, tput_ne, upd_eq, upd_ne, ne_eq, va_upeq, va_upne, va_up2, not_true_eq_false, not_false_eq_true, or_false, false_or, or_true, true_or, and_true, true_and, and_false, false_and, or_self, and_self, if_true, if_false, ite_true, ite_false, eq_self] at hK ⊢; exact hK) | (simp (disch := omega) only [tput_eq, tput2, tput_ne, upd_eq, upd_ne, ne_eq, va_upeq, va_upne, va_up2, not_true_eq_false, not_false_eq_true, or_false, false_or, or_true, true_or, and_true, true_and, and_false, false_and, or_self, and_self, if_true, if_false, ite_true, ite_false, eq_self]; exact hK) | (simp (disch := omega) only [tput_eq, tput2, tput_ne, upd_eq, upd_ne, ne_eq, va_upeq, va_upne, va_up2, not_true_eq_false, not_false_eq_true, or_false, false_or, or_true, true_or, and_true, true_and, and_false, false_and, or_self, and_self, if_true, if_false, ite_true, ite_false, eq_self] at hK; exact hK)
theorem d_Rf_rain_0 : decode M_Rf_rain.2.1 0 = .ok (.iload_n 1, 1) := by decide +kernel
theorem d_Rf_rain_1 : decode M_Rf_rain.2.1 1 = .ok (.iconst 0, 1) := by decide +kernel
theorem d_Rf_rain_2 : decode M_Rf_rain.2.1 2 = .ok (.iconst 1, 1) := by decide +kernel
theorem d_Rf_rain_3 : decode M_Rf_rain.2.1 3 = .ok (.invokestatic 151, 3) := by decide +kernel
theorem d_Rf_rain_6 : decode M_Rf_rain.2.1 6 = .ok (.ifCond .ne 6, 3) := by decide +kernel
theorem d_Rf_rain_9 : decode M_Rf_rain.2.1 9 = .ok (.bipush (-2), 2) := by decide +kernel
theorem d_Rf_rain_11 : decode M_Rf_rain.2.1 11 = .ok (.ireturn, 1) := by decide +kernel
theorem d_Rf_rain_12 : decode M_Rf_rain.2.1 12 = .ok (.aload_n 0, 1) := by decide +kernel
theorem d_Rf_rain_13 : decode M_Rf_rain.2.1 13 = .ok (.getfield 7, 3) := by decide +kernel
theorem d_Rf_rain_16 : decode M_Rf_rain.2.1 16 = .ok (.sipush 235, 3) := by decide +kernel
theorem d_Rf_rain_19 : decode M_Rf_rain.2.1 19 = .ok (.iaload, 1) := by decide +kernel
theorem d_Rf_rain_20 : decode M_Rf_rain.2.1 20 = .ok (.istore_n 2, 1) := by decide +kernel
theorem d_Rf_rain_21 : decode M_Rf_rain.2.1 21 = .ok (.aload_n 0, 1) := by decide +kernel
theorem d_Rf_rain_22 : decode M_Rf_rain.2.1 22 = .ok (.getfield 7, 3) := by decide +kernel
theorem d_Rf_rain_25 : decode M_Rf_rain.2.1 25 = .ok (.sipush 235, 3) := by decide +kernel
theorem d_Rf_rain_28 : decode M_Rf_rain.2.1 28 = .ok (.iload_n 1, 1) := by decide +kernel
theorem d_Rf_rain_29 : decode M_Rf_rain.2.1 29 = .ok (.iastore, 1) := by decide +kernel
theorem d_Rf_rain_30 : decode M_Rf_rain.2.1 30 = .ok (.iload_n 2, 1) := by decide +kernel
theorem d_Rf_rain_31 : decode M_Rf_rain.2.1 31 = .ok (.ireturn, 1) := by decide +kernel
set_option maxHeartbeats 4000000 in
set_option maxRecDepth 100000 in
theorem ok_Rf_rain {D : xD} {N : Nat} {l : Launch} {d : Nat} {c z : T2} {P Q : Nat → Int32} {rest : List va_E} {K : Option Value → List va_E → Prop} {r : Int32}   (hK : K (some (.int (sp_rain c P r).1)) (encR D N c z (sp_rain c P r).2 Q ++ rest)) : Ok D N l (d + 1) M_Rf_rain [.ref (N + 0), .int r] (encR D N c z P Q ++ rest) 0 0 K := by
  refine ok_of (L := [(0, _), (1, _)]) (by decide) (Nat.le_of_ble_eq_true rfl) rfl ?_
  refine wp_iload_n (q := 1) d_Rf_rain_0 rfl rfl ?_
  refine wp_iconst (q := 2) d_Rf_rain_1 rfl ic_0 ?_
  refine wp_iconst (q := 3) d_Rf_rain_2 rfl ic_1 ?_
  refine wp_cs3 (q := 6) lk_Rf_151 (ro _ _ _) d_Rf_rain_3 rfl (Nat.le_of_ble_eq_true rfl) (Nat.zero_le _) (Nat.zero_le _) ?_
  refine ok_Rf_in0 (b := 1) (by decide) (fun a1 ha1 e => ?_) (fun ha1 => ?_)
  · subst e
    refine wp_if_ne_t (tgt := 12) d_Rf_rain_6 (by decide) (by decide) ?_
    refine wp_aload_n (q := 13) d_Rf_rain_12 rfl rfl ?_
    refine wp_get (q := 16) fl_Rf_7 d_Rf_rain_13 rfl rfl rfl ?_
    refine wp_sipush (q := 19) d_Rf_rain_16 rfl sp_235 ?_
    refine wp_iald (q := 20) d_Rf_rain_19 rfl (rfl) (by omega) (by decide) ?_
    refine wp_istore_n (q := 21) (L2 := [(2, _), (0, _), (1, _)]) d_Rf_rain_20 rfl (by decide) rfl ?_
    refine wp_aload_n (q := 22) d_Rf_rain_21 rfl rfl ?_
    refine wp_get (q := 25) fl_Rf_7 d_Rf_rain_22 rfl rfl rfl ?_
    refine wp_sipush (q := 28) d_Rf_rain_25 rfl sp_235 ?_
    refine wp_iload_n (q := 29) d_Rf_rain_28 rfl rfl ?_
    refine wp_iast (q := 30) d_Rf_rain_29 rfl (rfl) (by omega) (by decide) (fr_P) ?_
    refine wp_iload_n (q := 31) d_Rf_rain_30 rfl rfl ?_
    refine wp_iret d_Rf_rain_31 rfl (Nat.le_refl _) (Nat.le_refl _) ?_
    simp only [sp_rain, inn, inb, inm, btw, inn_t ha1, tnl ha1, not_true_eq_false, not_false_eq_true, or_false, false_or, or_true, true_or, and_true, true_and, and_false, false_and, or_self, and_self, if_true, if_false, ite_true, ite_false, eq_self] at hK
    first | exact hK | (simp (disch := omega) only [tput_eq, tput2, tput_ne, upd_eq, upd_ne, ne_eq, va_upeq, va_upne, va_up2, not_true_eq_false, not_false_eq_true, or_false, false_or, or_true, true_or, and_true, true_and, and_false, false_and, or_self, and_self, if_true, if_false, ite_true, ite_false, eq_self] at hK ⊢; exact hK) | (simp (disch := omega) only [tput_eq, tput2, tput_ne, upd_eq, upd_ne, ne_eq, va_upeq, va_upne, va_up2, not_true_eq_false, not_false_eq_true, or_false, false_or, or_true, true_or, and_true, true_and, and_false, false_and, or_self, and_self, if_true, if_false, ite_true, ite_false, eq_self]; exact hK) | (simp (disch := omega) only [tput_eq, tput2, tput_ne, upd_eq, upd_ne, ne_eq, va_upeq, va_upne, va_up2, not_true_eq_false, not_false_eq_true, or_false, false_or, or_true, true_or, and_true, true_and, and_false, false_and, or_self, and_self, if_true, if_false, ite_true, ite_false, eq_self] at hK; exact hK)
  · refine wp_if_ne_f (q := 9) (tgt := 12) d_Rf_rain_6 (by decide) rfl (by decide) ?_
    refine wp_bipush (q := 11) d_Rf_rain_9 rfl bp_m2 ?_
    refine wp_iret d_Rf_rain_11 rfl (Nat.le_refl _) (Nat.le_refl _) ?_
    simp only [sp_rain, inn, inb, inm, btw, ha1, not_true_eq_false, not_false_eq_true, or_false, false_or, or_true, true_or, and_true, true_and, and_false, false_and, or_self, and_self, if_true, if_false, ite_true, ite_false, eq_self] at hK
    first | exact hK | (simp (disch := omega) only [tput_eq, tput2, tput_ne, upd_eq, upd_ne, ne_eq, va_upeq, va_upne, va_up2, not_true_eq_false, not_false_eq_true, or_false, false_or, or_true, true_or, and_true, true_and, and_false, false_and, or_self, and_self, if_true, if_false, ite_true, ite_false, eq_self] at hK ⊢; exact hK) | (simp (disch := omega) only [tput_eq, tput2, tput_ne, upd_eq, upd_ne, ne_eq, va_upeq, va_upne, va_up2, not_true_eq_false, not_false_eq_true, or_false, false_or, or_true, true_or, and_true, true_and, and_false, false_and, or_self, and_self, if_true, if_false, ite_true, ite_false, eq_self]; exact hK) | (simp (disch := omega) only [tput_eq, tput2, tput_ne, upd_eq, upd_ne, ne_eq, va_upeq, va_upne, va_up2, not_true_eq_false, not_false_eq_true, or_false, false_or, or_true, true_or, and_true, true_and, and_false, false_and, or_self, and_self, if_true, if_false, ite_true, ite_false, eq_self] at hK; exact hK)
def sp_wants (c : T2) (b k : Int32) : Int32 × T2 := if ¬ inb c b then (-1, c) else if ¬ inn k 5 then (-2, c) else (c 9 (tn b), tput c 9 (upd (c 9) (tn b) k))
theorem d_FG_wants_0 : decode M_FG_wants.2.1 0 = .ok (.aload_n 0, 1) := by decide +kernel
theorem d_FG_wants_1 : decode M_FG_wants.2.1 1 = .ok (.iload_n 1, 1) := by decide +kernel
theorem d_FG_wants_2 : decode M_FG_wants.2.1 2 = .ok (.invokevirtual 82, 3) := by decide +kernel
theorem d_FG_wants_5 : decode M_FG_wants.2.1 5 = .ok (.ifCond .ne 5, 3) := by decide +kernel
theorem d_FG_wants_8 : decode M_FG_wants.2.1 8 = .ok (.iconst (-1), 1) := by decide +kernel
theorem d_FG_wants_9 : decode M_FG_wants.2.1 9 = .ok (.ireturn, 1) := by decide +kernel
theorem d_FG_wants_10 : decode M_FG_wants.2.1 10 = .ok (.iload_n 2, 1) := by decide +kernel
theorem d_FG_wants_11 : decode M_FG_wants.2.1 11 = .ok (.invokestatic 120, 3) := by decide +kernel
theorem d_FG_wants_14 : decode M_FG_wants.2.1 14 = .ok (.ifCond .ne 6, 3) := by decide +kernel
theorem d_FG_wants_17 : decode M_FG_wants.2.1 17 = .ok (.bipush (-2), 2) := by decide +kernel
theorem d_FG_wants_19 : decode M_FG_wants.2.1 19 = .ok (.ireturn, 1) := by decide +kernel
theorem d_FG_wants_20 : decode M_FG_wants.2.1 20 = .ok (.aload_n 0, 1) := by decide +kernel
theorem d_FG_wants_21 : decode M_FG_wants.2.1 21 = .ok (.getfield 10, 3) := by decide +kernel
theorem d_FG_wants_24 : decode M_FG_wants.2.1 24 = .ok (.getfield 123, 3) := by decide +kernel
theorem d_FG_wants_27 : decode M_FG_wants.2.1 27 = .ok (.iload_n 1, 1) := by decide +kernel
theorem d_FG_wants_28 : decode M_FG_wants.2.1 28 = .ok (.iaload, 1) := by decide +kernel
theorem d_FG_wants_29 : decode M_FG_wants.2.1 29 = .ok (.istore_n 3, 1) := by decide +kernel
theorem d_FG_wants_30 : decode M_FG_wants.2.1 30 = .ok (.aload_n 0, 1) := by decide +kernel
theorem d_FG_wants_31 : decode M_FG_wants.2.1 31 = .ok (.getfield 10, 3) := by decide +kernel
theorem d_FG_wants_34 : decode M_FG_wants.2.1 34 = .ok (.getfield 123, 3) := by decide +kernel
theorem d_FG_wants_37 : decode M_FG_wants.2.1 37 = .ok (.iload_n 1, 1) := by decide +kernel
theorem d_FG_wants_38 : decode M_FG_wants.2.1 38 = .ok (.iload_n 2, 1) := by decide +kernel
theorem d_FG_wants_39 : decode M_FG_wants.2.1 39 = .ok (.iastore, 1) := by decide +kernel
theorem d_FG_wants_40 : decode M_FG_wants.2.1 40 = .ok (.iload_n 3, 1) := by decide +kernel
theorem d_FG_wants_41 : decode M_FG_wants.2.1 41 = .ok (.ireturn, 1) := by decide +kernel
set_option maxHeartbeats 4000000 in
set_option maxRecDepth 100000 in
theorem ok_FG_wants {D : xD} {N : Nat} {l : Launch} {d : Nat} {c x V : T2} {P : Nat → Int32} {ln df : Nat → Option Nat} {rest : List va_E} {K : Option Value → List va_E → Prop} {b : Int32} {k : Int32} {nb : Nat} (hnb : c 32 1 = nI nb) (h12 : nb ≤ 12)  (hK : K (some (.int (sp_wants c b k).1)) (encC D N (sp_wants c b k).2 x (va_up V 0 P) ln df ++ rest)) : Ok D N l (d + 2) M_FG_wants [.ref (N + 0), .int b, .int k] (encC D N c x (va_up V 0 P) ln df ++ rest) 0 0 K := by
  refine ok_of (L := [(0, _), (1, _), (2, _)]) (by decide) (Nat.le_of_ble_eq_true rfl) rfl ?_
  refine wp_aload_n (q := 1) d_FG_wants_0 rfl rfl ?_
  refine wp_iload_n (q := 2) d_FG_wants_1 rfl rfl ?_
  refine wp_cv1 (q := 5) lk_FG_82 (ro _ _ _) d_FG_wants_2 rfl (Nat.le_of_ble_eq_true rfl) (rfl) rfl (Nat.zero_le _) (Nat.zero_le _) ?_
  refine ok_FG_isBus hnb h12 (fun b1 hb1 e => ?_) (fun hb1 => ?_)
  · subst e
    refine wp_if_ne_t (tgt := 10) d_FG_wants_5 (by decide) (by decide) ?_
    refine wp_iload_n (q := 11) d_FG_wants_10 rfl rfl ?_
    refine wp_cs1 (q := 14) lk_FG_120 (ro _ _ _) d_FG_wants_11 rfl (Nat.le_of_ble_eq_true rfl) (Nat.zero_le _) (Nat.zero_le _) ?_
    refine ok_FG_isKind (fun k1 hk1 e => ?_) (fun hk1 => ?_)
    · subst e
      refine wp_if_ne_t (tgt := 20) d_FG_wants_14 (by decide) (by decide) ?_
      refine wp_aload_n (q := 21) d_FG_wants_20 rfl rfl ?_
      refine wp_get (q := 24) fl_FG_10 d_FG_wants_21 rfl rfl rfl ?_
      refine wp_get (q := 27) fl_FG_123 d_FG_wants_24 rfl rfl rfl ?_
      refine wp_iload_n (q := 28) d_FG_wants_27 rfl rfl ?_
      refine wp_iald (q := 29) d_FG_wants_28 rfl (rfl) (by omega) (by decide) ?_
      refine wp_istore_n (q := 30) (L2 := [(3, _), (0, _), (1, _), (2, _)]) d_FG_wants_29 rfl (by decide) rfl ?_
      refine wp_aload_n (q := 31) d_FG_wants_30 rfl rfl ?_
      refine wp_get (q := 34) fl_FG_10 d_FG_wants_31 rfl rfl rfl ?_
      refine wp_get (q := 37) fl_FG_123 d_FG_wants_34 rfl rfl rfl ?_
      refine wp_iload_n (q := 38) d_FG_wants_37 rfl rfl ?_
      refine wp_iload_n (q := 39) d_FG_wants_38 rfl rfl ?_
      refine wp_iast (q := 40) d_FG_wants_39 rfl (rfl) (by omega) (by decide) (fc_9) ?_
      refine wp_iload_n (q := 41) d_FG_wants_40 rfl rfl ?_
      refine wp_iret d_FG_wants_41 rfl (Nat.le_refl _) (Nat.le_refl _) ?_
      simp only [sp_wants, inn, inb, inm, btw, inb_t hnb h12 hb1, tnt (Nat.lt_of_lt_of_le hb1 h12), inn_t hk1, tnl hk1, not_true_eq_false, not_false_eq_true, or_false, false_or, or_true, true_or, and_true, true_and, and_false, false_and, or_self, and_self, if_true, if_false, ite_true, ite_false, eq_self] at hK
      first | exact hK | (simp (disch := omega) only [tput_eq, tput2, tput_ne, upd_eq, upd_ne, ne_eq, va_upeq, va_upne, va_up2, not_true_eq_false, not_false_eq_true, or_false, false_or, or_true, true_or, and_true, true_and, and_false, false_and, or_self, and_self, if_true, if_false, ite_true, ite_false, eq_self] at hK ⊢; exact hK) | (simp (disch := omega) only [tput_eq, tput2, tput_ne, upd_eq, upd_ne, ne_eq, va_upeq, va_upne, va_up2, not_true_eq_false, not_false_eq_true, or_false, false_or, or_true, true_or, and_true, true_and, and_false, false_and, or_self, and_self, if_true, if_false, ite_true, ite_false, eq_self]; exact hK) | (simp (disch := omega) only [tput_eq, tput2, tput_ne, upd_eq, upd_ne, ne_eq, va_upeq, va_upne, va_up2, not_true_eq_false, not_false_eq_true, or_false, false_or, or_true, true_or, and_true, true_and, and_false, false_and, or_self, and_self, if_true, if_false, ite_true, ite_false, eq_self] at hK; exact hK)
    · refine wp_if_ne_f (q := 17) (tgt := 20) d_FG_wants_14 (by decide) rfl (by decide) ?_
      refine wp_bipush (q := 19) d_FG_wants_17 rfl bp_m2 ?_
      refine wp_iret d_FG_wants_19 rfl (Nat.le_refl _) (Nat.le_refl _) ?_
      simp only [sp_wants, inn, inb, inm, btw, inb_t hnb h12 hb1, tnt (Nat.lt_of_lt_of_le hb1 h12), hk1, not_true_eq_false, not_false_eq_true, or_false, false_or, or_true, true_or, and_true, true_and, and_false, false_and, or_self, and_self, if_true, if_false, ite_true, ite_false, eq_self] at hK
      first | exact hK | (simp (disch := omega) only [tput_eq, tput2, tput_ne, upd_eq, upd_ne, ne_eq, va_upeq, va_upne, va_up2, not_true_eq_false, not_false_eq_true, or_false, false_or, or_true, true_or, and_true, true_and, and_false, false_and, or_self, and_self, if_true, if_false, ite_true, ite_false, eq_self] at hK ⊢; exact hK) | (simp (disch := omega) only [tput_eq, tput2, tput_ne, upd_eq, upd_ne, ne_eq, va_upeq, va_upne, va_up2, not_true_eq_false, not_false_eq_true, or_false, false_or, or_true, true_or, and_true, true_and, and_false, false_and, or_self, and_self, if_true, if_false, ite_true, ite_false, eq_self]; exact hK) | (simp (disch := omega) only [tput_eq, tput2, tput_ne, upd_eq, upd_ne, ne_eq, va_upeq, va_upne, va_up2, not_true_eq_false, not_false_eq_true, or_false, false_or, or_true, true_or, and_true, true_and, and_false, false_and, or_self, and_self, if_true, if_false, ite_true, ite_false, eq_self] at hK; exact hK)
  · refine wp_if_ne_f (q := 8) (tgt := 10) d_FG_wants_5 (by decide) rfl (by decide) ?_
    refine wp_iconst (q := 9) d_FG_wants_8 rfl ic_m1 ?_
    refine wp_iret d_FG_wants_9 rfl (Nat.le_refl _) (Nat.le_refl _) ?_
    simp only [sp_wants, inn, inb, inm, btw, hb1, not_true_eq_false, not_false_eq_true, or_false, false_or, or_true, true_or, and_true, true_and, and_false, false_and, or_self, and_self, if_true, if_false, ite_true, ite_false, eq_self] at hK
    first | exact hK | (simp (disch := omega) only [tput_eq, tput2, tput_ne, upd_eq, upd_ne, ne_eq, va_upeq, va_upne, va_up2, not_true_eq_false, not_false_eq_true, or_false, false_or, or_true, true_or, and_true, true_and, and_false, false_and, or_self, and_self, if_true, if_false, ite_true, ite_false, eq_self] at hK ⊢; exact hK) | (simp (disch := omega) only [tput_eq, tput2, tput_ne, upd_eq, upd_ne, ne_eq, va_upeq, va_upne, va_up2, not_true_eq_false, not_false_eq_true, or_false, false_or, or_true, true_or, and_true, true_and, and_false, false_and, or_self, and_self, if_true, if_false, ite_true, ite_false, eq_self]; exact hK) | (simp (disch := omega) only [tput_eq, tput2, tput_ne, upd_eq, upd_ne, ne_eq, va_upeq, va_upne, va_up2, not_true_eq_false, not_false_eq_true, or_false, false_or, or_true, true_or, and_true, true_and, and_false, false_and, or_self, and_self, if_true, if_false, ite_true, ite_false, eq_self] at hK; exact hK)
theorem d_Rf_wants_0 : decode M_Rf_wants.2.1 0 = .ok (.aload_n 0, 1) := by decide +kernel
theorem d_Rf_wants_1 : decode M_Rf_wants.2.1 1 = .ok (.iload_n 1, 1) := by decide +kernel
theorem d_Rf_wants_2 : decode M_Rf_wants.2.1 2 = .ok (.invokevirtual 167, 3) := by decide +kernel
theorem d_Rf_wants_5 : decode M_Rf_wants.2.1 5 = .ok (.ifCond .ne 5, 3) := by decide +kernel
theorem d_Rf_wants_8 : decode M_Rf_wants.2.1 8 = .ok (.iconst (-1), 1) := by decide +kernel
theorem d_Rf_wants_9 : decode M_Rf_wants.2.1 9 = .ok (.ireturn, 1) := by decide +kernel
theorem d_Rf_wants_10 : decode M_Rf_wants.2.1 10 = .ok (.iload_n 2, 1) := by decide +kernel
theorem d_Rf_wants_11 : decode M_Rf_wants.2.1 11 = .ok (.iconst 0, 1) := by decide +kernel
theorem d_Rf_wants_12 : decode M_Rf_wants.2.1 12 = .ok (.iconst 5, 1) := by decide +kernel
theorem d_Rf_wants_13 : decode M_Rf_wants.2.1 13 = .ok (.invokestatic 151, 3) := by decide +kernel
theorem d_Rf_wants_16 : decode M_Rf_wants.2.1 16 = .ok (.ifCond .ne 6, 3) := by decide +kernel
theorem d_Rf_wants_19 : decode M_Rf_wants.2.1 19 = .ok (.bipush (-2), 2) := by decide +kernel
theorem d_Rf_wants_21 : decode M_Rf_wants.2.1 21 = .ok (.ireturn, 1) := by decide +kernel
theorem d_Rf_wants_22 : decode M_Rf_wants.2.1 22 = .ok (.aload_n 0, 1) := by decide +kernel
theorem d_Rf_wants_23 : decode M_Rf_wants.2.1 23 = .ok (.getfield 40, 3) := by decide +kernel
theorem d_Rf_wants_26 : decode M_Rf_wants.2.1 26 = .ok (.iload_n 1, 1) := by decide +kernel
theorem d_Rf_wants_27 : decode M_Rf_wants.2.1 27 = .ok (.iaload, 1) := by decide +kernel
theorem d_Rf_wants_28 : decode M_Rf_wants.2.1 28 = .ok (.istore_n 3, 1) := by decide +kernel
theorem d_Rf_wants_29 : decode M_Rf_wants.2.1 29 = .ok (.aload_n 0, 1) := by decide +kernel
theorem d_Rf_wants_30 : decode M_Rf_wants.2.1 30 = .ok (.getfield 40, 3) := by decide +kernel
theorem d_Rf_wants_33 : decode M_Rf_wants.2.1 33 = .ok (.iload_n 1, 1) := by decide +kernel
theorem d_Rf_wants_34 : decode M_Rf_wants.2.1 34 = .ok (.iload_n 2, 1) := by decide +kernel
theorem d_Rf_wants_35 : decode M_Rf_wants.2.1 35 = .ok (.iastore, 1) := by decide +kernel
theorem d_Rf_wants_36 : decode M_Rf_wants.2.1 36 = .ok (.iload_n 3, 1) := by decide +kernel
theorem d_Rf_wants_37 : decode M_Rf_wants.2.1 37 = .ok (.ireturn, 1) := by decide +kernel
set_option maxHeartbeats 4000000 in
set_option maxRecDepth 100000 in
theorem ok_Rf_wants {D : xD} {N : Nat} {l : Launch} {d : Nat} {c z : T2} {P Q : Nat → Int32} {rest : List va_E} {K : Option Value → List va_E → Prop} {b : Int32} {k : Int32} {nb : Nat} (hnb : c 32 1 = nI nb) (h12 : nb ≤ 12)  (hK : K (some (.int (sp_wants c b k).1)) (encR D N (sp_wants c b k).2 z P Q ++ rest)) : Ok D N l (d + 2) M_Rf_wants [.ref (N + 0), .int b, .int k] (encR D N c z P Q ++ rest) 0 0 K := by
  refine ok_of (L := [(0, _), (1, _), (2, _)]) (by decide) (Nat.le_of_ble_eq_true rfl) rfl ?_
  refine wp_aload_n (q := 1) d_Rf_wants_0 rfl rfl ?_
  refine wp_iload_n (q := 2) d_Rf_wants_1 rfl rfl ?_
  refine wp_cv1 (q := 5) lk_Rf_167 (ro _ _ _) d_Rf_wants_2 rfl (Nat.le_of_ble_eq_true rfl) (rfl) rfl (Nat.zero_le _) (Nat.zero_le _) ?_
  refine ok_Rf_isBus hnb h12 (fun b1 hb1 e => ?_) (fun hb1 => ?_)
  · subst e
    refine wp_if_ne_t (tgt := 10) d_Rf_wants_5 (by decide) (by decide) ?_
    refine wp_iload_n (q := 11) d_Rf_wants_10 rfl rfl ?_
    refine wp_iconst (q := 12) d_Rf_wants_11 rfl ic_0 ?_
    refine wp_iconst (q := 13) d_Rf_wants_12 rfl ic_5 ?_
    refine wp_cs3 (q := 16) lk_Rf_151 (ro _ _ _) d_Rf_wants_13 rfl (Nat.le_of_ble_eq_true rfl) (Nat.zero_le _) (Nat.zero_le _) ?_
    refine ok_Rf_in0 (b := 5) (by decide) (fun k1 hk1 e => ?_) (fun hk1 => ?_)
    · subst e
      refine wp_if_ne_t (tgt := 22) d_Rf_wants_16 (by decide) (by decide) ?_
      refine wp_aload_n (q := 23) d_Rf_wants_22 rfl rfl ?_
      refine wp_get (q := 26) fl_Rf_40 d_Rf_wants_23 rfl rfl rfl ?_
      refine wp_iload_n (q := 27) d_Rf_wants_26 rfl rfl ?_
      refine wp_iald (q := 28) d_Rf_wants_27 rfl (rfl) (by omega) (by decide) ?_
      refine wp_istore_n (q := 29) (L2 := [(3, _), (0, _), (1, _), (2, _)]) d_Rf_wants_28 rfl (by decide) rfl ?_
      refine wp_aload_n (q := 30) d_Rf_wants_29 rfl rfl ?_
      refine wp_get (q := 33) fl_Rf_40 d_Rf_wants_30 rfl rfl rfl ?_
      refine wp_iload_n (q := 34) d_Rf_wants_33 rfl rfl ?_
      refine wp_iload_n (q := 35) d_Rf_wants_34 rfl rfl ?_
      refine wp_iast (q := 36) d_Rf_wants_35 rfl (rfl) (by omega) (by decide) (fr_11) ?_
      refine wp_iload_n (q := 37) d_Rf_wants_36 rfl rfl ?_
      refine wp_iret d_Rf_wants_37 rfl (Nat.le_refl _) (Nat.le_refl _) ?_
      simp only [sp_wants, inn, inb, inm, btw, inb_t hnb h12 hb1, tnt (Nat.lt_of_lt_of_le hb1 h12), inn_t hk1, tnl hk1, not_true_eq_false, not_false_eq_true, or_false, false_or, or_true, true_or, and_true, true_and, and_false, false_and, or_self, and_self, if_true, if_false, ite_true, ite_false, eq_self] at hK
      first | exact hK | (simp (disch := omega) only [tput_eq, tput2, tput_ne, upd_eq, upd_ne, ne_eq, va_upeq, va_upne, va_up2, not_true_eq_false, not_false_eq_true, or_false, false_or, or_true, true_or, and_true, true_and, and_false, false_and, or_self, and_self, if_true, if_false, ite_true, ite_false, eq_self] at hK ⊢; exact hK) | (simp (disch := omega) only [tput_eq, tput2, tput_ne, upd_eq, upd_ne, ne_eq, va_upeq, va_upne, va_up2, not_true_eq_false, not_false_eq_true, or_false, false_or, or_true, true_or, and_true, true_and, and_false, false_and, or_self, and_self, if_true, if_false, ite_true, ite_false, eq_self]; exact hK) | (simp (disch := omega) only [tput_eq, tput2, tput_ne, upd_eq, upd_ne, ne_eq, va_upeq, va_upne, va_up2, not_true_eq_false, not_false_eq_true, or_false, false_or, or_true, true_or, and_true, true_and, and_false, false_and, or_self, and_self, if_true, if_false, ite_true, ite_false, eq_self] at hK; exact hK)
    · refine wp_if_ne_f (q := 19) (tgt := 22) d_Rf_wants_16 (by decide) rfl (by decide) ?_
      refine wp_bipush (q := 21) d_Rf_wants_19 rfl bp_m2 ?_
      refine wp_iret d_Rf_wants_21 rfl (Nat.le_refl _) (Nat.le_refl _) ?_
      simp only [sp_wants, inn, inb, inm, btw, inb_t hnb h12 hb1, tnt (Nat.lt_of_lt_of_le hb1 h12), hk1, not_true_eq_false, not_false_eq_true, or_false, false_or, or_true, true_or, and_true, true_and, and_false, false_and, or_self, and_self, if_true, if_false, ite_true, ite_false, eq_self] at hK
      first | exact hK | (simp (disch := omega) only [tput_eq, tput2, tput_ne, upd_eq, upd_ne, ne_eq, va_upeq, va_upne, va_up2, not_true_eq_false, not_false_eq_true, or_false, false_or, or_true, true_or, and_true, true_and, and_false, false_and, or_self, and_self, if_true, if_false, ite_true, ite_false, eq_self] at hK ⊢; exact hK) | (simp (disch := omega) only [tput_eq, tput2, tput_ne, upd_eq, upd_ne, ne_eq, va_upeq, va_upne, va_up2, not_true_eq_false, not_false_eq_true, or_false, false_or, or_true, true_or, and_true, true_and, and_false, false_and, or_self, and_self, if_true, if_false, ite_true, ite_false, eq_self]; exact hK) | (simp (disch := omega) only [tput_eq, tput2, tput_ne, upd_eq, upd_ne, ne_eq, va_upeq, va_upne, va_up2, not_true_eq_false, not_false_eq_true, or_false, false_or, or_true, true_or, and_true, true_and, and_false, false_and, or_self, and_self, if_true, if_false, ite_true, ite_false, eq_self] at hK; exact hK)
  · refine wp_if_ne_f (q := 8) (tgt := 10) d_Rf_wants_5 (by decide) rfl (by decide) ?_
    refine wp_iconst (q := 9) d_Rf_wants_8 rfl ic_m1 ?_
    refine wp_iret d_Rf_wants_9 rfl (Nat.le_refl _) (Nat.le_refl _) ?_
    simp only [sp_wants, inn, inb, inm, btw, hb1, not_true_eq_false, not_false_eq_true, or_false, false_or, or_true, true_or, and_true, true_and, and_false, false_and, or_self, and_self, if_true, if_false, ite_true, ite_false, eq_self] at hK
    first | exact hK | (simp (disch := omega) only [tput_eq, tput2, tput_ne, upd_eq, upd_ne, ne_eq, va_upeq, va_upne, va_up2, not_true_eq_false, not_false_eq_true, or_false, false_or, or_true, true_or, and_true, true_and, and_false, false_and, or_self, and_self, if_true, if_false, ite_true, ite_false, eq_self] at hK ⊢; exact hK) | (simp (disch := omega) only [tput_eq, tput2, tput_ne, upd_eq, upd_ne, ne_eq, va_upeq, va_upne, va_up2, not_true_eq_false, not_false_eq_true, or_false, false_or, or_true, true_or, and_true, true_and, and_false, false_and, or_self, and_self, if_true, if_false, ite_true, ite_false, eq_self]; exact hK) | (simp (disch := omega) only [tput_eq, tput2, tput_ne, upd_eq, upd_ne, ne_eq, va_upeq, va_upne, va_up2, not_true_eq_false, not_false_eq_true, or_false, false_or, or_true, true_or, and_true, true_and, and_false, false_and, or_self, and_self, if_true, if_false, ite_true, ite_false, eq_self] at hK; exact hK)
def sp_fights (c : T2) (f : Int32) : Int32 × T2 := if ¬ inn f 9999 then (-2, c) else (c 32 3, tput c 32 (upd (c 32) 3 f))
theorem d_FG_fights_0 : decode M_FG_fights.2.1 0 = .ok (.iload_n 1, 1) := by decide +kernel
theorem d_FG_fights_1 : decode M_FG_fights.2.1 1 = .ok (.iconst 0, 1) := by decide +kernel
theorem d_FG_fights_2 : decode M_FG_fights.2.1 2 = .ok (.sipush 9999, 3) := by decide +kernel
theorem d_FG_fights_5 : decode M_FG_fights.2.1 5 = .ok (.invokestatic 61, 3) := by decide +kernel
theorem d_FG_fights_8 : decode M_FG_fights.2.1 8 = .ok (.ifCond .ne 6, 3) := by decide +kernel
theorem d_FG_fights_11 : decode M_FG_fights.2.1 11 = .ok (.bipush (-2), 2) := by decide +kernel
theorem d_FG_fights_13 : decode M_FG_fights.2.1 13 = .ok (.ireturn, 1) := by decide +kernel
theorem d_FG_fights_14 : decode M_FG_fights.2.1 14 = .ok (.aload_n 0, 1) := by decide +kernel
theorem d_FG_fights_15 : decode M_FG_fights.2.1 15 = .ok (.getfield 275, 3) := by decide +kernel
theorem d_FG_fights_18 : decode M_FG_fights.2.1 18 = .ok (.istore_n 2, 1) := by decide +kernel
theorem d_FG_fights_19 : decode M_FG_fights.2.1 19 = .ok (.aload_n 0, 1) := by decide +kernel
theorem d_FG_fights_20 : decode M_FG_fights.2.1 20 = .ok (.iload_n 1, 1) := by decide +kernel
theorem d_FG_fights_21 : decode M_FG_fights.2.1 21 = .ok (.putfield 275, 3) := by decide +kernel
theorem d_FG_fights_24 : decode M_FG_fights.2.1 24 = .ok (.iload_n 2, 1) := by decide +kernel
theorem d_FG_fights_25 : decode M_FG_fights.2.1 25 = .ok (.ireturn, 1) := by decide +kernel
set_option maxHeartbeats 4000000 in
set_option maxRecDepth 100000 in
theorem ok_FG_fights {D : xD} {N : Nat} {l : Launch} {d : Nat} {c x V : T2} {P : Nat → Int32} {ln df : Nat → Option Nat} {rest : List va_E} {K : Option Value → List va_E → Prop} {f : Int32}   (hK : K (some (.int (sp_fights c f).1)) (encC D N (sp_fights c f).2 x (va_up V 0 P) ln df ++ rest)) : Ok D N l (d + 1) M_FG_fights [.ref (N + 0), .int f] (encC D N c x (va_up V 0 P) ln df ++ rest) 0 0 K := by
  refine ok_of (L := [(0, _), (1, _)]) (by decide) (Nat.le_of_ble_eq_true rfl) rfl ?_
  refine wp_iload_n (q := 1) d_FG_fights_0 rfl rfl ?_
  refine wp_iconst (q := 2) d_FG_fights_1 rfl ic_0 ?_
  refine wp_sipush (q := 5) d_FG_fights_2 rfl sp_9999 ?_
  refine wp_cs3 (q := 8) lk_FG_61 (ro _ _ _) d_FG_fights_5 rfl (Nat.le_of_ble_eq_true rfl) (Nat.zero_le _) (Nat.zero_le _) ?_
  refine ok_FG_within0 (b := 9999) (by decide) (fun a1 ha1 e => ?_) (fun ha1 => ?_)
  · subst e
    refine wp_if_ne_t (tgt := 14) d_FG_fights_8 (by decide) (by decide) ?_
    refine wp_aload_n (q := 15) d_FG_fights_14 rfl rfl ?_
    refine wp_get (q := 18) fl_FG_275 d_FG_fights_15 rfl rfl rfl ?_
    refine wp_istore_n (q := 19) (L2 := [(2, _), (0, _), (1, _)]) d_FG_fights_18 rfl (by decide) rfl ?_
    refine wp_aload_n (q := 20) d_FG_fights_19 rfl rfl ?_
    refine wp_iload_n (q := 21) d_FG_fights_20 rfl rfl ?_
    refine wp_put (q := 24) fl_FG_275 d_FG_fights_21 rfl rfl (Nat.le_of_ble_eq_true rfl) rfl rfl (fc_s3) ?_
    refine wp_iload_n (q := 25) d_FG_fights_24 rfl rfl ?_
    refine wp_iret d_FG_fights_25 rfl (Nat.le_refl _) (Nat.le_refl _) ?_
    simp only [sp_fights, inn, inb, inm, btw, inn_t ha1, tnl ha1, not_true_eq_false, not_false_eq_true, or_false, false_or, or_true, true_or, and_true, true_and, and_false, false_and, or_self, and_self, if_true, if_false, ite_true, ite_false, eq_self] at hK
    first | exact hK | (simp (disch := omega) only [tput_eq, tput2, tput_ne, upd_eq, upd_ne, ne_eq, va_upeq, va_upne, va_up2, not_true_eq_false, not_false_eq_true, or_false, false_or, or_true, true_or, and_true, true_and, and_false, false_and, or_self, and_self, if_true, if_false, ite_true, ite_false, eq_self] at hK ⊢; exact hK) | (simp (disch := omega) only [tput_eq, tput2, tput_ne, upd_eq, upd_ne, ne_eq, va_upeq, va_upne, va_up2, not_true_eq_false, not_false_eq_true, or_false, false_or, or_true, true_or, and_true, true_and, and_false, false_and, or_self, and_self, if_true, if_false, ite_true, ite_false, eq_self]; exact hK) | (simp (disch := omega) only [tput_eq, tput2, tput_ne, upd_eq, upd_ne, ne_eq, va_upeq, va_upne, va_up2, not_true_eq_false, not_false_eq_true, or_false, false_or, or_true, true_or, and_true, true_and, and_false, false_and, or_self, and_self, if_true, if_false, ite_true, ite_false, eq_self] at hK; exact hK)
  · refine wp_if_ne_f (q := 11) (tgt := 14) d_FG_fights_8 (by decide) rfl (by decide) ?_
    refine wp_bipush (q := 13) d_FG_fights_11 rfl bp_m2 ?_
    refine wp_iret d_FG_fights_13 rfl (Nat.le_refl _) (Nat.le_refl _) ?_
    simp only [sp_fights, inn, inb, inm, btw, ha1, not_true_eq_false, not_false_eq_true, or_false, false_or, or_true, true_or, and_true, true_and, and_false, false_and, or_self, and_self, if_true, if_false, ite_true, ite_false, eq_self] at hK
    first | exact hK | (simp (disch := omega) only [tput_eq, tput2, tput_ne, upd_eq, upd_ne, ne_eq, va_upeq, va_upne, va_up2, not_true_eq_false, not_false_eq_true, or_false, false_or, or_true, true_or, and_true, true_and, and_false, false_and, or_self, and_self, if_true, if_false, ite_true, ite_false, eq_self] at hK ⊢; exact hK) | (simp (disch := omega) only [tput_eq, tput2, tput_ne, upd_eq, upd_ne, ne_eq, va_upeq, va_upne, va_up2, not_true_eq_false, not_false_eq_true, or_false, false_or, or_true, true_or, and_true, true_and, and_false, false_and, or_self, and_self, if_true, if_false, ite_true, ite_false, eq_self]; exact hK) | (simp (disch := omega) only [tput_eq, tput2, tput_ne, upd_eq, upd_ne, ne_eq, va_upeq, va_upne, va_up2, not_true_eq_false, not_false_eq_true, or_false, false_or, or_true, true_or, and_true, true_and, and_false, false_and, or_self, and_self, if_true, if_false, ite_true, ite_false, eq_self] at hK; exact hK)
theorem d_Rf_fights_0 : decode M_Rf_fights.2.1 0 = .ok (.iload_n 1, 1) := by decide +kernel
theorem d_Rf_fights_1 : decode M_Rf_fights.2.1 1 = .ok (.iconst 0, 1) := by decide +kernel
theorem d_Rf_fights_2 : decode M_Rf_fights.2.1 2 = .ok (.sipush 9999, 3) := by decide +kernel
theorem d_Rf_fights_5 : decode M_Rf_fights.2.1 5 = .ok (.invokestatic 151, 3) := by decide +kernel
theorem d_Rf_fights_8 : decode M_Rf_fights.2.1 8 = .ok (.ifCond .ne 6, 3) := by decide +kernel
theorem d_Rf_fights_11 : decode M_Rf_fights.2.1 11 = .ok (.bipush (-2), 2) := by decide +kernel
theorem d_Rf_fights_13 : decode M_Rf_fights.2.1 13 = .ok (.ireturn, 1) := by decide +kernel
theorem d_Rf_fights_14 : decode M_Rf_fights.2.1 14 = .ok (.aload_n 0, 1) := by decide +kernel
theorem d_Rf_fights_15 : decode M_Rf_fights.2.1 15 = .ok (.getfield 291, 3) := by decide +kernel
theorem d_Rf_fights_18 : decode M_Rf_fights.2.1 18 = .ok (.istore_n 2, 1) := by decide +kernel
theorem d_Rf_fights_19 : decode M_Rf_fights.2.1 19 = .ok (.aload_n 0, 1) := by decide +kernel
theorem d_Rf_fights_20 : decode M_Rf_fights.2.1 20 = .ok (.iload_n 1, 1) := by decide +kernel
theorem d_Rf_fights_21 : decode M_Rf_fights.2.1 21 = .ok (.putfield 291, 3) := by decide +kernel
theorem d_Rf_fights_24 : decode M_Rf_fights.2.1 24 = .ok (.iload_n 2, 1) := by decide +kernel
theorem d_Rf_fights_25 : decode M_Rf_fights.2.1 25 = .ok (.ireturn, 1) := by decide +kernel
set_option maxHeartbeats 4000000 in
set_option maxRecDepth 100000 in
theorem ok_Rf_fights {D : xD} {N : Nat} {l : Launch} {d : Nat} {c z : T2} {P Q : Nat → Int32} {rest : List va_E} {K : Option Value → List va_E → Prop} {f : Int32}   (hK : K (some (.int (sp_fights c f).1)) (encR D N (sp_fights c f).2 z P Q ++ rest)) : Ok D N l (d + 1) M_Rf_fights [.ref (N + 0), .int f] (encR D N c z P Q ++ rest) 0 0 K := by
  refine ok_of (L := [(0, _), (1, _)]) (by decide) (Nat.le_of_ble_eq_true rfl) rfl ?_
  refine wp_iload_n (q := 1) d_Rf_fights_0 rfl rfl ?_
  refine wp_iconst (q := 2) d_Rf_fights_1 rfl ic_0 ?_
  refine wp_sipush (q := 5) d_Rf_fights_2 rfl sp_9999 ?_
  refine wp_cs3 (q := 8) lk_Rf_151 (ro _ _ _) d_Rf_fights_5 rfl (Nat.le_of_ble_eq_true rfl) (Nat.zero_le _) (Nat.zero_le _) ?_
  refine ok_Rf_in0 (b := 9999) (by decide) (fun a1 ha1 e => ?_) (fun ha1 => ?_)
  · subst e
    refine wp_if_ne_t (tgt := 14) d_Rf_fights_8 (by decide) (by decide) ?_
    refine wp_aload_n (q := 15) d_Rf_fights_14 rfl rfl ?_
    refine wp_get (q := 18) fl_Rf_291 d_Rf_fights_15 rfl rfl rfl ?_
    refine wp_istore_n (q := 19) (L2 := [(2, _), (0, _), (1, _)]) d_Rf_fights_18 rfl (by decide) rfl ?_
    refine wp_aload_n (q := 20) d_Rf_fights_19 rfl rfl ?_
    refine wp_iload_n (q := 21) d_Rf_fights_20 rfl rfl ?_
    refine wp_put (q := 24) fl_Rf_291 d_Rf_fights_21 rfl rfl (Nat.le_of_ble_eq_true rfl) rfl rfl (fr_s3) ?_
    refine wp_iload_n (q := 25) d_Rf_fights_24 rfl rfl ?_
    refine wp_iret d_Rf_fights_25 rfl (Nat.le_refl _) (Nat.le_refl _) ?_
    simp only [sp_fights, inn, inb, inm, btw, inn_t ha1, tnl ha1, not_true_eq_false, not_false_eq_true, or_false, false_or, or_true, true_or, and_true, true_and, and_false, false_and, or_self, and_self, if_true, if_false, ite_true, ite_false, eq_self] at hK
    first | exact hK | (simp (disch := omega) only [tput_eq, tput2, tput_ne, upd_eq, upd_ne, ne_eq, va_upeq, va_upne, va_up2, not_true_eq_false, not_false_eq_true, or_false, false_or, or_true, true_or, and_true, true_and, and_false, false_and, or_self, and_self, if_true, if_false, ite_true, ite_false, eq_self] at hK ⊢; exact hK) | (simp (disch := omega) only [tput_eq, tput2, tput_ne, upd_eq, upd_ne, ne_eq, va_upeq, va_upne, va_up2, not_true_eq_false, not_false_eq_true, or_false, false_or, or_true, true_or, and_true, true_and, and_false, false_and, or_self, and_self, if_true, if_false, ite_true, ite_false, eq_self]; exact hK) | (simp (disch := omega) only [tput_eq, tput2, tput_ne, upd_eq, upd_ne, ne_eq, va_upeq, va_upne, va_up2, not_true_eq_false, not_false_eq_true, or_false, false_or, or_true, true_or, and_true, true_and, and_false, false_and, or_self, and_self, if_true, if_false, ite_true, ite_false, eq_self] at hK; exact hK)
  · refine wp_if_ne_f (q := 11) (tgt := 14) d_Rf_fights_8 (by decide) rfl (by decide) ?_
    refine wp_bipush (q := 13) d_Rf_fights_11 rfl bp_m2 ?_
    refine wp_iret d_Rf_fights_13 rfl (Nat.le_refl _) (Nat.le_refl _) ?_
    simp only [sp_fights, inn, inb, inm, btw, ha1, not_true_eq_false, not_false_eq_true, or_false, false_or, or_true, true_or, and_true, true_and, and_false, false_and, or_self, and_self, if_true, if_false, ite_true, ite_false, eq_self] at hK
    first | exact hK | (simp (disch := omega) only [tput_eq, tput2, tput_ne, upd_eq, upd_ne, ne_eq, va_upeq, va_upne, va_up2, not_true_eq_false, not_false_eq_true, or_false, false_or, or_true, true_or, and_true, true_and, and_false, false_and, or_self, and_self, if_true, if_false, ite_true, ite_false, eq_self] at hK ⊢; exact hK) | (simp (disch := omega) only [tput_eq, tput2, tput_ne, upd_eq, upd_ne, ne_eq, va_upeq, va_upne, va_up2, not_true_eq_false, not_false_eq_true, or_false, false_or, or_true, true_or, and_true, true_and, and_false, false_and, or_self, and_self, if_true, if_false, ite_true, ite_false, eq_self]; exact hK) | (simp (disch := omega) only [tput_eq, tput2, tput_ne, upd_eq, upd_ne, ne_eq, va_upeq, va_upne, va_up2, not_true_eq_false, not_false_eq_true, or_false, false_or, or_true, true_or, and_true, true_and, and_false, false_and, or_self, and_self, if_true, if_false, ite_true, ite_false, eq_self] at hK; exact hK)
def sp_round (c : T2) (m s : Int32) : Int32 × T2 := if ¬ btw (nI 2) m (nI 6) ∨ ¬ btw (nI 1) s (nI 999) then (-2, c) else if ¬ c 32 4 ≤ 0 then (-3, c) else (m, tput c 32 (upd (upd (c 32) 4 m) 5 s))
theorem d_FG_round_0 : decode M_FG_round.2.1 0 = .ok (.iload_n 1, 1) := by decide +kernel
theorem d_FG_round_1 : decode M_FG_round.2.1 1 = .ok (.iconst 2, 1) := by decide +kernel
theorem d_FG_round_2 : decode M_FG_round.2.1 2 = .ok (.bipush 6, 2) := by decide +kernel
theorem d_FG_round_4 : decode M_FG_round.2.1 4 = .ok (.invokestatic 61, 3) := by decide +kernel
theorem d_FG_round_7 : decode M_FG_round.2.1 7 = .ok (.ifCond .eq 14, 3) := by decide +kernel
theorem d_FG_round_10 : decode M_FG_round.2.1 10 = .ok (.iload_n 2, 1) := by decide +kernel
theorem d_FG_round_11 : decode M_FG_round.2.1 11 = .ok (.iconst 1, 1) := by decide +kernel
theorem d_FG_round_12 : decode M_FG_round.2.1 12 = .ok (.sipush 999, 3) := by decide +kernel
theorem d_FG_round_15 : decode M_FG_round.2.1 15 = .ok (.invokestatic 61, 3) := by decide +kernel
theorem d_FG_round_18 : decode M_FG_round.2.1 18 = .ok (.ifCond .ne 6, 3) := by decide +kernel
theorem d_FG_round_21 : decode M_FG_round.2.1 21 = .ok (.bipush (-2), 2) := by decide +kernel
theorem d_FG_round_23 : decode M_FG_round.2.1 23 = .ok (.ireturn, 1) := by decide +kernel
theorem d_FG_round_24 : decode M_FG_round.2.1 24 = .ok (.aload_n 0, 1) := by decide +kernel
theorem d_FG_round_25 : decode M_FG_round.2.1 25 = .ok (.getfield 239, 3) := by decide +kernel
theorem d_FG_round_28 : decode M_FG_round.2.1 28 = .ok (.ifCond .le 6, 3) := by decide +kernel
theorem d_FG_round_31 : decode M_FG_round.2.1 31 = .ok (.bipush (-3), 2) := by decide +kernel
theorem d_FG_round_33 : decode M_FG_round.2.1 33 = .ok (.ireturn, 1) := by decide +kernel
theorem d_FG_round_34 : decode M_FG_round.2.1 34 = .ok (.aload_n 0, 1) := by decide +kernel
theorem d_FG_round_35 : decode M_FG_round.2.1 35 = .ok (.iload_n 1, 1) := by decide +kernel
theorem d_FG_round_36 : decode M_FG_round.2.1 36 = .ok (.putfield 239, 3) := by decide +kernel
theorem d_FG_round_39 : decode M_FG_round.2.1 39 = .ok (.aload_n 0, 1) := by decide +kernel
theorem d_FG_round_40 : decode M_FG_round.2.1 40 = .ok (.iload_n 2, 1) := by decide +kernel
theorem d_FG_round_41 : decode M_FG_round.2.1 41 = .ok (.putfield 284, 3) := by decide +kernel
theorem d_FG_round_44 : decode M_FG_round.2.1 44 = .ok (.iload_n 1, 1) := by decide +kernel
theorem d_FG_round_45 : decode M_FG_round.2.1 45 = .ok (.ireturn, 1) := by decide +kernel
set_option maxHeartbeats 4000000 in
set_option maxRecDepth 100000 in
theorem ok_FG_round {D : xD} {N : Nat} {l : Launch} {d : Nat} {c x V : T2} {P : Nat → Int32} {ln df : Nat → Option Nat} {rest : List va_E} {K : Option Value → List va_E → Prop} {m : Int32} {s : Int32}   (hK : K (some (.int (sp_round c m s).1)) (encC D N (sp_round c m s).2 x (va_up V 0 P) ln df ++ rest)) : Ok D N l (d + 1) M_FG_round [.ref (N + 0), .int m, .int s] (encC D N c x (va_up V 0 P) ln df ++ rest) 0 0 K := by
  refine ok_of (L := [(0, _), (1, _), (2, _)]) (by decide) (Nat.le_of_ble_eq_true rfl) rfl ?_
  refine wp_iload_n (q := 1) d_FG_round_0 rfl rfl ?_
  refine wp_iconst (q := 2) d_FG_round_1 rfl ic_2 ?_
  refine wp_bipush (q := 4) d_FG_round_2 rfl bp_6 ?_
  refine wp_cs3 (q := 7) lk_FG_61 (ro _ _ _) d_FG_round_4 rfl (Nat.le_of_ble_eq_true rfl) (Nat.zero_le _) (Nat.zero_le _) ?_
  refine ok_FG_within (fun ha1a ha1b => ?_) (fun ha1 => ?_)
  · refine wp_if_eq_f (q := 10) (tgt := 21) d_FG_round_7 (by decide) rfl (by decide) ?_
    refine wp_iload_n (q := 11) d_FG_round_10 rfl rfl ?_
    refine wp_iconst (q := 12) d_FG_round_11 rfl ic_1 ?_
    refine wp_sipush (q := 15) d_FG_round_12 rfl sp_999 ?_
    refine wp_cs3 (q := 18) lk_FG_61 (ro _ _ _) d_FG_round_15 rfl (Nat.le_of_ble_eq_true rfl) (Nat.zero_le _) (Nat.zero_le _) ?_
    refine ok_FG_within (fun hb1a hb1b => ?_) (fun hb1 => ?_)
    · refine wp_if_ne_t (tgt := 24) d_FG_round_18 (by decide) (by decide) ?_
      refine wp_aload_n (q := 25) d_FG_round_24 rfl rfl ?_
      refine wp_get (q := 28) fl_FG_239 d_FG_round_25 rfl rfl rfl ?_
      refine wp_if_le (q := 31) (tgt := 34) d_FG_round_28 (by decide) rfl (fun hc_28 => ?_) (fun hc_28 => ?_)
      · refine wp_aload_n (q := 35) d_FG_round_34 rfl rfl ?_
        refine wp_iload_n (q := 36) d_FG_round_35 rfl rfl ?_
        refine wp_put (q := 39) fl_FG_239 d_FG_round_36 rfl rfl (Nat.le_of_ble_eq_true rfl) rfl rfl (fc_s4) ?_
        refine wp_aload_n (q := 40) d_FG_round_39 rfl rfl ?_
        refine wp_iload_n (q := 41) d_FG_round_40 rfl rfl ?_
        refine wp_put (q := 44) fl_FG_284 d_FG_round_41 rfl rfl (Nat.le_of_ble_eq_true rfl) rfl rfl (fc_s5) ?_
        refine wp_iload_n (q := 45) d_FG_round_44 rfl rfl ?_
        refine wp_iret d_FG_round_45 rfl (Nat.le_refl _) (Nat.le_refl _) ?_
        simp only [sp_round, inn, inb, inm, btw, ha1a, ha1b, hb1a, hb1b, hc_28, not_true_eq_false, not_false_eq_true, or_false, false_or, or_true, true_or, and_true, true_and, and_false, false_and, or_self, and_self, if_true, if_false, ite_true, ite_false, eq_self] at hK
        first | exact hK | (simp (disch := omega) only [tput_eq, tput2, tput_ne, upd_eq, upd_ne, ne_eq, va_upeq, va_upne, va_up2, not_true_eq_false, not_false_eq_true, or_false, false_or, or_true, true_or, and_true, true_and, and_false, false_and, or_self, and_self, if_true, if_false, ite_true, ite_false, eq_self] at hK ⊢; exact hK) | (simp (disch := omega) only [tput_eq, tput2, tput_ne, upd_eq, upd_ne, ne_eq, va_upeq, va_upne, va_up2, not_true_eq_false, not_false_eq_true, or_false, false_or, or_true, true_or, and_true, true_and, and_false, false_and, or_self, and_self, if_true, if_false, ite_true, ite_false, eq_self]; exact hK) | (simp (disch := omega) only [tput_eq, tput2, tput_ne, upd_eq, upd_ne, ne_eq, va_upeq, va_upne, va_up2, not_true_eq_false, not_false_eq_true, or_false, false_or, or_true, true_or, and_true, true_and, and_false, false_and, or_self, and_self, if_true, if_false, ite_true, ite_false, eq_self] at hK; exact hK)
      · refine wp_bipush (q := 33) d_FG_round_31 rfl bp_m3 ?_
        refine wp_iret d_FG_round_33 rfl (Nat.le_refl _) (Nat.le_refl _) ?_
        simp only [sp_round, inn, inb, inm, btw, ha1a, ha1b, hb1a, hb1b, hc_28, not_true_eq_false, not_false_eq_true, or_false, false_or, or_true, true_or, and_true, true_and, and_false, false_and, or_self, and_self, if_true, if_false, ite_true, ite_false, eq_self] at hK
        first | exact hK | (simp (disch := omega) only [tput_eq, tput2, tput_ne, upd_eq, upd_ne, ne_eq, va_upeq, va_upne, va_up2, not_true_eq_false, not_false_eq_true, or_false, false_or, or_true, true_or, and_true, true_and, and_false, false_and, or_self, and_self, if_true, if_false, ite_true, ite_false, eq_self] at hK ⊢; exact hK) | (simp (disch := omega) only [tput_eq, tput2, tput_ne, upd_eq, upd_ne, ne_eq, va_upeq, va_upne, va_up2, not_true_eq_false, not_false_eq_true, or_false, false_or, or_true, true_or, and_true, true_and, and_false, false_and, or_self, and_self, if_true, if_false, ite_true, ite_false, eq_self]; exact hK) | (simp (disch := omega) only [tput_eq, tput2, tput_ne, upd_eq, upd_ne, ne_eq, va_upeq, va_upne, va_up2, not_true_eq_false, not_false_eq_true, or_false, false_or, or_true, true_or, and_true, true_and, and_false, false_and, or_self, and_self, if_true, if_false, ite_true, ite_false, eq_self] at hK; exact hK)
    · refine wp_if_ne_f (q := 21) (tgt := 24) d_FG_round_18 (by decide) rfl (by decide) ?_
      refine wp_bipush (q := 23) d_FG_round_21 rfl bp_m2 ?_
      refine wp_iret d_FG_round_23 rfl (Nat.le_refl _) (Nat.le_refl _) ?_
      simp only [sp_round, inn, inb, inm, btw, ha1a, ha1b, hb1, not_true_eq_false, not_false_eq_true, or_false, false_or, or_true, true_or, and_true, true_and, and_false, false_and, or_self, and_self, if_true, if_false, ite_true, ite_false, eq_self] at hK
      first | exact hK | (simp (disch := omega) only [tput_eq, tput2, tput_ne, upd_eq, upd_ne, ne_eq, va_upeq, va_upne, va_up2, not_true_eq_false, not_false_eq_true, or_false, false_or, or_true, true_or, and_true, true_and, and_false, false_and, or_self, and_self, if_true, if_false, ite_true, ite_false, eq_self] at hK ⊢; exact hK) | (simp (disch := omega) only [tput_eq, tput2, tput_ne, upd_eq, upd_ne, ne_eq, va_upeq, va_upne, va_up2, not_true_eq_false, not_false_eq_true, or_false, false_or, or_true, true_or, and_true, true_and, and_false, false_and, or_self, and_self, if_true, if_false, ite_true, ite_false, eq_self]; exact hK) | (simp (disch := omega) only [tput_eq, tput2, tput_ne, upd_eq, upd_ne, ne_eq, va_upeq, va_upne, va_up2, not_true_eq_false, not_false_eq_true, or_false, false_or, or_true, true_or, and_true, true_and, and_false, false_and, or_self, and_self, if_true, if_false, ite_true, ite_false, eq_self] at hK; exact hK)
  · refine wp_if_eq_t (tgt := 21) d_FG_round_7 (by decide) (by decide) ?_
    refine wp_bipush (q := 23) d_FG_round_21 rfl bp_m2 ?_
    refine wp_iret d_FG_round_23 rfl (Nat.le_refl _) (Nat.le_refl _) ?_
    simp only [sp_round, inn, inb, inm, btw, ha1, not_true_eq_false, not_false_eq_true, or_false, false_or, or_true, true_or, and_true, true_and, and_false, false_and, or_self, and_self, if_true, if_false, ite_true, ite_false, eq_self] at hK
    first | exact hK | (simp (disch := omega) only [tput_eq, tput2, tput_ne, upd_eq, upd_ne, ne_eq, va_upeq, va_upne, va_up2, not_true_eq_false, not_false_eq_true, or_false, false_or, or_true, true_or, and_true, true_and, and_false, false_and, or_self, and_self, if_true, if_false, ite_true, ite_false, eq_self] at hK ⊢; exact hK) | (simp (disch := omega) only [tput_eq, tput2, tput_ne, upd_eq, upd_ne, ne_eq, va_upeq, va_upne, va_up2, not_true_eq_false, not_false_eq_true, or_false, false_or, or_true, true_or, and_true, true_and, and_false, false_and, or_self, and_self, if_true, if_false, ite_true, ite_false, eq_self]; exact hK) | (simp (disch := omega) only [tput_eq, tput2, tput_ne, upd_eq, upd_ne, ne_eq, va_upeq, va_upne, va_up2, not_true_eq_false, not_false_eq_true, or_false, false_or, or_true, true_or, and_true, true_and, and_false, false_and, or_self, and_self, if_true, if_false, ite_true, ite_false, eq_self] at hK; exact hK)
theorem d_Rf_round_0 : decode M_Rf_round.2.1 0 = .ok (.iload_n 1, 1) := by decide +kernel
theorem d_Rf_round_1 : decode M_Rf_round.2.1 1 = .ok (.iconst 2, 1) := by decide +kernel
theorem d_Rf_round_2 : decode M_Rf_round.2.1 2 = .ok (.bipush 6, 2) := by decide +kernel
theorem d_Rf_round_4 : decode M_Rf_round.2.1 4 = .ok (.invokestatic 151, 3) := by decide +kernel
theorem d_Rf_round_7 : decode M_Rf_round.2.1 7 = .ok (.ifCond .eq 14, 3) := by decide +kernel
theorem d_Rf_round_10 : decode M_Rf_round.2.1 10 = .ok (.iload_n 2, 1) := by decide +kernel
theorem d_Rf_round_11 : decode M_Rf_round.2.1 11 = .ok (.iconst 1, 1) := by decide +kernel
theorem d_Rf_round_12 : decode M_Rf_round.2.1 12 = .ok (.sipush 999, 3) := by decide +kernel
theorem d_Rf_round_15 : decode M_Rf_round.2.1 15 = .ok (.invokestatic 151, 3) := by decide +kernel
theorem d_Rf_round_18 : decode M_Rf_round.2.1 18 = .ok (.ifCond .ne 6, 3) := by decide +kernel
theorem d_Rf_round_21 : decode M_Rf_round.2.1 21 = .ok (.bipush (-2), 2) := by decide +kernel
theorem d_Rf_round_23 : decode M_Rf_round.2.1 23 = .ok (.ireturn, 1) := by decide +kernel
theorem d_Rf_round_24 : decode M_Rf_round.2.1 24 = .ok (.aload_n 0, 1) := by decide +kernel
theorem d_Rf_round_25 : decode M_Rf_round.2.1 25 = .ok (.getfield 267, 3) := by decide +kernel
theorem d_Rf_round_28 : decode M_Rf_round.2.1 28 = .ok (.ifCond .le 6, 3) := by decide +kernel
theorem d_Rf_round_31 : decode M_Rf_round.2.1 31 = .ok (.bipush (-3), 2) := by decide +kernel
theorem d_Rf_round_33 : decode M_Rf_round.2.1 33 = .ok (.ireturn, 1) := by decide +kernel
theorem d_Rf_round_34 : decode M_Rf_round.2.1 34 = .ok (.aload_n 0, 1) := by decide +kernel
theorem d_Rf_round_35 : decode M_Rf_round.2.1 35 = .ok (.iload_n 1, 1) := by decide +kernel
theorem d_Rf_round_36 : decode M_Rf_round.2.1 36 = .ok (.putfield 267, 3) := by decide +kernel
theorem d_Rf_round_39 : decode M_Rf_round.2.1 39 = .ok (.aload_n 0, 1) := by decide +kernel
theorem d_Rf_round_40 : decode M_Rf_round.2.1 40 = .ok (.iload_n 2, 1) := by decide +kernel
theorem d_Rf_round_41 : decode M_Rf_round.2.1 41 = .ok (.putfield 297, 3) := by decide +kernel
theorem d_Rf_round_44 : decode M_Rf_round.2.1 44 = .ok (.iload_n 1, 1) := by decide +kernel
theorem d_Rf_round_45 : decode M_Rf_round.2.1 45 = .ok (.ireturn, 1) := by decide +kernel
set_option maxHeartbeats 4000000 in
set_option maxRecDepth 100000 in
theorem ok_Rf_round {D : xD} {N : Nat} {l : Launch} {d : Nat} {c z : T2} {P Q : Nat → Int32} {rest : List va_E} {K : Option Value → List va_E → Prop} {m : Int32} {s : Int32}   (hK : K (some (.int (sp_round c m s).1)) (encR D N (sp_round c m s).2 z P Q ++ rest)) : Ok D N l (d + 1) M_Rf_round [.ref (N + 0), .int m, .int s] (encR D N c z P Q ++ rest) 0 0 K := by
  refine ok_of (L := [(0, _), (1, _), (2, _)]) (by decide) (Nat.le_of_ble_eq_true rfl) rfl ?_
  refine wp_iload_n (q := 1) d_Rf_round_0 rfl rfl ?_
  refine wp_iconst (q := 2) d_Rf_round_1 rfl ic_2 ?_
  refine wp_bipush (q := 4) d_Rf_round_2 rfl bp_6 ?_
  refine wp_cs3 (q := 7) lk_Rf_151 (ro _ _ _) d_Rf_round_4 rfl (Nat.le_of_ble_eq_true rfl) (Nat.zero_le _) (Nat.zero_le _) ?_
  refine ok_Rf_in (fun ha1a ha1b => ?_) (fun ha1 => ?_)
  · refine wp_if_eq_f (q := 10) (tgt := 21) d_Rf_round_7 (by decide) rfl (by decide) ?_
    refine wp_iload_n (q := 11) d_Rf_round_10 rfl rfl ?_
    refine wp_iconst (q := 12) d_Rf_round_11 rfl ic_1 ?_
    refine wp_sipush (q := 15) d_Rf_round_12 rfl sp_999 ?_
    refine wp_cs3 (q := 18) lk_Rf_151 (ro _ _ _) d_Rf_round_15 rfl (Nat.le_of_ble_eq_true rfl) (Nat.zero_le _) (Nat.zero_le _) ?_
    refine ok_Rf_in (fun hb1a hb1b => ?_) (fun hb1 => ?_)
    · refine wp_if_ne_t (tgt := 24) d_Rf_round_18 (by decide) (by decide) ?_
      refine wp_aload_n (q := 25) d_Rf_round_24 rfl rfl ?_
      refine wp_get (q := 28) fl_Rf_267 d_Rf_round_25 rfl rfl rfl ?_
      refine wp_if_le (q := 31) (tgt := 34) d_Rf_round_28 (by decide) rfl (fun hc_28 => ?_) (fun hc_28 => ?_)
      · refine wp_aload_n (q := 35) d_Rf_round_34 rfl rfl ?_
        refine wp_iload_n (q := 36) d_Rf_round_35 rfl rfl ?_
        refine wp_put (q := 39) fl_Rf_267 d_Rf_round_36 rfl rfl (Nat.le_of_ble_eq_true rfl) rfl rfl (fr_s4) ?_
        refine wp_aload_n (q := 40) d_Rf_round_39 rfl rfl ?_
        refine wp_iload_n (q := 41) d_Rf_round_40 rfl rfl ?_
        refine wp_put (q := 44) fl_Rf_297 d_Rf_round_41 rfl rfl (Nat.le_of_ble_eq_true rfl) rfl rfl (fr_s5) ?_
        refine wp_iload_n (q := 45) d_Rf_round_44 rfl rfl ?_
        refine wp_iret d_Rf_round_45 rfl (Nat.le_refl _) (Nat.le_refl _) ?_
        simp only [sp_round, inn, inb, inm, btw, ha1a, ha1b, hb1a, hb1b, hc_28, not_true_eq_false, not_false_eq_true, or_false, false_or, or_true, true_or, and_true, true_and, and_false, false_and, or_self, and_self, if_true, if_false, ite_true, ite_false, eq_self] at hK
        first | exact hK | (simp (disch := omega) only [tput_eq, tput2, tput_ne, upd_eq, upd_ne, ne_eq, va_upeq, va_upne, va_up2, not_true_eq_false, not_false_eq_true, or_false, false_or, or_true, true_or, and_true, true_and, and_false, false_and, or_self, and_self, if_true, if_false, ite_true, ite_false, eq_self] at hK ⊢; exact hK) | (simp (disch := omega) only [tput_eq, tput2, tput_ne, upd_eq, upd_ne, ne_eq, va_upeq, va_upne, va_up2, not_true_eq_false, not_false_eq_true, or_false, false_or, or_true, true_or, and_true, true_and, and_false, false_and, or_self, and_self, if_true, if_false, ite_true, ite_false, eq_self]; exact hK) | (simp (disch := omega) only [tput_eq, tput2, tput_ne, upd_eq, upd_ne, ne_eq, va_upeq, va_upne, va_up2, not_true_eq_false, not_false_eq_true, or_false, false_or, or_true, true_or, and_true, true_and, and_false, false_and, or_self, and_self, if_true, if_false, ite_true, ite_false, eq_self] at hK; exact hK)
      · refine wp_bipush (q := 33) d_Rf_round_31 rfl bp_m3 ?_
        refine wp_iret d_Rf_round_33 rfl (Nat.le_refl _) (Nat.le_refl _) ?_
        simp only [sp_round, inn, inb, inm, btw, ha1a, ha1b, hb1a, hb1b, hc_28, not_true_eq_false, not_false_eq_true, or_false, false_or, or_true, true_or, and_true, true_and, and_false, false_and, or_self, and_self, if_true, if_false, ite_true, ite_false, eq_self] at hK
        first | exact hK | (simp (disch := omega) only [tput_eq, tput2, tput_ne, upd_eq, upd_ne, ne_eq, va_upeq, va_upne, va_up2, not_true_eq_false, not_false_eq_true, or_false, false_or, or_true, true_or, and_true, true_and, and_false, false_and, or_self, and_self, if_true, if_false, ite_true, ite_false, eq_self] at hK ⊢; exact hK) | (simp (disch := omega) only [tput_eq, tput2, tput_ne, upd_eq, upd_ne, ne_eq, va_upeq, va_upne, va_up2, not_true_eq_false, not_false_eq_true, or_false, false_or, or_true, true_or, and_true, true_and, and_false, false_and, or_self, and_self, if_true, if_false, ite_true, ite_false, eq_self]; exact hK) | (simp (disch := omega) only [tput_eq, tput2, tput_ne, upd_eq, upd_ne, ne_eq, va_upeq, va_upne, va_up2, not_true_eq_false, not_false_eq_true, or_false, false_or, or_true, true_or, and_true, true_and, and_false, false_and, or_self, and_self, if_true, if_false, ite_true, ite_false, eq_self] at hK; exact hK)
    · refine wp_if_ne_f (q := 21) (tgt := 24) d_Rf_round_18 (by decide) rfl (by decide) ?_
      refine wp_bipush (q := 23) d_Rf_round_21 rfl bp_m2 ?_
      refine wp_iret d_Rf_round_23 rfl (Nat.le_refl _) (Nat.le_refl _) ?_
      simp only [sp_round, inn, inb, inm, btw, ha1a, ha1b, hb1, not_true_eq_false, not_false_eq_true, or_false, false_or, or_true, true_or, and_true, true_and, and_false, false_and, or_self, and_self, if_true, if_false, ite_true, ite_false, eq_self] at hK
      first | exact hK | (simp (disch := omega) only [tput_eq, tput2, tput_ne, upd_eq, upd_ne, ne_eq, va_upeq, va_upne, va_up2, not_true_eq_false, not_false_eq_true, or_false, false_or, or_true, true_or, and_true, true_and, and_false, false_and, or_self, and_self, if_true, if_false, ite_true, ite_false, eq_self] at hK ⊢; exact hK) | (simp (disch := omega) only [tput_eq, tput2, tput_ne, upd_eq, upd_ne, ne_eq, va_upeq, va_upne, va_up2, not_true_eq_false, not_false_eq_true, or_false, false_or, or_true, true_or, and_true, true_and, and_false, false_and, or_self, and_self, if_true, if_false, ite_true, ite_false, eq_self]; exact hK) | (simp (disch := omega) only [tput_eq, tput2, tput_ne, upd_eq, upd_ne, ne_eq, va_upeq, va_upne, va_up2, not_true_eq_false, not_false_eq_true, or_false, false_or, or_true, true_or, and_true, true_and, and_false, false_and, or_self, and_self, if_true, if_false, ite_true, ite_false, eq_self] at hK; exact hK)
  · refine wp_if_eq_t (tgt := 21) d_Rf_round_7 (by decide) (by decide) ?_
    refine wp_bipush (q := 23) d_Rf_round_21 rfl bp_m2 ?_
    refine wp_iret d_Rf_round_23 rfl (Nat.le_refl _) (Nat.le_refl _) ?_
    simp only [sp_round, inn, inb, inm, btw, ha1, not_true_eq_false, not_false_eq_true, or_false, false_or, or_true, true_or, and_true, true_and, and_false, false_and, or_self, and_self, if_true, if_false, ite_true, ite_false, eq_self] at hK
    first | exact hK | (simp (disch := omega) only [tput_eq, tput2, tput_ne, upd_eq, upd_ne, ne_eq, va_upeq, va_upne, va_up2, not_true_eq_false, not_false_eq_true, or_false, false_or, or_true, true_or, and_true, true_and, and_false, false_and, or_self, and_self, if_true, if_false, ite_true, ite_false, eq_self] at hK ⊢; exact hK) | (simp (disch := omega) only [tput_eq, tput2, tput_ne, upd_eq, upd_ne, ne_eq, va_upeq, va_upne, va_up2, not_true_eq_false, not_false_eq_true, or_false, false_or, or_true, true_or, and_true, true_and, and_false, false_and, or_self, and_self, if_true, if_false, ite_true, ite_false, eq_self]; exact hK) | (simp (disch := omega) only [tput_eq, tput2, tput_ne, upd_eq, upd_ne, ne_eq, va_upeq, va_upne, va_up2, not_true_eq_false, not_false_eq_true, or_false, false_or, or_true, true_or, and_true, true_and, and_false, false_and, or_self, and_self, if_true, if_false, ite_true, ite_false, eq_self] at hK; exact hK)
def sp_planned (c : T2) : Int32 := c 32 2
theorem d_FG_planned_0 : decode M_FG_planned.2.1 0 = .ok (.aload_n 0, 1) := by decide +kernel
theorem d_FG_planned_1 : decode M_FG_planned.2.1 1 = .ok (.getfield 272, 3) := by decide +kernel
theorem d_FG_planned_4 : decode M_FG_planned.2.1 4 = .ok (.ireturn, 1) := by decide +kernel
set_option maxHeartbeats 4000000 in
set_option maxRecDepth 100000 in
theorem ok_FG_planned {D : xD} {N : Nat} {l : Launch} {d : Nat} {c x V : T2} {P : Nat → Int32} {ln df : Nat → Option Nat} {rest : List va_E} {K : Option Value → List va_E → Prop}    (hK : K (some (.int (sp_planned c))) (encC D N c x (va_up V 0 P) ln df ++ rest)) : Ok D N l (d + 0) M_FG_planned [.ref (N + 0)] (encC D N c x (va_up V 0 P) ln df ++ rest) 0 0 K := by
  refine ok_of (L := [(0, _)]) (by decide) (Nat.le_of_ble_eq_true rfl) rfl ?_
  refine wp_aload_n (q := 1) d_FG_planned_0 rfl rfl ?_
  refine wp_get (q := 4) fl_FG_272 d_FG_planned_1 rfl rfl rfl ?_
  refine wp_iret d_FG_planned_4 rfl (Nat.le_refl _) (Nat.le_refl _) ?_
  simp only [sp_planned, inn, inb, inm, btw, not_true_eq_false, not_false_eq_true, or_false, false_or, or_true, true_or, and_true, true_and, and_false, false_and, or_self, and_self, if_true, if_false, ite_true, ite_false, eq_self] at hK
  first | exact hK | (simp (disch := omega) only [tput_eq, tput2, tput_ne, upd_eq, upd_ne, ne_eq, va_upeq, va_upne, va_up2, not_true_eq_false, not_false_eq_true, or_false, false_or, or_true, true_or, and_true, true_and, and_false, false_and, or_self, and_self, if_true, if_false, ite_true, ite_false, eq_self] at hK ⊢; exact hK) | (simp (disch := omega) only [tput_eq, tput2, tput_ne, upd_eq, upd_ne, ne_eq, va_upeq, va_upne, va_up2, not_true_eq_false, not_false_eq_true, or_false, false_or, or_true, true_or, and_true, true_and, and_false, false_and, or_self, and_self, if_true, if_false, ite_true, ite_false, eq_self]; exact hK) | (simp (disch := omega) only [tput_eq, tput2, tput_ne, upd_eq, upd_ne, ne_eq, va_upeq, va_upne, va_up2, not_true_eq_false, not_false_eq_true, or_false, false_or, or_true, true_or, and_true, true_and, and_false, false_and, or_self, and_self, if_true, if_false, ite_true, ite_false, eq_self] at hK; exact hK)
theorem d_Rf_planned_0 : decode M_Rf_planned.2.1 0 = .ok (.aload_n 0, 1) := by decide +kernel
theorem d_Rf_planned_1 : decode M_Rf_planned.2.1 1 = .ok (.getfield 288, 3) := by decide +kernel
theorem d_Rf_planned_4 : decode M_Rf_planned.2.1 4 = .ok (.ireturn, 1) := by decide +kernel
set_option maxHeartbeats 4000000 in
set_option maxRecDepth 100000 in
theorem ok_Rf_planned {D : xD} {N : Nat} {l : Launch} {d : Nat} {c z : T2} {P Q : Nat → Int32} {rest : List va_E} {K : Option Value → List va_E → Prop}    (hK : K (some (.int (sp_planned c))) (encR D N c z P Q ++ rest)) : Ok D N l (d + 0) M_Rf_planned [.ref (N + 0)] (encR D N c z P Q ++ rest) 0 0 K := by
  refine ok_of (L := [(0, _)]) (by decide) (Nat.le_of_ble_eq_true rfl) rfl ?_
  refine wp_aload_n (q := 1) d_Rf_planned_0 rfl rfl ?_
  refine wp_get (q := 4) fl_Rf_288 d_Rf_planned_1 rfl rfl rfl ?_
  refine wp_iret d_Rf_planned_4 rfl (Nat.le_refl _) (Nat.le_refl _) ?_
  simp only [sp_planned, inn, inb, inm, btw, not_true_eq_false, not_false_eq_true, or_false, false_or, or_true, true_or, and_true, true_and, and_false, false_and, or_self, and_self, if_true, if_false, ite_true, ite_false, eq_self] at hK
  first | exact hK | (simp (disch := omega) only [tput_eq, tput2, tput_ne, upd_eq, upd_ne, ne_eq, va_upeq, va_upne, va_up2, not_true_eq_false, not_false_eq_true, or_false, false_or, or_true, true_or, and_true, true_and, and_false, false_and, or_self, and_self, if_true, if_false, ite_true, ite_false, eq_self] at hK ⊢; exact hK) | (simp (disch := omega) only [tput_eq, tput2, tput_ne, upd_eq, upd_ne, ne_eq, va_upeq, va_upne, va_up2, not_true_eq_false, not_false_eq_true, or_false, false_or, or_true, true_or, and_true, true_and, and_false, false_and, or_self, and_self, if_true, if_false, ite_true, ite_false, eq_self]; exact hK) | (simp (disch := omega) only [tput_eq, tput2, tput_ne, upd_eq, upd_ne, ne_eq, va_upeq, va_upne, va_up2, not_true_eq_false, not_false_eq_true, or_false, false_or, or_true, true_or, and_true, true_and, and_false, false_and, or_self, and_self, if_true, if_false, ite_true, ite_false, eq_self] at hK; exact hK)
def sp_waiting (P : Nat → Int32) (a b : Int32) : Int32 := if ¬ inn a 5 ∨ ¬ inn b 5 then -1 else if a = b then -2 else P (6 * tn a + tn b)
theorem d_FG_waiting_0 : decode M_FG_waiting.2.1 0 = .ok (.iload_n 1, 1) := by decide +kernel
theorem d_FG_waiting_1 : decode M_FG_waiting.2.1 1 = .ok (.invokestatic 57, 3) := by decide +kernel
theorem d_FG_waiting_4 : decode M_FG_waiting.2.1 4 = .ok (.ifCond .eq 10, 3) := by decide +kernel
theorem d_FG_waiting_7 : decode M_FG_waiting.2.1 7 = .ok (.iload_n 2, 1) := by decide +kernel
theorem d_FG_waiting_8 : decode M_FG_waiting.2.1 8 = .ok (.invokestatic 57, 3) := by decide +kernel
theorem d_FG_waiting_11 : decode M_FG_waiting.2.1 11 = .ok (.ifCond .ne 5, 3) := by decide +kernel
theorem d_FG_waiting_14 : decode M_FG_waiting.2.1 14 = .ok (.iconst (-1), 1) := by decide +kernel
theorem d_FG_waiting_15 : decode M_FG_waiting.2.1 15 = .ok (.ireturn, 1) := by decide +kernel
theorem d_FG_waiting_16 : decode M_FG_waiting.2.1 16 = .ok (.iload_n 1, 1) := by decide +kernel
theorem d_FG_waiting_17 : decode M_FG_waiting.2.1 17 = .ok (.iload_n 2, 1) := by decide +kernel
theorem d_FG_waiting_18 : decode M_FG_waiting.2.1 18 = .ok (.if_icmp .ne 6, 3) := by decide +kernel
theorem d_FG_waiting_21 : decode M_FG_waiting.2.1 21 = .ok (.bipush (-2), 2) := by decide +kernel
theorem d_FG_waiting_23 : decode M_FG_waiting.2.1 23 = .ok (.ireturn, 1) := by decide +kernel
theorem d_FG_waiting_24 : decode M_FG_waiting.2.1 24 = .ok (.aload_n 0, 1) := by decide +kernel
theorem d_FG_waiting_25 : decode M_FG_waiting.2.1 25 = .ok (.getfield 19, 3) := by decide +kernel
theorem d_FG_waiting_28 : decode M_FG_waiting.2.1 28 = .ok (.getfield 193, 3) := by decide +kernel
theorem d_FG_waiting_31 : decode M_FG_waiting.2.1 31 = .ok (.iload_n 1, 1) := by decide +kernel
theorem d_FG_waiting_32 : decode M_FG_waiting.2.1 32 = .ok (.bipush 6, 2) := by decide +kernel
theorem d_FG_waiting_34 : decode M_FG_waiting.2.1 34 = .ok (.imul, 1) := by decide +kernel
theorem d_FG_waiting_35 : decode M_FG_waiting.2.1 35 = .ok (.iload_n 2, 1) := by decide +kernel
theorem d_FG_waiting_36 : decode M_FG_waiting.2.1 36 = .ok (.iadd, 1) := by decide +kernel
theorem d_FG_waiting_37 : decode M_FG_waiting.2.1 37 = .ok (.iaload, 1) := by decide +kernel
theorem d_FG_waiting_38 : decode M_FG_waiting.2.1 38 = .ok (.ireturn, 1) := by decide +kernel
set_option maxHeartbeats 4000000 in
set_option maxRecDepth 100000 in
theorem ok_FG_waiting {D : xD} {N : Nat} {l : Launch} {d : Nat} {c x V : T2} {P : Nat → Int32} {ln df : Nat → Option Nat} {rest : List va_E} {K : Option Value → List va_E → Prop} {a : Int32} {b : Int32}   (hK : K (some (.int (sp_waiting P a b))) (encC D N c x (va_up V 0 P) ln df ++ rest)) : Ok D N l (d + 2) M_FG_waiting [.ref (N + 0), .int a, .int b] (encC D N c x (va_up V 0 P) ln df ++ rest) 0 0 K := by
  refine ok_of (L := [(0, _), (1, _), (2, _)]) (by decide) (Nat.le_of_ble_eq_true rfl) rfl ?_
  refine wp_iload_n (q := 1) d_FG_waiting_0 rfl rfl ?_
  refine wp_cs1 (q := 4) lk_FG_57 (ro _ _ _) d_FG_waiting_1 rfl (Nat.le_of_ble_eq_true rfl) (Nat.zero_le _) (Nat.zero_le _) ?_
  refine ok_FG_isStage (fun a1 ha1 e => ?_) (fun ha1 => ?_)
  · subst e
    refine wp_if_eq_f (q := 7) (tgt := 14) d_FG_waiting_4 (by decide) rfl (by decide) ?_
    refine wp_iload_n (q := 8) d_FG_waiting_7 rfl rfl ?_
    refine wp_cs1 (q := 11) lk_FG_57 (ro _ _ _) d_FG_waiting_8 rfl (Nat.le_of_ble_eq_true rfl) (Nat.zero_le _) (Nat.zero_le _) ?_
    refine ok_FG_isStage (fun b1 hb1 e => ?_) (fun hb1 => ?_)
    · subst e
      refine wp_if_ne_t (tgt := 16) d_FG_waiting_11 (by decide) (by decide) ?_
      refine wp_iload_n (q := 17) d_FG_waiting_16 rfl rfl ?_
      refine wp_iload_n (q := 18) d_FG_waiting_17 rfl rfl ?_
      refine wp_icmp_ne (q := 21) (tgt := 24) d_FG_waiting_18 (by decide) rfl (fun hc_18 => ?_) (fun hc_18 => ?_)
      · refine wp_aload_n (q := 25) d_FG_waiting_24 rfl rfl ?_
        refine wp_get (q := 28) fl_FG_19 d_FG_waiting_25 rfl rfl rfl ?_
        refine wp_get (q := 31) fl_FG_193 d_FG_waiting_28 rfl (rdO (w := 0) (by decide)) rfl ?_
        refine wp_iload_n (q := 32) d_FG_waiting_31 rfl rfl ?_
        refine wp_bipush (q := 34) d_FG_waiting_32 rfl bp_6 ?_
        first | refine wp_imulC (q := 35) d_FG_waiting_34 rfl ?_ | refine wp_imul (q := 35) d_FG_waiting_34 rfl ?_
        refine wp_iload_n (q := 36) d_FG_waiting_35 rfl rfl ?_
        first | refine wp_iaddN (q := 37) d_FG_waiting_36 rfl ?_ | refine wp_iadd (q := 37) d_FG_waiting_36 rfl ?_
        refine wp_iald (q := 38) d_FG_waiting_37 rfl (rd1 (w := 0) (by decide)) (by omega) (by decide) ?_
        refine wp_iret d_FG_waiting_38 rfl (Nat.le_refl _) (Nat.le_refl _) ?_
        simp only [sp_waiting, inn, inb, inm, btw, inn_t ha1, tnl ha1, inn_t hb1, tnl hb1, hc_18, not_true_eq_false, not_false_eq_true, or_false, false_or, or_true, true_or, and_true, true_and, and_false, false_and, or_self, and_self, if_true, if_false, ite_true, ite_false, eq_self] at hK
        first | exact hK | (simp (disch := omega) only [sl_at (P := P) (o := 0) (n := 36) (show 6 * a1 + b1 < 36 by omega), tput_eq, tput2, tput_ne, upd_eq, upd_ne, ne_eq, va_upeq, va_upne, va_up2, Nat.zero_add, not_true_eq_false, not_false_eq_true, or_false, false_or, or_true, true_or, and_true, true_and, and_false, false_and, or_self, and_self, if_true, if_false, ite_true, ite_false, eq_self] at hK ⊢; exact hK) | (simp (disch := omega) only [sl_at (P := P) (o := 0) (n := 36) (show 6 * a1 + b1 < 36 by omega), tput_eq, tput2, tput_ne, upd_eq, upd_ne, ne_eq, va_upeq, va_upne, va_up2, Nat.zero_add, not_true_eq_false, not_false_eq_true, or_false, false_or, or_true, true_or, and_true, true_and, and_false, false_and, or_self, and_self, if_true, if_false, ite_true, ite_false, eq_self]; exact hK) | (simp (disch := omega) only [sl_at (P := P) (o := 0) (n := 36) (show 6 * a1 + b1 < 36 by omega), tput_eq, tput2, tput_ne, upd_eq, upd_ne, ne_eq, va_upeq, va_upne, va_up2, Nat.zero_add, not_true_eq_false, not_false_eq_true, or_false, false_or, or_true, true_or, and_true, true_and, and_false, false_and, or_self, and_self, if_true, if_false, ite_true, ite_false, eq_self] at hK; exact hK)
      · refine wp_bipush (q := 23) d_FG_waiting_21 rfl bp_m2 ?_
        refine wp_iret d_FG_waiting_23 rfl (Nat.le_refl _) (Nat.le_refl _) ?_
        simp only [sp_waiting, inn, inb, inm, btw, inn_t ha1, tnl ha1, inn_t hb1, tnl hb1, hc_18, not_true_eq_false, not_false_eq_true, or_false, false_or, or_true, true_or, and_true, true_and, and_false, false_and, or_self, and_self, if_true, if_false, ite_true, ite_false, eq_self] at hK
        first | exact hK | (simp (disch := omega) only [tput_eq, tput2, tput_ne, upd_eq, upd_ne, ne_eq, va_upeq, va_upne, va_up2, Nat.zero_add, not_true_eq_false, not_false_eq_true, or_false, false_or, or_true, true_or, and_true, true_and, and_false, false_and, or_self, and_self, if_true, if_false, ite_true, ite_false, eq_self] at hK ⊢; exact hK) | (simp (disch := omega) only [tput_eq, tput2, tput_ne, upd_eq, upd_ne, ne_eq, va_upeq, va_upne, va_up2, Nat.zero_add, not_true_eq_false, not_false_eq_true, or_false, false_or, or_true, true_or, and_true, true_and, and_false, false_and, or_self, and_self, if_true, if_false, ite_true, ite_false, eq_self]; exact hK) | (simp (disch := omega) only [tput_eq, tput2, tput_ne, upd_eq, upd_ne, ne_eq, va_upeq, va_upne, va_up2, Nat.zero_add, not_true_eq_false, not_false_eq_true, or_false, false_or, or_true, true_or, and_true, true_and, and_false, false_and, or_self, and_self, if_true, if_false, ite_true, ite_false, eq_self] at hK; exact hK)
    · refine wp_if_ne_f (q := 14) (tgt := 16) d_FG_waiting_11 (by decide) rfl (by decide) ?_
      refine wp_iconst (q := 15) d_FG_waiting_14 rfl ic_m1 ?_
      refine wp_iret d_FG_waiting_15 rfl (Nat.le_refl _) (Nat.le_refl _) ?_
      simp only [sp_waiting, inn, inb, inm, btw, inn_t ha1, tnl ha1, hb1, not_true_eq_false, not_false_eq_true, or_false, false_or, or_true, true_or, and_true, true_and, and_false, false_and, or_self, and_self, if_true, if_false, ite_true, ite_false, eq_self] at hK
      first | exact hK | (simp (disch := omega) only [tput_eq, tput2, tput_ne, upd_eq, upd_ne, ne_eq, va_upeq, va_upne, va_up2, Nat.zero_add, not_true_eq_false, not_false_eq_true, or_false, false_or, or_true, true_or, and_true, true_and, and_false, false_and, or_self, and_self, if_true, if_false, ite_true, ite_false, eq_self] at hK ⊢; exact hK) | (simp (disch := omega) only [tput_eq, tput2, tput_ne, upd_eq, upd_ne, ne_eq, va_upeq, va_upne, va_up2, Nat.zero_add, not_true_eq_false, not_false_eq_true, or_false, false_or, or_true, true_or, and_true, true_and, and_false, false_and, or_self, and_self, if_true, if_false, ite_true, ite_false, eq_self]; exact hK) | (simp (disch := omega) only [tput_eq, tput2, tput_ne, upd_eq, upd_ne, ne_eq, va_upeq, va_upne, va_up2, Nat.zero_add, not_true_eq_false, not_false_eq_true, or_false, false_or, or_true, true_or, and_true, true_and, and_false, false_and, or_self, and_self, if_true, if_false, ite_true, ite_false, eq_self] at hK; exact hK)
  · refine wp_if_eq_t (tgt := 14) d_FG_waiting_4 (by decide) (by decide) ?_
    refine wp_iconst (q := 15) d_FG_waiting_14 rfl ic_m1 ?_
    refine wp_iret d_FG_waiting_15 rfl (Nat.le_refl _) (Nat.le_refl _) ?_
    simp only [sp_waiting, inn, inb, inm, btw, ha1, not_true_eq_false, not_false_eq_true, or_false, false_or, or_true, true_or, and_true, true_and, and_false, false_and, or_self, and_self, if_true, if_false, ite_true, ite_false, eq_self] at hK
    first | exact hK | (simp (disch := omega) only [tput_eq, tput2, tput_ne, upd_eq, upd_ne, ne_eq, va_upeq, va_upne, va_up2, Nat.zero_add, not_true_eq_false, not_false_eq_true, or_false, false_or, or_true, true_or, and_true, true_and, and_false, false_and, or_self, and_self, if_true, if_false, ite_true, ite_false, eq_self] at hK ⊢; exact hK) | (simp (disch := omega) only [tput_eq, tput2, tput_ne, upd_eq, upd_ne, ne_eq, va_upeq, va_upne, va_up2, Nat.zero_add, not_true_eq_false, not_false_eq_true, or_false, false_or, or_true, true_or, and_true, true_and, and_false, false_and, or_self, and_self, if_true, if_false, ite_true, ite_false, eq_self]; exact hK) | (simp (disch := omega) only [tput_eq, tput2, tput_ne, upd_eq, upd_ne, ne_eq, va_upeq, va_upne, va_up2, Nat.zero_add, not_true_eq_false, not_false_eq_true, or_false, false_or, or_true, true_or, and_true, true_and, and_false, false_and, or_self, and_self, if_true, if_false, ite_true, ite_false, eq_self] at hK; exact hK)
theorem d_Rf_waiting_0 : decode M_Rf_waiting.2.1 0 = .ok (.iload_n 1, 1) := by decide +kernel
theorem d_Rf_waiting_1 : decode M_Rf_waiting.2.1 1 = .ok (.invokestatic 163, 3) := by decide +kernel
theorem d_Rf_waiting_4 : decode M_Rf_waiting.2.1 4 = .ok (.ifCond .eq 10, 3) := by decide +kernel
theorem d_Rf_waiting_7 : decode M_Rf_waiting.2.1 7 = .ok (.iload_n 2, 1) := by decide +kernel
theorem d_Rf_waiting_8 : decode M_Rf_waiting.2.1 8 = .ok (.invokestatic 163, 3) := by decide +kernel
theorem d_Rf_waiting_11 : decode M_Rf_waiting.2.1 11 = .ok (.ifCond .ne 7, 3) := by decide +kernel
theorem d_Rf_waiting_14 : decode M_Rf_waiting.2.1 14 = .ok (.iconst (-1), 1) := by decide +kernel
theorem d_Rf_waiting_15 : decode M_Rf_waiting.2.1 15 = .ok (.goto 26, 3) := by decide +kernel
theorem d_Rf_waiting_18 : decode M_Rf_waiting.2.1 18 = .ok (.iload_n 1, 1) := by decide +kernel
theorem d_Rf_waiting_19 : decode M_Rf_waiting.2.1 19 = .ok (.iload_n 2, 1) := by decide +kernel
theorem d_Rf_waiting_20 : decode M_Rf_waiting.2.1 20 = .ok (.if_icmp .ne 8, 3) := by decide +kernel
theorem d_Rf_waiting_23 : decode M_Rf_waiting.2.1 23 = .ok (.bipush (-2), 2) := by decide +kernel
theorem d_Rf_waiting_25 : decode M_Rf_waiting.2.1 25 = .ok (.goto 16, 3) := by decide +kernel
theorem d_Rf_waiting_28 : decode M_Rf_waiting.2.1 28 = .ok (.aload_n 0, 1) := by decide +kernel
theorem d_Rf_waiting_29 : decode M_Rf_waiting.2.1 29 = .ok (.getfield 7, 3) := by decide +kernel
theorem d_Rf_waiting_32 : decode M_Rf_waiting.2.1 32 = .ok (.iconst 0, 1) := by decide +kernel
theorem d_Rf_waiting_33 : decode M_Rf_waiting.2.1 33 = .ok (.bipush 6, 2) := by decide +kernel
theorem d_Rf_waiting_35 : decode M_Rf_waiting.2.1 35 = .ok (.iload_n 1, 1) := by decide +kernel
theorem d_Rf_waiting_36 : decode M_Rf_waiting.2.1 36 = .ok (.imul, 1) := by decide +kernel
theorem d_Rf_waiting_37 : decode M_Rf_waiting.2.1 37 = .ok (.iadd, 1) := by decide +kernel
theorem d_Rf_waiting_38 : decode M_Rf_waiting.2.1 38 = .ok (.iload_n 2, 1) := by decide +kernel
theorem d_Rf_waiting_39 : decode M_Rf_waiting.2.1 39 = .ok (.iadd, 1) := by decide +kernel
theorem d_Rf_waiting_40 : decode M_Rf_waiting.2.1 40 = .ok (.iaload, 1) := by decide +kernel
theorem d_Rf_waiting_41 : decode M_Rf_waiting.2.1 41 = .ok (.ireturn, 1) := by decide +kernel
set_option maxHeartbeats 4000000 in
set_option maxRecDepth 100000 in
theorem ok_Rf_waiting {D : xD} {N : Nat} {l : Launch} {d : Nat} {c z : T2} {P Q : Nat → Int32} {rest : List va_E} {K : Option Value → List va_E → Prop} {a : Int32} {b : Int32}   (hK : K (some (.int (sp_waiting P a b))) (encR D N c z P Q ++ rest)) : Ok D N l (d + 2) M_Rf_waiting [.ref (N + 0), .int a, .int b] (encR D N c z P Q ++ rest) 0 0 K := by
  refine ok_of (L := [(0, _), (1, _), (2, _)]) (by decide) (Nat.le_of_ble_eq_true rfl) rfl ?_
  refine wp_iload_n (q := 1) d_Rf_waiting_0 rfl rfl ?_
  refine wp_cs1 (q := 4) lk_Rf_163 (ro _ _ _) d_Rf_waiting_1 rfl (Nat.le_of_ble_eq_true rfl) (Nat.zero_le _) (Nat.zero_le _) ?_
  refine ok_Rf_isStage (fun a1 ha1 e => ?_) (fun ha1 => ?_)
  · subst e
    refine wp_if_eq_f (q := 7) (tgt := 14) d_Rf_waiting_4 (by decide) rfl (by decide) ?_
    refine wp_iload_n (q := 8) d_Rf_waiting_7 rfl rfl ?_
    refine wp_cs1 (q := 11) lk_Rf_163 (ro _ _ _) d_Rf_waiting_8 rfl (Nat.le_of_ble_eq_true rfl) (Nat.zero_le _) (Nat.zero_le _) ?_
    refine ok_Rf_isStage (fun b1 hb1 e => ?_) (fun hb1 => ?_)
    · subst e
      refine wp_if_ne_t (tgt := 18) d_Rf_waiting_11 (by decide) (by decide) ?_
      refine wp_iload_n (q := 19) d_Rf_waiting_18 rfl rfl ?_
      refine wp_iload_n (q := 20) d_Rf_waiting_19 rfl rfl ?_
      refine wp_icmp_ne (q := 23) (tgt := 28) d_Rf_waiting_20 (by decide) rfl (fun hc_20 => ?_) (fun hc_20 => ?_)
      · refine wp_aload_n (q := 29) d_Rf_waiting_28 rfl rfl ?_
        refine wp_get (q := 32) fl_Rf_7 d_Rf_waiting_29 rfl rfl rfl ?_
        refine wp_iconst (q := 33) d_Rf_waiting_32 rfl ic_0 ?_
        refine wp_bipush (q := 35) d_Rf_waiting_33 rfl bp_6 ?_
        refine wp_iload_n (q := 36) d_Rf_waiting_35 rfl rfl ?_
        first | refine wp_imulN (q := 37) d_Rf_waiting_36 rfl ?_ | refine wp_imul (q := 37) d_Rf_waiting_36 rfl ?_
        first | refine wp_iaddN (q := 38) d_Rf_waiting_37 rfl ?_ | refine wp_iadd (q := 38) d_Rf_waiting_37 rfl ?_
        refine wp_iload_n (q := 39) d_Rf_waiting_38 rfl rfl ?_
        first | refine wp_iaddN (q := 40) d_Rf_waiting_39 rfl ?_ | refine wp_iadd (q := 40) d_Rf_waiting_39 rfl ?_
        refine wp_iald (q := 41) d_Rf_waiting_40 rfl (rfl) (by omega) (by decide) ?_
        refine wp_iret d_Rf_waiting_41 rfl (Nat.le_refl _) (Nat.le_refl _) ?_
        simp only [sp_waiting, inn, inb, inm, btw, inn_t ha1, tnl ha1, inn_t hb1, tnl hb1, hc_20, not_true_eq_false, not_false_eq_true, or_false, false_or, or_true, true_or, and_true, true_and, and_false, false_and, or_self, and_self, if_true, if_false, ite_true, ite_false, eq_self] at hK
        first | exact hK | (simp (disch := omega) only [tput_eq, tput2, tput_ne, upd_eq, upd_ne, ne_eq, va_upeq, va_upne, va_up2, Nat.zero_add, not_true_eq_false, not_false_eq_true, or_false, false_or, or_true, true_or, and_true, true_and, and_false, false_and, or_self, and_self, if_true, if_false, ite_true, ite_false, eq_self] at hK ⊢; exact hK) | (simp (disch := omega) only [tput_eq, tput2, tput_ne, upd_eq, upd_ne, ne_eq, va_upeq, va_upne, va_up2, Nat.zero_add, not_true_eq_false, not_false_eq_true, or_false, false_or, or_true, true_or, and_true, true_and, and_false, false_and, or_self, and_self, if_true, if_false, ite_true, ite_false, eq_self]; exact hK) | (simp (disch := omega) only [tput_eq, tput2, tput_ne, upd_eq, upd_ne, ne_eq, va_upeq, va_upne, va_up2, Nat.zero_add, not_true_eq_false, not_false_eq_true, or_false, false_or, or_true, true_or, and_true, true_and, and_false, false_and, or_self, and_self, if_true, if_false, ite_true, ite_false, eq_self] at hK; exact hK)
      · refine wp_bipush (q := 25) d_Rf_waiting_23 rfl bp_m2 ?_
        refine wp_goto (tgt := 41) d_Rf_waiting_25 (by decide) ?_
        refine wp_iret d_Rf_waiting_41 rfl (Nat.le_refl _) (Nat.le_refl _) ?_
        simp only [sp_waiting, inn, inb, inm, btw, inn_t ha1, tnl ha1, inn_t hb1, tnl hb1, hc_20, not_true_eq_false, not_false_eq_true, or_false, false_or, or_true, true_or, and_true, true_and, and_false, false_and, or_self, and_self, if_true, if_false, ite_true, ite_false, eq_self] at hK
        first | exact hK | (simp (disch := omega) only [tput_eq, tput2, tput_ne, upd_eq, upd_ne, ne_eq, va_upeq, va_upne, va_up2, Nat.zero_add, not_true_eq_false, not_false_eq_true, or_false, false_or, or_true, true_or, and_true, true_and, and_false, false_and, or_self, and_self, if_true, if_false, ite_true, ite_false, eq_self] at hK ⊢; exact hK) | (simp (disch := omega) only [tput_eq, tput2, tput_ne, upd_eq, upd_ne, ne_eq, va_upeq, va_upne, va_up2, Nat.zero_add, not_true_eq_false, not_false_eq_true, or_false, false_or, or_true, true_or, and_true, true_and, and_false, false_and, or_self, and_self, if_true, if_false, ite_true, ite_false, eq_self]; exact hK) | (simp (disch := omega) only [tput_eq, tput2, tput_ne, upd_eq, upd_ne, ne_eq, va_upeq, va_upne, va_up2, Nat.zero_add, not_true_eq_false, not_false_eq_true, or_false, false_or, or_true, true_or, and_true, true_and, and_false, false_and, or_self, and_self, if_true, if_false, ite_true, ite_false, eq_self] at hK; exact hK)
    · refine wp_if_ne_f (q := 14) (tgt := 18) d_Rf_waiting_11 (by decide) rfl (by decide) ?_
      refine wp_iconst (q := 15) d_Rf_waiting_14 rfl ic_m1 ?_
      refine wp_goto (tgt := 41) d_Rf_waiting_15 (by decide) ?_
      refine wp_iret d_Rf_waiting_41 rfl (Nat.le_refl _) (Nat.le_refl _) ?_
      simp only [sp_waiting, inn, inb, inm, btw, inn_t ha1, tnl ha1, hb1, not_true_eq_false, not_false_eq_true, or_false, false_or, or_true, true_or, and_true, true_and, and_false, false_and, or_self, and_self, if_true, if_false, ite_true, ite_false, eq_self] at hK
      first | exact hK | (simp (disch := omega) only [tput_eq, tput2, tput_ne, upd_eq, upd_ne, ne_eq, va_upeq, va_upne, va_up2, Nat.zero_add, not_true_eq_false, not_false_eq_true, or_false, false_or, or_true, true_or, and_true, true_and, and_false, false_and, or_self, and_self, if_true, if_false, ite_true, ite_false, eq_self] at hK ⊢; exact hK) | (simp (disch := omega) only [tput_eq, tput2, tput_ne, upd_eq, upd_ne, ne_eq, va_upeq, va_upne, va_up2, Nat.zero_add, not_true_eq_false, not_false_eq_true, or_false, false_or, or_true, true_or, and_true, true_and, and_false, false_and, or_self, and_self, if_true, if_false, ite_true, ite_false, eq_self]; exact hK) | (simp (disch := omega) only [tput_eq, tput2, tput_ne, upd_eq, upd_ne, ne_eq, va_upeq, va_upne, va_up2, Nat.zero_add, not_true_eq_false, not_false_eq_true, or_false, false_or, or_true, true_or, and_true, true_and, and_false, false_and, or_self, and_self, if_true, if_false, ite_true, ite_false, eq_self] at hK; exact hK)
  · refine wp_if_eq_t (tgt := 14) d_Rf_waiting_4 (by decide) (by decide) ?_
    refine wp_iconst (q := 15) d_Rf_waiting_14 rfl ic_m1 ?_
    refine wp_goto (tgt := 41) d_Rf_waiting_15 (by decide) ?_
    refine wp_iret d_Rf_waiting_41 rfl (Nat.le_refl _) (Nat.le_refl _) ?_
    simp only [sp_waiting, inn, inb, inm, btw, ha1, not_true_eq_false, not_false_eq_true, or_false, false_or, or_true, true_or, and_true, true_and, and_false, false_and, or_self, and_self, if_true, if_false, ite_true, ite_false, eq_self] at hK
    first | exact hK | (simp (disch := omega) only [tput_eq, tput2, tput_ne, upd_eq, upd_ne, ne_eq, va_upeq, va_upne, va_up2, Nat.zero_add, not_true_eq_false, not_false_eq_true, or_false, false_or, or_true, true_or, and_true, true_and, and_false, false_and, or_self, and_self, if_true, if_false, ite_true, ite_false, eq_self] at hK ⊢; exact hK) | (simp (disch := omega) only [tput_eq, tput2, tput_ne, upd_eq, upd_ne, ne_eq, va_upeq, va_upne, va_up2, Nat.zero_add, not_true_eq_false, not_false_eq_true, or_false, false_or, or_true, true_or, and_true, true_and, and_false, false_and, or_self, and_self, if_true, if_false, ite_true, ite_false, eq_self]; exact hK) | (simp (disch := omega) only [tput_eq, tput2, tput_ne, upd_eq, upd_ne, ne_eq, va_upeq, va_upne, va_up2, Nat.zero_add, not_true_eq_false, not_false_eq_true, or_false, false_or, or_true, true_or, and_true, true_and, and_false, false_and, or_self, and_self, if_true, if_false, ite_true, ite_false, eq_self] at hK; exact hK)
