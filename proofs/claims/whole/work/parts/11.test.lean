section DEC
def sp_road (c : T2) (a b n : Int32) : Int32 × T2 := if ¬ inn a 5 ∨ ¬ inn b 5 then (-1, c) else if a = b ∨ ¬ inn n 60 then (-2, c) else (c 2 (6 * tn a + tn b), tput c 2 (upd (upd (c 2) (6 * tn a + tn b) n) (6 * tn b + tn a) n))
end DEC

theorem d_FG_road_0 : decode M_FG_road.2.1 0 = .ok (.iload_n 1, 1) := by decide +kernel
theorem d_FG_road_1 : decode M_FG_road.2.1 1 = .ok (.invokestatic 57, 3) := by decide +kernel
theorem d_FG_road_4 : decode M_FG_road.2.1 4 = .ok (.ifCond .eq 10, 3) := by decide +kernel
theorem d_FG_road_7 : decode M_FG_road.2.1 7 = .ok (.iload_n 2, 1) := by decide +kernel
theorem d_FG_road_8 : decode M_FG_road.2.1 8 = .ok (.invokestatic 57, 3) := by decide +kernel
theorem d_FG_road_11 : decode M_FG_road.2.1 11 = .ok (.ifCond .ne 5, 3) := by decide +kernel
theorem d_FG_road_14 : decode M_FG_road.2.1 14 = .ok (.iconst (-1), 1) := by decide +kernel
theorem d_FG_road_15 : decode M_FG_road.2.1 15 = .ok (.ireturn, 1) := by decide +kernel
theorem d_FG_road_16 : decode M_FG_road.2.1 16 = .ok (.iload_n 1, 1) := by decide +kernel
theorem d_FG_road_17 : decode M_FG_road.2.1 17 = .ok (.iload_n 2, 1) := by decide +kernel
theorem d_FG_road_18 : decode M_FG_road.2.1 18 = .ok (.if_icmp .eq 13, 3) := by decide +kernel
theorem d_FG_road_21 : decode M_FG_road.2.1 21 = .ok (.iload_n 3, 1) := by decide +kernel
theorem d_FG_road_22 : decode M_FG_road.2.1 22 = .ok (.iconst 0, 1) := by decide +kernel
theorem d_FG_road_23 : decode M_FG_road.2.1 23 = .ok (.bipush 60, 2) := by decide +kernel
theorem d_FG_road_25 : decode M_FG_road.2.1 25 = .ok (.invokestatic 61, 3) := by decide +kernel
theorem d_FG_road_28 : decode M_FG_road.2.1 28 = .ok (.ifCond .ne 6, 3) := by decide +kernel
theorem d_FG_road_31 : decode M_FG_road.2.1 31 = .ok (.bipush (-2), 2) := by decide +kernel
theorem d_FG_road_33 : decode M_FG_road.2.1 33 = .ok (.ireturn, 1) := by decide +kernel
theorem d_FG_road_34 : decode M_FG_road.2.1 34 = .ok (.aload_n 0, 1) := by decide +kernel
theorem d_FG_road_35 : decode M_FG_road.2.1 35 = .ok (.getfield 10, 3) := by decide +kernel
theorem d_FG_road_38 : decode M_FG_road.2.1 38 = .ok (.getfield 65, 3) := by decide +kernel
theorem d_FG_road_41 : decode M_FG_road.2.1 41 = .ok (.iload_n 1, 1) := by decide +kernel
theorem d_FG_road_42 : decode M_FG_road.2.1 42 = .ok (.bipush 6, 2) := by decide +kernel
theorem d_FG_road_44 : decode M_FG_road.2.1 44 = .ok (.imul, 1) := by decide +kernel
theorem d_FG_road_45 : decode M_FG_road.2.1 45 = .ok (.iload_n 2, 1) := by decide +kernel
theorem d_FG_road_46 : decode M_FG_road.2.1 46 = .ok (.iadd, 1) := by decide +kernel
theorem d_FG_road_47 : decode M_FG_road.2.1 47 = .ok (.iaload, 1) := by decide +kernel
theorem d_FG_road_48 : decode M_FG_road.2.1 48 = .ok (.istore 4, 2) := by decide +kernel
theorem d_FG_road_50 : decode M_FG_road.2.1 50 = .ok (.aload_n 0, 1) := by decide +kernel
theorem d_FG_road_51 : decode M_FG_road.2.1 51 = .ok (.getfield 10, 3) := by decide +kernel
theorem d_FG_road_54 : decode M_FG_road.2.1 54 = .ok (.getfield 65, 3) := by decide +kernel
theorem d_FG_road_57 : decode M_FG_road.2.1 57 = .ok (.iload_n 1, 1) := by decide +kernel
theorem d_FG_road_58 : decode M_FG_road.2.1 58 = .ok (.bipush 6, 2) := by decide +kernel
theorem d_FG_road_60 : decode M_FG_road.2.1 60 = .ok (.imul, 1) := by decide +kernel
theorem d_FG_road_61 : decode M_FG_road.2.1 61 = .ok (.iload_n 2, 1) := by decide +kernel
theorem d_FG_road_62 : decode M_FG_road.2.1 62 = .ok (.iadd, 1) := by decide +kernel
theorem d_FG_road_63 : decode M_FG_road.2.1 63 = .ok (.iload_n 3, 1) := by decide +kernel
theorem d_FG_road_64 : decode M_FG_road.2.1 64 = .ok (.iastore, 1) := by decide +kernel
theorem d_FG_road_65 : decode M_FG_road.2.1 65 = .ok (.aload_n 0, 1) := by decide +kernel
theorem d_FG_road_66 : decode M_FG_road.2.1 66 = .ok (.getfield 10, 3) := by decide +kernel
theorem d_FG_road_69 : decode M_FG_road.2.1 69 = .ok (.getfield 65, 3) := by decide +kernel
theorem d_FG_road_72 : decode M_FG_road.2.1 72 = .ok (.iload_n 2, 1) := by decide +kernel
theorem d_FG_road_73 : decode M_FG_road.2.1 73 = .ok (.bipush 6, 2) := by decide +kernel
theorem d_FG_road_75 : decode M_FG_road.2.1 75 = .ok (.imul, 1) := by decide +kernel
theorem d_FG_road_76 : decode M_FG_road.2.1 76 = .ok (.iload_n 1, 1) := by decide +kernel
theorem d_FG_road_77 : decode M_FG_road.2.1 77 = .ok (.iadd, 1) := by decide +kernel
theorem d_FG_road_78 : decode M_FG_road.2.1 78 = .ok (.iload_n 3, 1) := by decide +kernel
theorem d_FG_road_79 : decode M_FG_road.2.1 79 = .ok (.iastore, 1) := by decide +kernel
theorem d_FG_road_80 : decode M_FG_road.2.1 80 = .ok (.iload 4, 2) := by decide +kernel
theorem d_FG_road_82 : decode M_FG_road.2.1 82 = .ok (.ireturn, 1) := by decide +kernel
theorem d_Rf_road_0 : decode M_Rf_road.2.1 0 = .ok (.iload_n 1, 1) := by decide +kernel
theorem d_Rf_road_1 : decode M_Rf_road.2.1 1 = .ok (.invokestatic 163, 3) := by decide +kernel
theorem d_Rf_road_4 : decode M_Rf_road.2.1 4 = .ok (.ifCond .eq 10, 3) := by decide +kernel
theorem d_Rf_road_7 : decode M_Rf_road.2.1 7 = .ok (.iload_n 2, 1) := by decide +kernel
theorem d_Rf_road_8 : decode M_Rf_road.2.1 8 = .ok (.invokestatic 163, 3) := by decide +kernel
theorem d_Rf_road_11 : decode M_Rf_road.2.1 11 = .ok (.ifCond .ne 5, 3) := by decide +kernel
theorem d_Rf_road_14 : decode M_Rf_road.2.1 14 = .ok (.iconst (-1), 1) := by decide +kernel
theorem d_Rf_road_15 : decode M_Rf_road.2.1 15 = .ok (.ireturn, 1) := by decide +kernel
theorem d_Rf_road_16 : decode M_Rf_road.2.1 16 = .ok (.iload_n 1, 1) := by decide +kernel
theorem d_Rf_road_17 : decode M_Rf_road.2.1 17 = .ok (.iload_n 2, 1) := by decide +kernel
theorem d_Rf_road_18 : decode M_Rf_road.2.1 18 = .ok (.if_icmp .eq 13, 3) := by decide +kernel
theorem d_Rf_road_21 : decode M_Rf_road.2.1 21 = .ok (.iload_n 3, 1) := by decide +kernel
theorem d_Rf_road_22 : decode M_Rf_road.2.1 22 = .ok (.iconst 0, 1) := by decide +kernel
theorem d_Rf_road_23 : decode M_Rf_road.2.1 23 = .ok (.bipush 60, 2) := by decide +kernel
theorem d_Rf_road_25 : decode M_Rf_road.2.1 25 = .ok (.invokestatic 151, 3) := by decide +kernel
theorem d_Rf_road_28 : decode M_Rf_road.2.1 28 = .ok (.ifCond .ne 6, 3) := by decide +kernel
theorem d_Rf_road_31 : decode M_Rf_road.2.1 31 = .ok (.bipush (-2), 2) := by decide +kernel
theorem d_Rf_road_33 : decode M_Rf_road.2.1 33 = .ok (.ireturn, 1) := by decide +kernel
theorem d_Rf_road_34 : decode M_Rf_road.2.1 34 = .ok (.aload_n 0, 1) := by decide +kernel
theorem d_Rf_road_35 : decode M_Rf_road.2.1 35 = .ok (.getfield 19, 3) := by decide +kernel
theorem d_Rf_road_38 : decode M_Rf_road.2.1 38 = .ok (.bipush 6, 2) := by decide +kernel
theorem d_Rf_road_40 : decode M_Rf_road.2.1 40 = .ok (.iload_n 1, 1) := by decide +kernel
theorem d_Rf_road_41 : decode M_Rf_road.2.1 41 = .ok (.imul, 1) := by decide +kernel
theorem d_Rf_road_42 : decode M_Rf_road.2.1 42 = .ok (.iload_n 2, 1) := by decide +kernel
theorem d_Rf_road_43 : decode M_Rf_road.2.1 43 = .ok (.iadd, 1) := by decide +kernel
theorem d_Rf_road_44 : decode M_Rf_road.2.1 44 = .ok (.iaload, 1) := by decide +kernel
theorem d_Rf_road_45 : decode M_Rf_road.2.1 45 = .ok (.istore 4, 2) := by decide +kernel
theorem d_Rf_road_47 : decode M_Rf_road.2.1 47 = .ok (.aload_n 0, 1) := by decide +kernel
theorem d_Rf_road_48 : decode M_Rf_road.2.1 48 = .ok (.getfield 19, 3) := by decide +kernel
theorem d_Rf_road_51 : decode M_Rf_road.2.1 51 = .ok (.bipush 6, 2) := by decide +kernel
theorem d_Rf_road_53 : decode M_Rf_road.2.1 53 = .ok (.iload_n 1, 1) := by decide +kernel
theorem d_Rf_road_54 : decode M_Rf_road.2.1 54 = .ok (.imul, 1) := by decide +kernel
theorem d_Rf_road_55 : decode M_Rf_road.2.1 55 = .ok (.iload_n 2, 1) := by decide +kernel
theorem d_Rf_road_56 : decode M_Rf_road.2.1 56 = .ok (.iadd, 1) := by decide +kernel
theorem d_Rf_road_57 : decode M_Rf_road.2.1 57 = .ok (.iload_n 3, 1) := by decide +kernel
theorem d_Rf_road_58 : decode M_Rf_road.2.1 58 = .ok (.iastore, 1) := by decide +kernel
theorem d_Rf_road_59 : decode M_Rf_road.2.1 59 = .ok (.aload_n 0, 1) := by decide +kernel
theorem d_Rf_road_60 : decode M_Rf_road.2.1 60 = .ok (.getfield 19, 3) := by decide +kernel
theorem d_Rf_road_63 : decode M_Rf_road.2.1 63 = .ok (.bipush 6, 2) := by decide +kernel
theorem d_Rf_road_65 : decode M_Rf_road.2.1 65 = .ok (.iload_n 2, 1) := by decide +kernel
theorem d_Rf_road_66 : decode M_Rf_road.2.1 66 = .ok (.imul, 1) := by decide +kernel
theorem d_Rf_road_67 : decode M_Rf_road.2.1 67 = .ok (.iload_n 1, 1) := by decide +kernel
theorem d_Rf_road_68 : decode M_Rf_road.2.1 68 = .ok (.iadd, 1) := by decide +kernel
theorem d_Rf_road_69 : decode M_Rf_road.2.1 69 = .ok (.iload_n 3, 1) := by decide +kernel
theorem d_Rf_road_70 : decode M_Rf_road.2.1 70 = .ok (.iastore, 1) := by decide +kernel
theorem d_Rf_road_71 : decode M_Rf_road.2.1 71 = .ok (.iload 4, 2) := by decide +kernel
theorem d_Rf_road_73 : decode M_Rf_road.2.1 73 = .ok (.ireturn, 1) := by decide +kernel
set_option maxHeartbeats 4000000 in
set_option maxRecDepth 100000 in
theorem ok_FG_road {D : xD} {N : Nat} {l : Launch} {d : Nat} {c x V : T2} {ln df : Nat → Option Nat} {rest : List va_E} {K : Option Value → List va_E → Prop} {a b n : Int32} (hK : K (some (.int (sp_road c a b n).1)) (encC D N (sp_road c a b n).2 x V ln df ++ rest)) : Ok D N l (d + 2) M_FG_road [.ref (N + 0), .int a, .int b, .int n] (encC D N c x V ln df ++ rest) 0 0 K := by
  refine ok_of (L := [(0, _), (1, _), (2, _), (3, _)]) (by decide) (Nat.le_of_ble_eq_true rfl) rfl ?_
  refine wp_iload_n d_FG_road_0 rfl rfl ?_
  refine wp_cs1 lk_FG_57 (ro _ _ _) d_FG_road_1 rfl (Nat.le_of_ble_eq_true rfl) (Nat.zero_le _) (Nat.zero_le _) ?_
  refine ok_FG_isStage (fun a1 ha1 e => ?_) (fun ha1 => ?_)
  · subst e
    refine wp_if_eq_f (tgt := 14) d_FG_road_4 (by decide) rfl (by decide) ?_
    refine wp_iload_n d_FG_road_7 rfl rfl ?_
    refine wp_cs1 lk_FG_57 (ro _ _ _) d_FG_road_8 rfl (Nat.le_of_ble_eq_true rfl) (Nat.zero_le _) (Nat.zero_le _) ?_
    refine ok_FG_isStage (fun b1 hb1 e => ?_) (fun hb1 => ?_)
    · subst e
      refine wp_if_ne_t (tgt := 16) d_FG_road_11 (by decide) (by decide) ?_
      refine wp_iload_n d_FG_road_16 rfl rfl ?_
      refine wp_iload_n d_FG_road_17 rfl rfl ?_
      refine wp_icmp_eq (tgt := 31) d_FG_road_18 (by decide) rfl (fun hc_18 => ?_) (fun hc_18 => ?_)
      · refine wp_bipush d_FG_road_31 rfl bp_m2 ?_
        refine wp_iret d_FG_road_33 rfl (Nat.le_refl _) (Nat.le_refl _) ?_
        first | (simp only [sp_road, inn, inn_t ha1, inn_t hb1, hc_18, not_true_eq_false, not_false_eq_true, or_false, false_or, or_true, true_or, and_true, true_and, and_false, false_and, or_self, and_self, if_true, if_false, ite_true, ite_false] at hK; first | exact hK | (simp only [tput_eq, tput2] at hK ⊢; exact hK)) | (simp only [sp_road, inn, inn_t ha1, inn_t hb1, hn1, not_true_eq_false, not_false_eq_true, or_false, false_or, or_true, true_or, and_true, true_and, and_false, false_and, or_self, and_self, if_true, if_false, ite_true, ite_false] at hK; first | exact hK | (simp only [tput_eq, tput2] at hK ⊢; exact hK))
      · refine wp_iload_n d_FG_road_21 rfl rfl ?_
        refine wp_iconst d_FG_road_22 rfl ic_0 ?_
        refine wp_bipush d_FG_road_23 rfl bp_60 ?_
        refine wp_cs3 lk_FG_61 (ro _ _ _) d_FG_road_25 rfl (Nat.le_of_ble_eq_true rfl) (Nat.zero_le _) (Nat.zero_le _) ?_
        refine ok_FG_within0 (b := 60) (by decide) (fun n1 hn1 e => ?_) (fun hn1 => ?_)
        · subst e
          refine wp_if_ne_t (tgt := 34) d_FG_road_28 (by decide) (by decide) ?_
          refine wp_aload_n d_FG_road_34 rfl rfl ?_
          refine wp_get fl_FG_10 d_FG_road_35 rfl rfl rfl ?_
          refine wp_get fl_FG_65 d_FG_road_38 rfl rfl rfl ?_
          refine wp_iload_n d_FG_road_41 rfl rfl ?_
          refine wp_bipush d_FG_road_42 rfl bp_6 ?_
          first | refine wp_imulC d_FG_road_44 rfl ?_ | refine wp_imul d_FG_road_44 rfl ?_
          refine wp_iload_n d_FG_road_45 rfl rfl ?_
          first | refine wp_iaddN d_FG_road_46 rfl ?_ | refine wp_iadd d_FG_road_46 rfl ?_
          refine wp_iald d_FG_road_47 rfl (rfl) (by omega) (by decide) ?_
          refine wp_istore (L2 := [(4, _), (0, _), (1, _), (2, _), (3, _)]) d_FG_road_48 rfl (by decide) rfl ?_
          refine wp_aload_n d_FG_road_50 rfl rfl ?_
          refine wp_get fl_FG_10 d_FG_road_51 rfl rfl rfl ?_
          refine wp_get fl_FG_65 d_FG_road_54 rfl rfl rfl ?_
          refine wp_iload_n d_FG_road_57 rfl rfl ?_
          refine wp_bipush d_FG_road_58 rfl bp_6 ?_
          first | refine wp_imulC d_FG_road_60 rfl ?_ | refine wp_imul d_FG_road_60 rfl ?_
          refine wp_iload_n d_FG_road_61 rfl rfl ?_
          first | refine wp_iaddN d_FG_road_62 rfl ?_ | refine wp_iadd d_FG_road_62 rfl ?_
          refine wp_iload_n d_FG_road_63 rfl rfl ?_
          refine wp_iast d_FG_road_64 rfl (rfl) (by omega) (by decide) (fc_2) ?_
          refine wp_aload_n d_FG_road_65 rfl rfl ?_
          refine wp_get fl_FG_10 d_FG_road_66 rfl rfl rfl ?_
          refine wp_get fl_FG_65 d_FG_road_69 rfl rfl rfl ?_
          refine wp_iload_n d_FG_road_72 rfl rfl ?_
          refine wp_bipush d_FG_road_73 rfl bp_6 ?_
          first | refine wp_imulC d_FG_road_75 rfl ?_ | refine wp_imul d_FG_road_75 rfl ?_
          refine wp_iload_n d_FG_road_76 rfl rfl ?_
          first | refine wp_iaddN d_FG_road_77 rfl ?_ | refine wp_iadd d_FG_road_77 rfl ?_
          refine wp_iload_n d_FG_road_78 rfl rfl ?_
          refine wp_iast d_FG_road_79 rfl (rfl) (by omega) (by decide) (fc_2) ?_
          refine wp_iload d_FG_road_80 rfl rfl ?_
          refine wp_iret d_FG_road_82 rfl (Nat.le_refl _) (Nat.le_refl _) ?_
          first | (simp only [sp_road, inn, inn_t ha1, inn_t hb1, inn_t hn1, hc_18, tnl ha1, tnl hb1, not_true_eq_false, not_false_eq_true, or_false, false_or, or_true, true_or, and_true, true_and, and_false, false_and, or_self, and_self, if_true, if_false, ite_true, ite_false] at hK; first | exact hK | (simp only [tput_eq, tput2] at hK ⊢; exact hK))
        · refine wp_if_ne_f (tgt := 34) d_FG_road_28 (by decide) rfl (by decide) ?_
          refine wp_bipush d_FG_road_31 rfl bp_m2 ?_
          refine wp_iret d_FG_road_33 rfl (Nat.le_refl _) (Nat.le_refl _) ?_
          first | (simp only [sp_road, inn, inn_t ha1, inn_t hb1, hc_18, not_true_eq_false, not_false_eq_true, or_false, false_or, or_true, true_or, and_true, true_and, and_false, false_and, or_self, and_self, if_true, if_false, ite_true, ite_false] at hK; first | exact hK | (simp only [tput_eq, tput2] at hK ⊢; exact hK)) | (simp only [sp_road, inn, inn_t ha1, inn_t hb1, hn1, not_true_eq_false, not_false_eq_true, or_false, false_or, or_true, true_or, and_true, true_and, and_false, false_and, or_self, and_self, if_true, if_false, ite_true, ite_false] at hK; first | exact hK | (simp only [tput_eq, tput2] at hK ⊢; exact hK))
    · refine wp_if_ne_f (tgt := 16) d_FG_road_11 (by decide) rfl (by decide) ?_
      refine wp_iconst d_FG_road_14 rfl ic_m1 ?_
      refine wp_iret d_FG_road_15 rfl (Nat.le_refl _) (Nat.le_refl _) ?_
      first | (simp only [sp_road, inn, ha1, not_true_eq_false, not_false_eq_true, or_false, false_or, or_true, true_or, and_true, true_and, and_false, false_and, or_self, and_self, if_true, if_false, ite_true, ite_false] at hK; first | exact hK | (simp only [tput_eq, tput2] at hK ⊢; exact hK)) | (simp only [sp_road, inn, hb1, not_true_eq_false, not_false_eq_true, or_false, false_or, or_true, true_or, and_true, true_and, and_false, false_and, or_self, and_self, if_true, if_false, ite_true, ite_false] at hK; first | exact hK | (simp only [tput_eq, tput2] at hK ⊢; exact hK))
  · refine wp_if_eq_t (tgt := 14) d_FG_road_4 (by decide) (by decide) ?_
    refine wp_iconst d_FG_road_14 rfl ic_m1 ?_
    refine wp_iret d_FG_road_15 rfl (Nat.le_refl _) (Nat.le_refl _) ?_
    first | (simp only [sp_road, inn, ha1, not_true_eq_false, not_false_eq_true, or_false, false_or, or_true, true_or, and_true, true_and, and_false, false_and, or_self, and_self, if_true, if_false, ite_true, ite_false] at hK; first | exact hK | (simp only [tput_eq, tput2] at hK ⊢; exact hK)) | (simp only [sp_road, inn, hb1, not_true_eq_false, not_false_eq_true, or_false, false_or, or_true, true_or, and_true, true_and, and_false, false_and, or_self, and_self, if_true, if_false, ite_true, ite_false] at hK; first | exact hK | (simp only [tput_eq, tput2] at hK ⊢; exact hK))
set_option maxHeartbeats 4000000 in
set_option maxRecDepth 100000 in
theorem ok_Rf_road {D : xD} {N : Nat} {l : Launch} {d : Nat} {c z : T2} {P Q : Nat → Int32} {rest : List va_E} {K : Option Value → List va_E → Prop} {a b n : Int32} (hK : K (some (.int (sp_road c a b n).1)) (encR D N (sp_road c a b n).2 z P Q ++ rest)) : Ok D N l (d + 2) M_Rf_road [.ref (N + 0), .int a, .int b, .int n] (encR D N c z P Q ++ rest) 0 0 K := by
  refine ok_of (L := [(0, _), (1, _), (2, _), (3, _)]) (by decide) (Nat.le_of_ble_eq_true rfl) rfl ?_
  refine wp_iload_n d_Rf_road_0 rfl rfl ?_
  refine wp_cs1 lk_Rf_163 (ro _ _ _) d_Rf_road_1 rfl (Nat.le_of_ble_eq_true rfl) (Nat.zero_le _) (Nat.zero_le _) ?_
  refine ok_Rf_isStage (fun a1 ha1 e => ?_) (fun ha1 => ?_)
  · subst e
    refine wp_if_eq_f (tgt := 14) d_Rf_road_4 (by decide) rfl (by decide) ?_
    refine wp_iload_n d_Rf_road_7 rfl rfl ?_
    refine wp_cs1 lk_Rf_163 (ro _ _ _) d_Rf_road_8 rfl (Nat.le_of_ble_eq_true rfl) (Nat.zero_le _) (Nat.zero_le _) ?_
    refine ok_Rf_isStage (fun b1 hb1 e => ?_) (fun hb1 => ?_)
    · subst e
      refine wp_if_ne_t (tgt := 16) d_Rf_road_11 (by decide) (by decide) ?_
      refine wp_iload_n d_Rf_road_16 rfl rfl ?_
      refine wp_iload_n d_Rf_road_17 rfl rfl ?_
      refine wp_icmp_eq (tgt := 31) d_Rf_road_18 (by decide) rfl (fun hc_18 => ?_) (fun hc_18 => ?_)
      · refine wp_bipush d_Rf_road_31 rfl bp_m2 ?_
        refine wp_iret d_Rf_road_33 rfl (Nat.le_refl _) (Nat.le_refl _) ?_
        first | (simp only [sp_road, inn, inn_t ha1, inn_t hb1, hc_18, not_true_eq_false, not_false_eq_true, or_false, false_or, or_true, true_or, and_true, true_and, and_false, false_and, or_self, and_self, if_true, if_false, ite_true, ite_false] at hK; first | exact hK | (simp only [tput_eq, tput2] at hK ⊢; exact hK)) | (simp only [sp_road, inn, inn_t ha1, inn_t hb1, hn1, not_true_eq_false, not_false_eq_true, or_false, false_or, or_true, true_or, and_true, true_and, and_false, false_and, or_self, and_self, if_true, if_false, ite_true, ite_false] at hK; first | exact hK | (simp only [tput_eq, tput2] at hK ⊢; exact hK))
      · refine wp_iload_n d_Rf_road_21 rfl rfl ?_
        refine wp_iconst d_Rf_road_22 rfl ic_0 ?_
        refine wp_bipush d_Rf_road_23 rfl bp_60 ?_
        refine wp_cs3 lk_Rf_151 (ro _ _ _) d_Rf_road_25 rfl (Nat.le_of_ble_eq_true rfl) (Nat.zero_le _) (Nat.zero_le _) ?_
        refine ok_Rf_in0 (b := 60) (by decide) (fun n1 hn1 e => ?_) (fun hn1 => ?_)
        · subst e
          refine wp_if_ne_t (tgt := 34) d_Rf_road_28 (by decide) (by decide) ?_
          refine wp_aload_n d_Rf_road_34 rfl rfl ?_
          refine wp_get fl_Rf_19 d_Rf_road_35 rfl rfl rfl ?_
          refine wp_bipush d_Rf_road_38 rfl bp_6 ?_
          refine wp_iload_n d_Rf_road_40 rfl rfl ?_
          first | refine wp_imulN d_Rf_road_41 rfl ?_ | refine wp_imul d_Rf_road_41 rfl ?_
          refine wp_iload_n d_Rf_road_42 rfl rfl ?_
          first | refine wp_iaddN d_Rf_road_43 rfl ?_ | refine wp_iadd d_Rf_road_43 rfl ?_
          refine wp_iald d_Rf_road_44 rfl (rfl) (by omega) (by decide) ?_
          refine wp_istore (L2 := [(4, _), (0, _), (1, _), (2, _), (3, _)]) d_Rf_road_45 rfl (by decide) rfl ?_
          refine wp_aload_n d_Rf_road_47 rfl rfl ?_
          refine wp_get fl_Rf_19 d_Rf_road_48 rfl rfl rfl ?_
          refine wp_bipush d_Rf_road_51 rfl bp_6 ?_
          refine wp_iload_n d_Rf_road_53 rfl rfl ?_
          first | refine wp_imulN d_Rf_road_54 rfl ?_ | refine wp_imul d_Rf_road_54 rfl ?_
          refine wp_iload_n d_Rf_road_55 rfl rfl ?_
          first | refine wp_iaddN d_Rf_road_56 rfl ?_ | refine wp_iadd d_Rf_road_56 rfl ?_
          refine wp_iload_n d_Rf_road_57 rfl rfl ?_
          refine wp_iast d_Rf_road_58 rfl (rfl) (by omega) (by decide) (fr_4) ?_
          refine wp_aload_n d_Rf_road_59 rfl rfl ?_
          refine wp_get fl_Rf_19 d_Rf_road_60 rfl rfl rfl ?_
          refine wp_bipush d_Rf_road_63 rfl bp_6 ?_
          refine wp_iload_n d_Rf_road_65 rfl rfl ?_
          first | refine wp_imulN d_Rf_road_66 rfl ?_ | refine wp_imul d_Rf_road_66 rfl ?_
          refine wp_iload_n d_Rf_road_67 rfl rfl ?_
          first | refine wp_iaddN d_Rf_road_68 rfl ?_ | refine wp_iadd d_Rf_road_68 rfl ?_
          refine wp_iload_n d_Rf_road_69 rfl rfl ?_
          refine wp_iast d_Rf_road_70 rfl (rfl) (by omega) (by decide) (fr_4) ?_
          refine wp_iload d_Rf_road_71 rfl rfl ?_
          refine wp_iret d_Rf_road_73 rfl (Nat.le_refl _) (Nat.le_refl _) ?_
          first | (simp only [sp_road, inn, inn_t ha1, inn_t hb1, inn_t hn1, hc_18, tnl ha1, tnl hb1, not_true_eq_false, not_false_eq_true, or_false, false_or, or_true, true_or, and_true, true_and, and_false, false_and, or_self, and_self, if_true, if_false, ite_true, ite_false] at hK; first | exact hK | (simp only [tput_eq, tput2] at hK ⊢; exact hK))
        · refine wp_if_ne_f (tgt := 34) d_Rf_road_28 (by decide) rfl (by decide) ?_
          refine wp_bipush d_Rf_road_31 rfl bp_m2 ?_
          refine wp_iret d_Rf_road_33 rfl (Nat.le_refl _) (Nat.le_refl _) ?_
          first | (simp only [sp_road, inn, inn_t ha1, inn_t hb1, hc_18, not_true_eq_false, not_false_eq_true, or_false, false_or, or_true, true_or, and_true, true_and, and_false, false_and, or_self, and_self, if_true, if_false, ite_true, ite_false] at hK; first | exact hK | (simp only [tput_eq, tput2] at hK ⊢; exact hK)) | (simp only [sp_road, inn, inn_t ha1, inn_t hb1, hn1, not_true_eq_false, not_false_eq_true, or_false, false_or, or_true, true_or, and_true, true_and, and_false, false_and, or_self, and_self, if_true, if_false, ite_true, ite_false] at hK; first | exact hK | (simp only [tput_eq, tput2] at hK ⊢; exact hK))
    · refine wp_if_ne_f (tgt := 16) d_Rf_road_11 (by decide) rfl (by decide) ?_
      refine wp_iconst d_Rf_road_14 rfl ic_m1 ?_
      refine wp_iret d_Rf_road_15 rfl (Nat.le_refl _) (Nat.le_refl _) ?_
      first | (simp only [sp_road, inn, ha1, not_true_eq_false, not_false_eq_true, or_false, false_or, or_true, true_or, and_true, true_and, and_false, false_and, or_self, and_self, if_true, if_false, ite_true, ite_false] at hK; first | exact hK | (simp only [tput_eq, tput2] at hK ⊢; exact hK)) | (simp only [sp_road, inn, hb1, not_true_eq_false, not_false_eq_true, or_false, false_or, or_true, true_or, and_true, true_and, and_false, false_and, or_self, and_self, if_true, if_false, ite_true, ite_false] at hK; first | exact hK | (simp only [tput_eq, tput2] at hK ⊢; exact hK))
  · refine wp_if_eq_t (tgt := 14) d_Rf_road_4 (by decide) (by decide) ?_
    refine wp_iconst d_Rf_road_14 rfl ic_m1 ?_
    refine wp_iret d_Rf_road_15 rfl (Nat.le_refl _) (Nat.le_refl _) ?_
    first | (simp only [sp_road, inn, ha1, not_true_eq_false, not_false_eq_true, or_false, false_or, or_true, true_or, and_true, true_and, and_false, false_and, or_self, and_self, if_true, if_false, ite_true, ite_false] at hK; first | exact hK | (simp only [tput_eq, tput2] at hK ⊢; exact hK)) | (simp only [sp_road, inn, hb1, not_true_eq_false, not_false_eq_true, or_false, false_or, or_true, true_or, and_true, true_and, and_false, false_and, or_self, and_self, if_true, if_false, ite_true, ite_false] at hK; first | exact hK | (simp only [tput_eq, tput2] at hK ⊢; exact hK))
