def sp_bus (c : T2) (nb : Nat) (s w a f : Int32) : Int32 × T2 := if (¬ btw (nI 1) s (nI 40) ∨ ¬ inn w 5) ∨ (¬ inn a 9999 ∨ ¬ inn f 9) then (-2, c) else if nb = 12 then (-4, c) else (nI nb, tput (tput (tput (tput (tput c 5 (upd (c 5) nb s)) 6 (upd (c 6) nb w)) 7 (upd (c 7) nb a)) 8 (upd (c 8) nb f)) 32 (upd (c 32) 1 (nI (nb + 1))))
theorem d_Tn_enrol_0 : decode M_Tn_enrol.2.1 0 = .ok (.iload_n 1, 1) := by decide +kernel
theorem d_Tn_enrol_1 : decode M_Tn_enrol.2.1 1 = .ok (.iconst 1, 1) := by decide +kernel
theorem d_Tn_enrol_2 : decode M_Tn_enrol.2.1 2 = .ok (.bipush 40, 2) := by decide +kernel
theorem d_Tn_enrol_4 : decode M_Tn_enrol.2.1 4 = .ok (.invokestatic 73, 3) := by decide +kernel
theorem d_Tn_enrol_7 : decode M_Tn_enrol.2.1 7 = .ok (.ifCond .eq 12, 3) := by decide +kernel
theorem d_Tn_enrol_10 : decode M_Tn_enrol.2.1 10 = .ok (.iload_n 2, 1) := by decide +kernel
theorem d_Tn_enrol_11 : decode M_Tn_enrol.2.1 11 = .ok (.iconst 0, 1) := by decide +kernel
theorem d_Tn_enrol_12 : decode M_Tn_enrol.2.1 12 = .ok (.iconst 5, 1) := by decide +kernel
theorem d_Tn_enrol_13 : decode M_Tn_enrol.2.1 13 = .ok (.invokestatic 73, 3) := by decide +kernel
theorem d_Tn_enrol_16 : decode M_Tn_enrol.2.1 16 = .ok (.ifCond .ne 6, 3) := by decide +kernel
theorem d_Tn_enrol_19 : decode M_Tn_enrol.2.1 19 = .ok (.bipush (-2), 2) := by decide +kernel
theorem d_Tn_enrol_21 : decode M_Tn_enrol.2.1 21 = .ok (.ireturn, 1) := by decide +kernel
theorem d_Tn_enrol_22 : decode M_Tn_enrol.2.1 22 = .ok (.iload_n 3, 1) := by decide +kernel
theorem d_Tn_enrol_23 : decode M_Tn_enrol.2.1 23 = .ok (.iconst 0, 1) := by decide +kernel
theorem d_Tn_enrol_24 : decode M_Tn_enrol.2.1 24 = .ok (.sipush 9999, 3) := by decide +kernel
theorem d_Tn_enrol_27 : decode M_Tn_enrol.2.1 27 = .ok (.invokestatic 73, 3) := by decide +kernel
theorem d_Tn_enrol_30 : decode M_Tn_enrol.2.1 30 = .ok (.ifCond .eq 14, 3) := by decide +kernel
theorem d_Tn_enrol_33 : decode M_Tn_enrol.2.1 33 = .ok (.iload 4, 2) := by decide +kernel
theorem d_Tn_enrol_35 : decode M_Tn_enrol.2.1 35 = .ok (.iconst 0, 1) := by decide +kernel
theorem d_Tn_enrol_36 : decode M_Tn_enrol.2.1 36 = .ok (.bipush 9, 2) := by decide +kernel
theorem d_Tn_enrol_38 : decode M_Tn_enrol.2.1 38 = .ok (.invokestatic 73, 3) := by decide +kernel
theorem d_Tn_enrol_41 : decode M_Tn_enrol.2.1 41 = .ok (.ifCond .ne 6, 3) := by decide +kernel
theorem d_Tn_enrol_44 : decode M_Tn_enrol.2.1 44 = .ok (.bipush (-2), 2) := by decide +kernel
theorem d_Tn_enrol_46 : decode M_Tn_enrol.2.1 46 = .ok (.ireturn, 1) := by decide +kernel
theorem d_Tn_enrol_47 : decode M_Tn_enrol.2.1 47 = .ok (.aload_n 0, 1) := by decide +kernel
theorem d_Tn_enrol_48 : decode M_Tn_enrol.2.1 48 = .ok (.getfield 77, 3) := by decide +kernel
theorem d_Tn_enrol_51 : decode M_Tn_enrol.2.1 51 = .ok (.bipush 12, 2) := by decide +kernel
theorem d_Tn_enrol_53 : decode M_Tn_enrol.2.1 53 = .ok (.if_icmp .lt 6, 3) := by decide +kernel
theorem d_Tn_enrol_56 : decode M_Tn_enrol.2.1 56 = .ok (.bipush (-4), 2) := by decide +kernel
theorem d_Tn_enrol_58 : decode M_Tn_enrol.2.1 58 = .ok (.ireturn, 1) := by decide +kernel
theorem d_Tn_enrol_59 : decode M_Tn_enrol.2.1 59 = .ok (.aload_n 0, 1) := by decide +kernel
theorem d_Tn_enrol_60 : decode M_Tn_enrol.2.1 60 = .ok (.getfield 77, 3) := by decide +kernel
theorem d_Tn_enrol_63 : decode M_Tn_enrol.2.1 63 = .ok (.istore 5, 2) := by decide +kernel
theorem d_Tn_enrol_65 : decode M_Tn_enrol.2.1 65 = .ok (.aload_n 0, 1) := by decide +kernel
theorem d_Tn_enrol_66 : decode M_Tn_enrol.2.1 66 = .ok (.getfield 21, 3) := by decide +kernel
theorem d_Tn_enrol_69 : decode M_Tn_enrol.2.1 69 = .ok (.iload 5, 2) := by decide +kernel
theorem d_Tn_enrol_71 : decode M_Tn_enrol.2.1 71 = .ok (.iload_n 1, 1) := by decide +kernel
theorem d_Tn_enrol_72 : decode M_Tn_enrol.2.1 72 = .ok (.iastore, 1) := by decide +kernel
theorem d_Tn_enrol_73 : decode M_Tn_enrol.2.1 73 = .ok (.aload_n 0, 1) := by decide +kernel
theorem d_Tn_enrol_74 : decode M_Tn_enrol.2.1 74 = .ok (.getfield 24, 3) := by decide +kernel
theorem d_Tn_enrol_77 : decode M_Tn_enrol.2.1 77 = .ok (.iload 5, 2) := by decide +kernel
theorem d_Tn_enrol_79 : decode M_Tn_enrol.2.1 79 = .ok (.iload_n 2, 1) := by decide +kernel
theorem d_Tn_enrol_80 : decode M_Tn_enrol.2.1 80 = .ok (.iastore, 1) := by decide +kernel
theorem d_Tn_enrol_81 : decode M_Tn_enrol.2.1 81 = .ok (.aload_n 0, 1) := by decide +kernel
theorem d_Tn_enrol_82 : decode M_Tn_enrol.2.1 82 = .ok (.getfield 27, 3) := by decide +kernel
theorem d_Tn_enrol_85 : decode M_Tn_enrol.2.1 85 = .ok (.iload 5, 2) := by decide +kernel
theorem d_Tn_enrol_87 : decode M_Tn_enrol.2.1 87 = .ok (.iload_n 3, 1) := by decide +kernel
theorem d_Tn_enrol_88 : decode M_Tn_enrol.2.1 88 = .ok (.iastore, 1) := by decide +kernel
theorem d_Tn_enrol_89 : decode M_Tn_enrol.2.1 89 = .ok (.aload_n 0, 1) := by decide +kernel
theorem d_Tn_enrol_90 : decode M_Tn_enrol.2.1 90 = .ok (.getfield 30, 3) := by decide +kernel
theorem d_Tn_enrol_93 : decode M_Tn_enrol.2.1 93 = .ok (.iload 5, 2) := by decide +kernel
theorem d_Tn_enrol_95 : decode M_Tn_enrol.2.1 95 = .ok (.iload 4, 2) := by decide +kernel
theorem d_Tn_enrol_97 : decode M_Tn_enrol.2.1 97 = .ok (.iastore, 1) := by decide +kernel
theorem d_Tn_enrol_98 : decode M_Tn_enrol.2.1 98 = .ok (.aload_n 0, 1) := by decide +kernel
theorem d_Tn_enrol_99 : decode M_Tn_enrol.2.1 99 = .ok (.dup, 1) := by decide +kernel
theorem d_Tn_enrol_100 : decode M_Tn_enrol.2.1 100 = .ok (.getfield 77, 3) := by decide +kernel
theorem d_Tn_enrol_103 : decode M_Tn_enrol.2.1 103 = .ok (.iconst 1, 1) := by decide +kernel
theorem d_Tn_enrol_104 : decode M_Tn_enrol.2.1 104 = .ok (.iadd, 1) := by decide +kernel
theorem d_Tn_enrol_105 : decode M_Tn_enrol.2.1 105 = .ok (.putfield 77, 3) := by decide +kernel
theorem d_Tn_enrol_108 : decode M_Tn_enrol.2.1 108 = .ok (.iload 5, 2) := by decide +kernel
theorem d_Tn_enrol_110 : decode M_Tn_enrol.2.1 110 = .ok (.ireturn, 1) := by decide +kernel
set_option maxHeartbeats 4000000 in
set_option maxRecDepth 100000 in
theorem ok_Tn_enrol {D : xD} {N : Nat} {l : Launch} {d : Nat} {c x V : T2} {ln df : Nat → Option Nat} {rest : List va_E} {K : Option Value → List va_E → Prop} {s w a f : Int32} {nb : Nat} (hnb : c 32 1 = nI nb) (h12 : nb ≤ 12) (hK : K (some (.int (sp_bus c nb s w a f).1)) (encC D N (sp_bus c nb s w a f).2 x V ln df ++ rest)) : Ok D N l (d + 1) M_Tn_enrol [.ref (N + 1), .int s, .int w, .int a, .int f] (encC D N c x V ln df ++ rest) 0 0 K := by
  refine ok_of (L := [(0, _), (1, _), (2, _), (3, _), (4, _)]) (by decide) (Nat.le_of_ble_eq_true rfl) rfl ?_
  refine wp_iload_n (q := 1) d_Tn_enrol_0 rfl rfl ?_
  refine wp_iconst (q := 2) d_Tn_enrol_1 rfl ic_1 ?_
  refine wp_bipush (q := 4) d_Tn_enrol_2 rfl bp_40 ?_
  refine wp_csn3 (q := 7) lk_Tn_73 (ro _ _ _) d_Tn_enrol_4 rfl (Nat.le_of_ble_eq_true rfl) (Nat.zero_le _) (Nat.zero_le _) ?_
  refine ok_FG_within (fun ha1a ha1b => ?_) (fun ha1 => ?_)
  · refine wp_if_eq_f (q := 10) (tgt := 19) d_Tn_enrol_7 (by decide) rfl (by decide) ?_
    refine wp_iload_n (q := 11) d_Tn_enrol_10 rfl rfl ?_
    refine wp_iconst (q := 12) d_Tn_enrol_11 rfl ic_0 ?_
    refine wp_iconst (q := 13) d_Tn_enrol_12 rfl ic_5 ?_
    refine wp_csn3 (q := 16) lk_Tn_73 (ro _ _ _) d_Tn_enrol_13 rfl (Nat.le_of_ble_eq_true rfl) (Nat.zero_le _) (Nat.zero_le _) ?_
    refine ok_FG_within (fun ha2a ha2b => ?_) (fun ha2 => ?_)
    · refine wp_if_ne_t (tgt := 22) d_Tn_enrol_16 (by decide) (by decide) ?_
      refine wp_iload_n (q := 23) d_Tn_enrol_22 rfl rfl ?_
      refine wp_iconst (q := 24) d_Tn_enrol_23 rfl ic_0 ?_
      refine wp_sipush (q := 27) d_Tn_enrol_24 rfl sp_9999 ?_
      refine wp_csn3 (q := 30) lk_Tn_73 (ro _ _ _) d_Tn_enrol_27 rfl (Nat.le_of_ble_eq_true rfl) (Nat.zero_le _) (Nat.zero_le _) ?_
      refine ok_FG_within (fun ha3a ha3b => ?_) (fun ha3 => ?_)
      · refine wp_if_eq_f (q := 33) (tgt := 44) d_Tn_enrol_30 (by decide) rfl (by decide) ?_
        refine wp_iload (q := 35) d_Tn_enrol_33 rfl rfl ?_
        refine wp_iconst (q := 36) d_Tn_enrol_35 rfl ic_0 ?_
        refine wp_bipush (q := 38) d_Tn_enrol_36 rfl bp_9 ?_
        refine wp_csn3 (q := 41) lk_Tn_73 (ro _ _ _) d_Tn_enrol_38 rfl (Nat.le_of_ble_eq_true rfl) (Nat.zero_le _) (Nat.zero_le _) ?_
        refine ok_FG_within (fun ha4a ha4b => ?_) (fun ha4 => ?_)
        · refine wp_if_ne_t (tgt := 47) d_Tn_enrol_41 (by decide) (by decide) ?_
          refine wp_aload_n (q := 48) d_Tn_enrol_47 rfl rfl ?_
          refine wp_get (q := 51) fl_Tn_77 d_Tn_enrol_48 rfl rfl rfl ?_
          simp (disch := omega) only [tput_ne, upd_ne, upd_eq, tput_eq, ne_eq, not_false_eq_true, hnb]
          refine wp_bipush (q := 53) d_Tn_enrol_51 rfl bp_12 ?_
          refine wp_icmp_lt (q := 56) (tgt := 59) d_Tn_enrol_53 (by decide) rfl (fun hc_53 => ?_) (fun hc_53 => ?_)
          · have h11 : nb < 12 := (nI_ltI (by omega) (by decide)).mp hc_53
            refine wp_aload_n (q := 60) d_Tn_enrol_59 rfl rfl ?_
            refine wp_get (q := 63) fl_Tn_77 d_Tn_enrol_60 rfl rfl rfl ?_
            simp (disch := omega) only [tput_ne, upd_ne, upd_eq, tput_eq, ne_eq, not_false_eq_true, hnb]
            refine wp_istore (q := 65) (L2 := [(5, _), (0, _), (1, _), (2, _), (3, _), (4, _)]) d_Tn_enrol_63 rfl (by decide) rfl ?_
            refine wp_aload_n (q := 66) d_Tn_enrol_65 rfl rfl ?_
            refine wp_get (q := 69) fl_Tn_21 d_Tn_enrol_66 rfl rfl rfl ?_
            refine wp_iload (q := 71) d_Tn_enrol_69 rfl rfl ?_
            refine wp_iload_n (q := 72) d_Tn_enrol_71 rfl rfl ?_
            refine wp_iast (q := 73) d_Tn_enrol_72 rfl (rfl) (by omega) (by decide) (fc_5) ?_
            refine wp_aload_n (q := 74) d_Tn_enrol_73 rfl rfl ?_
            refine wp_get (q := 77) fl_Tn_24 d_Tn_enrol_74 rfl rfl rfl ?_
            refine wp_iload (q := 79) d_Tn_enrol_77 rfl rfl ?_
            refine wp_iload_n (q := 80) d_Tn_enrol_79 rfl rfl ?_
            refine wp_iast (q := 81) d_Tn_enrol_80 rfl (rfl) (by omega) (by decide) (fc_6) ?_
            refine wp_aload_n (q := 82) d_Tn_enrol_81 rfl rfl ?_
            refine wp_get (q := 85) fl_Tn_27 d_Tn_enrol_82 rfl rfl rfl ?_
            refine wp_iload (q := 87) d_Tn_enrol_85 rfl rfl ?_
            refine wp_iload_n (q := 88) d_Tn_enrol_87 rfl rfl ?_
            refine wp_iast (q := 89) d_Tn_enrol_88 rfl (rfl) (by omega) (by decide) (fc_7) ?_
            refine wp_aload_n (q := 90) d_Tn_enrol_89 rfl rfl ?_
            refine wp_get (q := 93) fl_Tn_30 d_Tn_enrol_90 rfl rfl rfl ?_
            refine wp_iload (q := 95) d_Tn_enrol_93 rfl rfl ?_
            refine wp_iload (q := 97) d_Tn_enrol_95 rfl rfl ?_
            refine wp_iast (q := 98) d_Tn_enrol_97 rfl (rfl) (by omega) (by decide) (fc_8) ?_
            refine wp_aload_n (q := 99) d_Tn_enrol_98 rfl rfl ?_
            refine wp_dup (q := 100) d_Tn_enrol_99 rfl rfl ?_
            refine wp_get (q := 103) fl_Tn_77 d_Tn_enrol_100 rfl rfl rfl ?_
            simp (disch := omega) only [tput_ne, upd_ne, upd_eq, tput_eq, ne_eq, not_false_eq_true, hnb]
            refine wp_iconst (q := 104) d_Tn_enrol_103 rfl ic_1 ?_
            first | refine wp_iaddN (q := 105) d_Tn_enrol_104 rfl ?_ | refine wp_iadd (q := 105) d_Tn_enrol_104 rfl ?_
            refine wp_put (q := 108) fl_Tn_77 d_Tn_enrol_105 rfl rfl (Nat.le_of_ble_eq_true rfl) rfl rfl (fc_s1) ?_
            refine wp_iload (q := 110) d_Tn_enrol_108 rfl rfl ?_
            refine wp_iret d_Tn_enrol_110 rfl (Nat.le_refl _) (Nat.le_refl _) ?_
            simp only [sp_bus, inn, inb, inm, btw, ha1a, ha1b, ha2a, ha2b, ha3a, ha3b, ha4a, ha4b, (show ¬ nb = 12 by omega), not_true_eq_false, not_false_eq_true, or_false, false_or, or_true, true_or, and_true, true_and, and_false, false_and, or_self, and_self, if_true, if_false, ite_true, ite_false, eq_self] at hK
            first | exact hK | (simp (disch := omega) only [tput_eq, tput2, tput_ne, upd_eq, upd_ne, ne_eq, va_upeq, va_upne, va_up2, not_true_eq_false, not_false_eq_true, or_false, false_or, or_true, true_or, and_true, true_and, and_false, false_and, or_self, and_self, if_true, if_false, ite_true, ite_false, eq_self] at hK ⊢; exact hK) | (simp (disch := omega) only [tput_eq, tput2, tput_ne, upd_eq, upd_ne, ne_eq, va_upeq, va_upne, va_up2, not_true_eq_false, not_false_eq_true, or_false, false_or, or_true, true_or, and_true, true_and, and_false, false_and, or_self, and_self, if_true, if_false, ite_true, ite_false, eq_self]; exact hK) | (simp (disch := omega) only [tput_eq, tput2, tput_ne, upd_eq, upd_ne, ne_eq, va_upeq, va_upne, va_up2, not_true_eq_false, not_false_eq_true, or_false, false_or, or_true, true_or, and_true, true_and, and_false, false_and, or_self, and_self, if_true, if_false, ite_true, ite_false, eq_self] at hK; exact hK)
          · have h11 : nb = 12 := by
              have h := nlt_le hc_53
              have := (nI_leI (by decide) (by omega)).mp h
              omega
            refine wp_bipush (q := 58) d_Tn_enrol_56 rfl bp_m4 ?_
            refine wp_iret d_Tn_enrol_58 rfl (Nat.le_refl _) (Nat.le_refl _) ?_
            simp only [sp_bus, inn, inb, inm, btw, ha1a, ha1b, ha2a, ha2b, ha3a, ha3b, ha4a, ha4b, (show nb = 12 by omega), not_true_eq_false, not_false_eq_true, or_false, false_or, or_true, true_or, and_true, true_and, and_false, false_and, or_self, and_self, if_true, if_false, ite_true, ite_false, eq_self] at hK
            first | exact hK | (simp (disch := omega) only [tput_eq, tput2, tput_ne, upd_eq, upd_ne, ne_eq, va_upeq, va_upne, va_up2, not_true_eq_false, not_false_eq_true, or_false, false_or, or_true, true_or, and_true, true_and, and_false, false_and, or_self, and_self, if_true, if_false, ite_true, ite_false, eq_self] at hK ⊢; exact hK) | (simp (disch := omega) only [tput_eq, tput2, tput_ne, upd_eq, upd_ne, ne_eq, va_upeq, va_upne, va_up2, not_true_eq_false, not_false_eq_true, or_false, false_or, or_true, true_or, and_true, true_and, and_false, false_and, or_self, and_self, if_true, if_false, ite_true, ite_false, eq_self]; exact hK) | (simp (disch := omega) only [tput_eq, tput2, tput_ne, upd_eq, upd_ne, ne_eq, va_upeq, va_upne, va_up2, not_true_eq_false, not_false_eq_true, or_false, false_or, or_true, true_or, and_true, true_and, and_false, false_and, or_self, and_self, if_true, if_false, ite_true, ite_false, eq_self] at hK; exact hK)
        · refine wp_if_ne_f (q := 44) (tgt := 47) d_Tn_enrol_41 (by decide) rfl (by decide) ?_
          refine wp_bipush (q := 46) d_Tn_enrol_44 rfl bp_m2 ?_
          refine wp_iret d_Tn_enrol_46 rfl (Nat.le_refl _) (Nat.le_refl _) ?_
          simp only [sp_bus, inn, inb, inm, btw, ha1a, ha1b, ha2a, ha2b, ha3a, ha3b, ha4, not_true_eq_false, not_false_eq_true, or_false, false_or, or_true, true_or, and_true, true_and, and_false, false_and, or_self, and_self, if_true, if_false, ite_true, ite_false, eq_self] at hK
          first | exact hK | (simp (disch := omega) only [tput_eq, tput2, tput_ne, upd_eq, upd_ne, ne_eq, va_upeq, va_upne, va_up2, not_true_eq_false, not_false_eq_true, or_false, false_or, or_true, true_or, and_true, true_and, and_false, false_and, or_self, and_self, if_true, if_false, ite_true, ite_false, eq_self] at hK ⊢; exact hK) | (simp (disch := omega) only [tput_eq, tput2, tput_ne, upd_eq, upd_ne, ne_eq, va_upeq, va_upne, va_up2, not_true_eq_false, not_false_eq_true, or_false, false_or, or_true, true_or, and_true, true_and, and_false, false_and, or_self, and_self, if_true, if_false, ite_true, ite_false, eq_self]; exact hK) | (simp (disch := omega) only [tput_eq, tput2, tput_ne, upd_eq, upd_ne, ne_eq, va_upeq, va_upne, va_up2, not_true_eq_false, not_false_eq_true, or_false, false_or, or_true, true_or, and_true, true_and, and_false, false_and, or_self, and_self, if_true, if_false, ite_true, ite_false, eq_self] at hK; exact hK)
      · refine wp_if_eq_t (tgt := 44) d_Tn_enrol_30 (by decide) (by decide) ?_
        refine wp_bipush (q := 46) d_Tn_enrol_44 rfl bp_m2 ?_
        refine wp_iret d_Tn_enrol_46 rfl (Nat.le_refl _) (Nat.le_refl _) ?_
        simp only [sp_bus, inn, inb, inm, btw, ha1a, ha1b, ha2a, ha2b, ha3, not_true_eq_false, not_false_eq_true, or_false, false_or, or_true, true_or, and_true, true_and, and_false, false_and, or_self, and_self, if_true, if_false, ite_true, ite_false, eq_self] at hK
        first | exact hK | (simp (disch := omega) only [tput_eq, tput2, tput_ne, upd_eq, upd_ne, ne_eq, va_upeq, va_upne, va_up2, not_true_eq_false, not_false_eq_true, or_false, false_or, or_true, true_or, and_true, true_and, and_false, false_and, or_self, and_self, if_true, if_false, ite_true, ite_false, eq_self] at hK ⊢; exact hK) | (simp (disch := omega) only [tput_eq, tput2, tput_ne, upd_eq, upd_ne, ne_eq, va_upeq, va_upne, va_up2, not_true_eq_false, not_false_eq_true, or_false, false_or, or_true, true_or, and_true, true_and, and_false, false_and, or_self, and_self, if_true, if_false, ite_true, ite_false, eq_self]; exact hK) | (simp (disch := omega) only [tput_eq, tput2, tput_ne, upd_eq, upd_ne, ne_eq, va_upeq, va_upne, va_up2, not_true_eq_false, not_false_eq_true, or_false, false_or, or_true, true_or, and_true, true_and, and_false, false_and, or_self, and_self, if_true, if_false, ite_true, ite_false, eq_self] at hK; exact hK)
    · refine wp_if_ne_f (q := 19) (tgt := 22) d_Tn_enrol_16 (by decide) rfl (by decide) ?_
      refine wp_bipush (q := 21) d_Tn_enrol_19 rfl bp_m2 ?_
      refine wp_iret d_Tn_enrol_21 rfl (Nat.le_refl _) (Nat.le_refl _) ?_
      simp only [sp_bus, inn, inb, inm, btw, ha1a, ha1b, ha2, not_true_eq_false, not_false_eq_true, or_false, false_or, or_true, true_or, and_true, true_and, and_false, false_and, or_self, and_self, if_true, if_false, ite_true, ite_false, eq_self] at hK
      first | exact hK | (simp (disch := omega) only [tput_eq, tput2, tput_ne, upd_eq, upd_ne, ne_eq, va_upeq, va_upne, va_up2, not_true_eq_false, not_false_eq_true, or_false, false_or, or_true, true_or, and_true, true_and, and_false, false_and, or_self, and_self, if_true, if_false, ite_true, ite_false, eq_self] at hK ⊢; exact hK) | (simp (disch := omega) only [tput_eq, tput2, tput_ne, upd_eq, upd_ne, ne_eq, va_upeq, va_upne, va_up2, not_true_eq_false, not_false_eq_true, or_false, false_or, or_true, true_or, and_true, true_and, and_false, false_and, or_self, and_self, if_true, if_false, ite_true, ite_false, eq_self]; exact hK) | (simp (disch := omega) only [tput_eq, tput2, tput_ne, upd_eq, upd_ne, ne_eq, va_upeq, va_upne, va_up2, not_true_eq_false, not_false_eq_true, or_false, false_or, or_true, true_or, and_true, true_and, and_false, false_and, or_self, and_self, if_true, if_false, ite_true, ite_false, eq_self] at hK; exact hK)
  · refine wp_if_eq_t (tgt := 19) d_Tn_enrol_7 (by decide) (by decide) ?_
    refine wp_bipush (q := 21) d_Tn_enrol_19 rfl bp_m2 ?_
    refine wp_iret d_Tn_enrol_21 rfl (Nat.le_refl _) (Nat.le_refl _) ?_
    simp only [sp_bus, inn, inb, inm, btw, ha1, not_true_eq_false, not_false_eq_true, or_false, false_or, or_true, true_or, and_true, true_and, and_false, false_and, or_self, and_self, if_true, if_false, ite_true, ite_false, eq_self] at hK
    first | exact hK | (simp (disch := omega) only [tput_eq, tput2, tput_ne, upd_eq, upd_ne, ne_eq, va_upeq, va_upne, va_up2, not_true_eq_false, not_false_eq_true, or_false, false_or, or_true, true_or, and_true, true_and, and_false, false_and, or_self, and_self, if_true, if_false, ite_true, ite_false, eq_self] at hK ⊢; exact hK) | (simp (disch := omega) only [tput_eq, tput2, tput_ne, upd_eq, upd_ne, ne_eq, va_upeq, va_upne, va_up2, not_true_eq_false, not_false_eq_true, or_false, false_or, or_true, true_or, and_true, true_and, and_false, false_and, or_self, and_self, if_true, if_false, ite_true, ite_false, eq_self]; exact hK) | (simp (disch := omega) only [tput_eq, tput2, tput_ne, upd_eq, upd_ne, ne_eq, va_upeq, va_upne, va_up2, not_true_eq_false, not_false_eq_true, or_false, false_or, or_true, true_or, and_true, true_and, and_false, false_and, or_self, and_self, if_true, if_false, ite_true, ite_false, eq_self] at hK; exact hK)
theorem d_Rf_bus_0 : decode M_Rf_bus.2.1 0 = .ok (.iload_n 1, 1) := by decide +kernel
theorem d_Rf_bus_1 : decode M_Rf_bus.2.1 1 = .ok (.iconst 1, 1) := by decide +kernel
theorem d_Rf_bus_2 : decode M_Rf_bus.2.1 2 = .ok (.bipush 40, 2) := by decide +kernel
theorem d_Rf_bus_4 : decode M_Rf_bus.2.1 4 = .ok (.invokestatic 151, 3) := by decide +kernel
theorem d_Rf_bus_7 : decode M_Rf_bus.2.1 7 = .ok (.ifCond .eq 34, 3) := by decide +kernel
theorem d_Rf_bus_10 : decode M_Rf_bus.2.1 10 = .ok (.iload_n 2, 1) := by decide +kernel
theorem d_Rf_bus_11 : decode M_Rf_bus.2.1 11 = .ok (.iconst 0, 1) := by decide +kernel
theorem d_Rf_bus_12 : decode M_Rf_bus.2.1 12 = .ok (.iconst 5, 1) := by decide +kernel
theorem d_Rf_bus_13 : decode M_Rf_bus.2.1 13 = .ok (.invokestatic 151, 3) := by decide +kernel
theorem d_Rf_bus_16 : decode M_Rf_bus.2.1 16 = .ok (.ifCond .eq 25, 3) := by decide +kernel
theorem d_Rf_bus_19 : decode M_Rf_bus.2.1 19 = .ok (.iload_n 3, 1) := by decide +kernel
theorem d_Rf_bus_20 : decode M_Rf_bus.2.1 20 = .ok (.iconst 0, 1) := by decide +kernel
theorem d_Rf_bus_21 : decode M_Rf_bus.2.1 21 = .ok (.sipush 9999, 3) := by decide +kernel
theorem d_Rf_bus_24 : decode M_Rf_bus.2.1 24 = .ok (.invokestatic 151, 3) := by decide +kernel
theorem d_Rf_bus_27 : decode M_Rf_bus.2.1 27 = .ok (.ifCond .eq 14, 3) := by decide +kernel
theorem d_Rf_bus_30 : decode M_Rf_bus.2.1 30 = .ok (.iload 4, 2) := by decide +kernel
theorem d_Rf_bus_32 : decode M_Rf_bus.2.1 32 = .ok (.iconst 0, 1) := by decide +kernel
theorem d_Rf_bus_33 : decode M_Rf_bus.2.1 33 = .ok (.bipush 9, 2) := by decide +kernel
theorem d_Rf_bus_35 : decode M_Rf_bus.2.1 35 = .ok (.invokestatic 151, 3) := by decide +kernel
theorem d_Rf_bus_38 : decode M_Rf_bus.2.1 38 = .ok (.ifCond .ne 6, 3) := by decide +kernel
theorem d_Rf_bus_41 : decode M_Rf_bus.2.1 41 = .ok (.bipush (-2), 2) := by decide +kernel
theorem d_Rf_bus_43 : decode M_Rf_bus.2.1 43 = .ok (.ireturn, 1) := by decide +kernel
theorem d_Rf_bus_44 : decode M_Rf_bus.2.1 44 = .ok (.aload_n 0, 1) := by decide +kernel
theorem d_Rf_bus_45 : decode M_Rf_bus.2.1 45 = .ok (.getfield 155, 3) := by decide +kernel
theorem d_Rf_bus_48 : decode M_Rf_bus.2.1 48 = .ok (.bipush 12, 2) := by decide +kernel
theorem d_Rf_bus_50 : decode M_Rf_bus.2.1 50 = .ok (.if_icmp .ne 6, 3) := by decide +kernel
theorem d_Rf_bus_53 : decode M_Rf_bus.2.1 53 = .ok (.bipush (-4), 2) := by decide +kernel
theorem d_Rf_bus_55 : decode M_Rf_bus.2.1 55 = .ok (.ireturn, 1) := by decide +kernel
theorem d_Rf_bus_56 : decode M_Rf_bus.2.1 56 = .ok (.aload_n 0, 1) := by decide +kernel
theorem d_Rf_bus_57 : decode M_Rf_bus.2.1 57 = .ok (.getfield 28, 3) := by decide +kernel
theorem d_Rf_bus_60 : decode M_Rf_bus.2.1 60 = .ok (.aload_n 0, 1) := by decide +kernel
theorem d_Rf_bus_61 : decode M_Rf_bus.2.1 61 = .ok (.getfield 155, 3) := by decide +kernel
theorem d_Rf_bus_64 : decode M_Rf_bus.2.1 64 = .ok (.iload_n 1, 1) := by decide +kernel
theorem d_Rf_bus_65 : decode M_Rf_bus.2.1 65 = .ok (.iastore, 1) := by decide +kernel
theorem d_Rf_bus_66 : decode M_Rf_bus.2.1 66 = .ok (.aload_n 0, 1) := by decide +kernel
theorem d_Rf_bus_67 : decode M_Rf_bus.2.1 67 = .ok (.getfield 31, 3) := by decide +kernel
theorem d_Rf_bus_70 : decode M_Rf_bus.2.1 70 = .ok (.aload_n 0, 1) := by decide +kernel
theorem d_Rf_bus_71 : decode M_Rf_bus.2.1 71 = .ok (.getfield 155, 3) := by decide +kernel
theorem d_Rf_bus_74 : decode M_Rf_bus.2.1 74 = .ok (.iload_n 2, 1) := by decide +kernel
theorem d_Rf_bus_75 : decode M_Rf_bus.2.1 75 = .ok (.iastore, 1) := by decide +kernel
theorem d_Rf_bus_76 : decode M_Rf_bus.2.1 76 = .ok (.aload_n 0, 1) := by decide +kernel
theorem d_Rf_bus_77 : decode M_Rf_bus.2.1 77 = .ok (.getfield 34, 3) := by decide +kernel
theorem d_Rf_bus_80 : decode M_Rf_bus.2.1 80 = .ok (.aload_n 0, 1) := by decide +kernel
theorem d_Rf_bus_81 : decode M_Rf_bus.2.1 81 = .ok (.getfield 155, 3) := by decide +kernel
theorem d_Rf_bus_84 : decode M_Rf_bus.2.1 84 = .ok (.iload_n 3, 1) := by decide +kernel
theorem d_Rf_bus_85 : decode M_Rf_bus.2.1 85 = .ok (.iastore, 1) := by decide +kernel
theorem d_Rf_bus_86 : decode M_Rf_bus.2.1 86 = .ok (.aload_n 0, 1) := by decide +kernel
theorem d_Rf_bus_87 : decode M_Rf_bus.2.1 87 = .ok (.getfield 37, 3) := by decide +kernel
theorem d_Rf_bus_90 : decode M_Rf_bus.2.1 90 = .ok (.aload_n 0, 1) := by decide +kernel
theorem d_Rf_bus_91 : decode M_Rf_bus.2.1 91 = .ok (.getfield 155, 3) := by decide +kernel
theorem d_Rf_bus_94 : decode M_Rf_bus.2.1 94 = .ok (.iload 4, 2) := by decide +kernel
theorem d_Rf_bus_96 : decode M_Rf_bus.2.1 96 = .ok (.iastore, 1) := by decide +kernel
theorem d_Rf_bus_97 : decode M_Rf_bus.2.1 97 = .ok (.aload_n 0, 1) := by decide +kernel
theorem d_Rf_bus_98 : decode M_Rf_bus.2.1 98 = .ok (.dup, 1) := by decide +kernel
theorem d_Rf_bus_99 : decode M_Rf_bus.2.1 99 = .ok (.getfield 155, 3) := by decide +kernel
theorem d_Rf_bus_102 : decode M_Rf_bus.2.1 102 = .ok (.iconst 1, 1) := by decide +kernel
theorem d_Rf_bus_103 : decode M_Rf_bus.2.1 103 = .ok (.iadd, 1) := by decide +kernel
theorem d_Rf_bus_104 : decode M_Rf_bus.2.1 104 = .ok (.putfield 155, 3) := by decide +kernel
theorem d_Rf_bus_107 : decode M_Rf_bus.2.1 107 = .ok (.aload_n 0, 1) := by decide +kernel
theorem d_Rf_bus_108 : decode M_Rf_bus.2.1 108 = .ok (.getfield 155, 3) := by decide +kernel
theorem d_Rf_bus_111 : decode M_Rf_bus.2.1 111 = .ok (.iconst 1, 1) := by decide +kernel
theorem d_Rf_bus_112 : decode M_Rf_bus.2.1 112 = .ok (.isub, 1) := by decide +kernel
theorem d_Rf_bus_113 : decode M_Rf_bus.2.1 113 = .ok (.ireturn, 1) := by decide +kernel
set_option maxHeartbeats 4000000 in
set_option maxRecDepth 100000 in
theorem ok_Rf_bus {D : xD} {N : Nat} {l : Launch} {d : Nat} {c z : T2} {P Q : Nat → Int32} {rest : List va_E} {K : Option Value → List va_E → Prop} {s w a f : Int32} {nb : Nat} (hnb : c 32 1 = nI nb) (h12 : nb ≤ 12) (hK : K (some (.int (sp_bus c nb s w a f).1)) (encR D N (sp_bus c nb s w a f).2 z P Q ++ rest)) : Ok D N l (d + 1) M_Rf_bus [.ref (N + 0), .int s, .int w, .int a, .int f] (encR D N c z P Q ++ rest) 0 0 K := by
  refine ok_of (L := [(0, _), (1, _), (2, _), (3, _), (4, _)]) (by decide) (Nat.le_of_ble_eq_true rfl) rfl ?_
  refine wp_iload_n (q := 1) d_Rf_bus_0 rfl rfl ?_
  refine wp_iconst (q := 2) d_Rf_bus_1 rfl ic_1 ?_
  refine wp_bipush (q := 4) d_Rf_bus_2 rfl bp_40 ?_
  refine wp_cs3 (q := 7) lk_Rf_151 (ro _ _ _) d_Rf_bus_4 rfl (Nat.le_of_ble_eq_true rfl) (Nat.zero_le _) (Nat.zero_le _) ?_
  refine ok_Rf_in (fun ha1a ha1b => ?_) (fun ha1 => ?_)
  · refine wp_if_eq_f (q := 10) (tgt := 41) d_Rf_bus_7 (by decide) rfl (by decide) ?_
    refine wp_iload_n (q := 11) d_Rf_bus_10 rfl rfl ?_
    refine wp_iconst (q := 12) d_Rf_bus_11 rfl ic_0 ?_
    refine wp_iconst (q := 13) d_Rf_bus_12 rfl ic_5 ?_
    refine wp_cs3 (q := 16) lk_Rf_151 (ro _ _ _) d_Rf_bus_13 rfl (Nat.le_of_ble_eq_true rfl) (Nat.zero_le _) (Nat.zero_le _) ?_
    refine ok_Rf_in (fun ha2a ha2b => ?_) (fun ha2 => ?_)
    · refine wp_if_eq_f (q := 19) (tgt := 41) d_Rf_bus_16 (by decide) rfl (by decide) ?_
      refine wp_iload_n (q := 20) d_Rf_bus_19 rfl rfl ?_
      refine wp_iconst (q := 21) d_Rf_bus_20 rfl ic_0 ?_
      refine wp_sipush (q := 24) d_Rf_bus_21 rfl sp_9999 ?_
      refine wp_cs3 (q := 27) lk_Rf_151 (ro _ _ _) d_Rf_bus_24 rfl (Nat.le_of_ble_eq_true rfl) (Nat.zero_le _) (Nat.zero_le _) ?_
      refine ok_Rf_in (fun ha3a ha3b => ?_) (fun ha3 => ?_)
      · refine wp_if_eq_f (q := 30) (tgt := 41) d_Rf_bus_27 (by decide) rfl (by decide) ?_
        refine wp_iload (q := 32) d_Rf_bus_30 rfl rfl ?_
        refine wp_iconst (q := 33) d_Rf_bus_32 rfl ic_0 ?_
        refine wp_bipush (q := 35) d_Rf_bus_33 rfl bp_9 ?_
        refine wp_cs3 (q := 38) lk_Rf_151 (ro _ _ _) d_Rf_bus_35 rfl (Nat.le_of_ble_eq_true rfl) (Nat.zero_le _) (Nat.zero_le _) ?_
        refine ok_Rf_in (fun ha4a ha4b => ?_) (fun ha4 => ?_)
        · refine wp_if_ne_t (tgt := 44) d_Rf_bus_38 (by decide) (by decide) ?_
          refine wp_aload_n (q := 45) d_Rf_bus_44 rfl rfl ?_
          refine wp_get (q := 48) fl_Rf_155 d_Rf_bus_45 rfl rfl rfl ?_
          simp (disch := omega) only [tput_ne, upd_ne, upd_eq, tput_eq, ne_eq, not_false_eq_true, hnb]
          refine wp_bipush (q := 50) d_Rf_bus_48 rfl bp_12 ?_
          refine wp_icmp_ne (q := 53) (tgt := 56) d_Rf_bus_50 (by decide) rfl (fun hc_50 => ?_) (fun hc_50 => ?_)
          · have h11 : nb < 12 := Nat.lt_of_le_of_ne h12 (fun e => hc_50 (by rw [e]))
            refine wp_aload_n (q := 57) d_Rf_bus_56 rfl rfl ?_
            refine wp_get (q := 60) fl_Rf_28 d_Rf_bus_57 rfl rfl rfl ?_
            refine wp_aload_n (q := 61) d_Rf_bus_60 rfl rfl ?_
            refine wp_get (q := 64) fl_Rf_155 d_Rf_bus_61 rfl rfl rfl ?_
            simp (disch := omega) only [tput_ne, upd_ne, upd_eq, tput_eq, ne_eq, not_false_eq_true, hnb]
            refine wp_iload_n (q := 65) d_Rf_bus_64 rfl rfl ?_
            refine wp_iast (q := 66) d_Rf_bus_65 rfl (rfl) (by omega) (by decide) (fr_7) ?_
            refine wp_aload_n (q := 67) d_Rf_bus_66 rfl rfl ?_
            refine wp_get (q := 70) fl_Rf_31 d_Rf_bus_67 rfl rfl rfl ?_
            refine wp_aload_n (q := 71) d_Rf_bus_70 rfl rfl ?_
            refine wp_get (q := 74) fl_Rf_155 d_Rf_bus_71 rfl rfl rfl ?_
            simp (disch := omega) only [tput_ne, upd_ne, upd_eq, tput_eq, ne_eq, not_false_eq_true, hnb]
            refine wp_iload_n (q := 75) d_Rf_bus_74 rfl rfl ?_
            refine wp_iast (q := 76) d_Rf_bus_75 rfl (rfl) (by omega) (by decide) (fr_8) ?_
            refine wp_aload_n (q := 77) d_Rf_bus_76 rfl rfl ?_
            refine wp_get (q := 80) fl_Rf_34 d_Rf_bus_77 rfl rfl rfl ?_
            refine wp_aload_n (q := 81) d_Rf_bus_80 rfl rfl ?_
            refine wp_get (q := 84) fl_Rf_155 d_Rf_bus_81 rfl rfl rfl ?_
            simp (disch := omega) only [tput_ne, upd_ne, upd_eq, tput_eq, ne_eq, not_false_eq_true, hnb]
            refine wp_iload_n (q := 85) d_Rf_bus_84 rfl rfl ?_
            refine wp_iast (q := 86) d_Rf_bus_85 rfl (rfl) (by omega) (by decide) (fr_9) ?_
            refine wp_aload_n (q := 87) d_Rf_bus_86 rfl rfl ?_
            refine wp_get (q := 90) fl_Rf_37 d_Rf_bus_87 rfl rfl rfl ?_
            refine wp_aload_n (q := 91) d_Rf_bus_90 rfl rfl ?_
            refine wp_get (q := 94) fl_Rf_155 d_Rf_bus_91 rfl rfl rfl ?_
            simp (disch := omega) only [tput_ne, upd_ne, upd_eq, tput_eq, ne_eq, not_false_eq_true, hnb]
            refine wp_iload (q := 96) d_Rf_bus_94 rfl rfl ?_
            refine wp_iast (q := 97) d_Rf_bus_96 rfl (rfl) (by omega) (by decide) (fr_10) ?_
            refine wp_aload_n (q := 98) d_Rf_bus_97 rfl rfl ?_
            refine wp_dup (q := 99) d_Rf_bus_98 rfl rfl ?_
            refine wp_get (q := 102) fl_Rf_155 d_Rf_bus_99 rfl rfl rfl ?_
            simp (disch := omega) only [tput_ne, upd_ne, upd_eq, tput_eq, ne_eq, not_false_eq_true, hnb]
            refine wp_iconst (q := 103) d_Rf_bus_102 rfl ic_1 ?_
            first | refine wp_iaddN (q := 104) d_Rf_bus_103 rfl ?_ | refine wp_iadd (q := 104) d_Rf_bus_103 rfl ?_
            refine wp_put (q := 107) fl_Rf_155 d_Rf_bus_104 rfl rfl (Nat.le_of_ble_eq_true rfl) rfl rfl (fr_s1) ?_
            refine wp_aload_n (q := 108) d_Rf_bus_107 rfl rfl ?_
            refine wp_get (q := 111) fl_Rf_155 d_Rf_bus_108 rfl rfl rfl ?_
            simp (disch := omega) only [tput_ne, upd_ne, upd_eq, tput_eq, ne_eq, not_false_eq_true, hnb]
            refine wp_iconst (q := 112) d_Rf_bus_111 rfl ic_1 ?_
            refine wp_isubN (q := 113) d_Rf_bus_112 rfl (by omega) ?_
            refine wp_iret d_Rf_bus_113 rfl (Nat.le_refl _) (Nat.le_refl _) ?_
            simp only [sp_bus, inn, inb, inm, btw, ha1a, ha1b, ha2a, ha2b, ha3a, ha3b, ha4a, ha4b, (show ¬ nb = 12 by omega), not_true_eq_false, not_false_eq_true, or_false, false_or, or_true, true_or, and_true, true_and, and_false, false_and, or_self, and_self, if_true, if_false, ite_true, ite_false, eq_self] at hK
            first | exact hK | (simp (disch := omega) only [tput_eq, tput2, tput_ne, upd_eq, upd_ne, ne_eq, va_upeq, va_upne, va_up2, Nat.add_sub_cancel, not_true_eq_false, not_false_eq_true, or_false, false_or, or_true, true_or, and_true, true_and, and_false, false_and, or_self, and_self, if_true, if_false, ite_true, ite_false, eq_self] at hK ⊢; exact hK) | (simp (disch := omega) only [tput_eq, tput2, tput_ne, upd_eq, upd_ne, ne_eq, va_upeq, va_upne, va_up2, Nat.add_sub_cancel, not_true_eq_false, not_false_eq_true, or_false, false_or, or_true, true_or, and_true, true_and, and_false, false_and, or_self, and_self, if_true, if_false, ite_true, ite_false, eq_self]; exact hK) | (simp (disch := omega) only [tput_eq, tput2, tput_ne, upd_eq, upd_ne, ne_eq, va_upeq, va_upne, va_up2, Nat.add_sub_cancel, not_true_eq_false, not_false_eq_true, or_false, false_or, or_true, true_or, and_true, true_and, and_false, false_and, or_self, and_self, if_true, if_false, ite_true, ite_false, eq_self] at hK; exact hK)
          · have h11 : nb = 12 := by
              have h := congrArg tn hc_50
              rw [tnl h12, tnl (Nat.le_refl 12)] at h
              exact h
            refine wp_bipush (q := 55) d_Rf_bus_53 rfl bp_m4 ?_
            refine wp_iret d_Rf_bus_55 rfl (Nat.le_refl _) (Nat.le_refl _) ?_
            simp only [sp_bus, inn, inb, inm, btw, ha1a, ha1b, ha2a, ha2b, ha3a, ha3b, ha4a, ha4b, (show nb = 12 by omega), not_true_eq_false, not_false_eq_true, or_false, false_or, or_true, true_or, and_true, true_and, and_false, false_and, or_self, and_self, if_true, if_false, ite_true, ite_false, eq_self] at hK
            first | exact hK | (simp (disch := omega) only [tput_eq, tput2, tput_ne, upd_eq, upd_ne, ne_eq, va_upeq, va_upne, va_up2, Nat.add_sub_cancel, not_true_eq_false, not_false_eq_true, or_false, false_or, or_true, true_or, and_true, true_and, and_false, false_and, or_self, and_self, if_true, if_false, ite_true, ite_false, eq_self] at hK ⊢; exact hK) | (simp (disch := omega) only [tput_eq, tput2, tput_ne, upd_eq, upd_ne, ne_eq, va_upeq, va_upne, va_up2, Nat.add_sub_cancel, not_true_eq_false, not_false_eq_true, or_false, false_or, or_true, true_or, and_true, true_and, and_false, false_and, or_self, and_self, if_true, if_false, ite_true, ite_false, eq_self]; exact hK) | (simp (disch := omega) only [tput_eq, tput2, tput_ne, upd_eq, upd_ne, ne_eq, va_upeq, va_upne, va_up2, Nat.add_sub_cancel, not_true_eq_false, not_false_eq_true, or_false, false_or, or_true, true_or, and_true, true_and, and_false, false_and, or_self, and_self, if_true, if_false, ite_true, ite_false, eq_self] at hK; exact hK)
        · refine wp_if_ne_f (q := 41) (tgt := 44) d_Rf_bus_38 (by decide) rfl (by decide) ?_
          refine wp_bipush (q := 43) d_Rf_bus_41 rfl bp_m2 ?_
          refine wp_iret d_Rf_bus_43 rfl (Nat.le_refl _) (Nat.le_refl _) ?_
          simp only [sp_bus, inn, inb, inm, btw, ha1a, ha1b, ha2a, ha2b, ha3a, ha3b, ha4, not_true_eq_false, not_false_eq_true, or_false, false_or, or_true, true_or, and_true, true_and, and_false, false_and, or_self, and_self, if_true, if_false, ite_true, ite_false, eq_self] at hK
          first | exact hK | (simp (disch := omega) only [tput_eq, tput2, tput_ne, upd_eq, upd_ne, ne_eq, va_upeq, va_upne, va_up2, Nat.add_sub_cancel, not_true_eq_false, not_false_eq_true, or_false, false_or, or_true, true_or, and_true, true_and, and_false, false_and, or_self, and_self, if_true, if_false, ite_true, ite_false, eq_self] at hK ⊢; exact hK) | (simp (disch := omega) only [tput_eq, tput2, tput_ne, upd_eq, upd_ne, ne_eq, va_upeq, va_upne, va_up2, Nat.add_sub_cancel, not_true_eq_false, not_false_eq_true, or_false, false_or, or_true, true_or, and_true, true_and, and_false, false_and, or_self, and_self, if_true, if_false, ite_true, ite_false, eq_self]; exact hK) | (simp (disch := omega) only [tput_eq, tput2, tput_ne, upd_eq, upd_ne, ne_eq, va_upeq, va_upne, va_up2, Nat.add_sub_cancel, not_true_eq_false, not_false_eq_true, or_false, false_or, or_true, true_or, and_true, true_and, and_false, false_and, or_self, and_self, if_true, if_false, ite_true, ite_false, eq_self] at hK; exact hK)
      · refine wp_if_eq_t (tgt := 41) d_Rf_bus_27 (by decide) (by decide) ?_
        refine wp_bipush (q := 43) d_Rf_bus_41 rfl bp_m2 ?_
        refine wp_iret d_Rf_bus_43 rfl (Nat.le_refl _) (Nat.le_refl _) ?_
        simp only [sp_bus, inn, inb, inm, btw, ha1a, ha1b, ha2a, ha2b, ha3, not_true_eq_false, not_false_eq_true, or_false, false_or, or_true, true_or, and_true, true_and, and_false, false_and, or_self, and_self, if_true, if_false, ite_true, ite_false, eq_self] at hK
        first | exact hK | (simp (disch := omega) only [tput_eq, tput2, tput_ne, upd_eq, upd_ne, ne_eq, va_upeq, va_upne, va_up2, Nat.add_sub_cancel, not_true_eq_false, not_false_eq_true, or_false, false_or, or_true, true_or, and_true, true_and, and_false, false_and, or_self, and_self, if_true, if_false, ite_true, ite_false, eq_self] at hK ⊢; exact hK) | (simp (disch := omega) only [tput_eq, tput2, tput_ne, upd_eq, upd_ne, ne_eq, va_upeq, va_upne, va_up2, Nat.add_sub_cancel, not_true_eq_false, not_false_eq_true, or_false, false_or, or_true, true_or, and_true, true_and, and_false, false_and, or_self, and_self, if_true, if_false, ite_true, ite_false, eq_self]; exact hK) | (simp (disch := omega) only [tput_eq, tput2, tput_ne, upd_eq, upd_ne, ne_eq, va_upeq, va_upne, va_up2, Nat.add_sub_cancel, not_true_eq_false, not_false_eq_true, or_false, false_or, or_true, true_or, and_true, true_and, and_false, false_and, or_self, and_self, if_true, if_false, ite_true, ite_false, eq_self] at hK; exact hK)
    · refine wp_if_eq_t (tgt := 41) d_Rf_bus_16 (by decide) (by decide) ?_
      refine wp_bipush (q := 43) d_Rf_bus_41 rfl bp_m2 ?_
      refine wp_iret d_Rf_bus_43 rfl (Nat.le_refl _) (Nat.le_refl _) ?_
      simp only [sp_bus, inn, inb, inm, btw, ha1a, ha1b, ha2, not_true_eq_false, not_false_eq_true, or_false, false_or, or_true, true_or, and_true, true_and, and_false, false_and, or_self, and_self, if_true, if_false, ite_true, ite_false, eq_self] at hK
      first | exact hK | (simp (disch := omega) only [tput_eq, tput2, tput_ne, upd_eq, upd_ne, ne_eq, va_upeq, va_upne, va_up2, Nat.add_sub_cancel, not_true_eq_false, not_false_eq_true, or_false, false_or, or_true, true_or, and_true, true_and, and_false, false_and, or_self, and_self, if_true, if_false, ite_true, ite_false, eq_self] at hK ⊢; exact hK) | (simp (disch := omega) only [tput_eq, tput2, tput_ne, upd_eq, upd_ne, ne_eq, va_upeq, va_upne, va_up2, Nat.add_sub_cancel, not_true_eq_false, not_false_eq_true, or_false, false_or, or_true, true_or, and_true, true_and, and_false, false_and, or_self, and_self, if_true, if_false, ite_true, ite_false, eq_self]; exact hK) | (simp (disch := omega) only [tput_eq, tput2, tput_ne, upd_eq, upd_ne, ne_eq, va_upeq, va_upne, va_up2, Nat.add_sub_cancel, not_true_eq_false, not_false_eq_true, or_false, false_or, or_true, true_or, and_true, true_and, and_false, false_and, or_self, and_self, if_true, if_false, ite_true, ite_false, eq_self] at hK; exact hK)
  · refine wp_if_eq_t (tgt := 41) d_Rf_bus_7 (by decide) (by decide) ?_
    refine wp_bipush (q := 43) d_Rf_bus_41 rfl bp_m2 ?_
    refine wp_iret d_Rf_bus_43 rfl (Nat.le_refl _) (Nat.le_refl _) ?_
    simp only [sp_bus, inn, inb, inm, btw, ha1, not_true_eq_false, not_false_eq_true, or_false, false_or, or_true, true_or, and_true, true_and, and_false, false_and, or_self, and_self, if_true, if_false, ite_true, ite_false, eq_self] at hK
    first | exact hK | (simp (disch := omega) only [tput_eq, tput2, tput_ne, upd_eq, upd_ne, ne_eq, va_upeq, va_upne, va_up2, Nat.add_sub_cancel, not_true_eq_false, not_false_eq_true, or_false, false_or, or_true, true_or, and_true, true_and, and_false, false_and, or_self, and_self, if_true, if_false, ite_true, ite_false, eq_self] at hK ⊢; exact hK) | (simp (disch := omega) only [tput_eq, tput2, tput_ne, upd_eq, upd_ne, ne_eq, va_upeq, va_upne, va_up2, Nat.add_sub_cancel, not_true_eq_false, not_false_eq_true, or_false, false_or, or_true, true_or, and_true, true_and, and_false, false_and, or_self, and_self, if_true, if_false, ite_true, ite_false, eq_self]; exact hK) | (simp (disch := omega) only [tput_eq, tput2, tput_ne, upd_eq, upd_ne, ne_eq, va_upeq, va_upne, va_up2, Nat.add_sub_cancel, not_true_eq_false, not_false_eq_true, or_false, false_or, or_true, true_or, and_true, true_and, and_false, false_and, or_self, and_self, if_true, if_false, ite_true, ite_false, eq_self] at hK; exact hK)
theorem d_FG_bus_0 : decode M_FG_bus.2.1 0 = .ok (.aload_n 0, 1) := by decide +kernel
theorem d_FG_bus_1 : decode M_FG_bus.2.1 1 = .ok (.getfield 10, 3) := by decide +kernel
theorem d_FG_bus_4 : decode M_FG_bus.2.1 4 = .ok (.iload_n 1, 1) := by decide +kernel
theorem d_FG_bus_5 : decode M_FG_bus.2.1 5 = .ok (.iload_n 2, 1) := by decide +kernel
theorem d_FG_bus_6 : decode M_FG_bus.2.1 6 = .ok (.iload_n 3, 1) := by decide +kernel
theorem d_FG_bus_7 : decode M_FG_bus.2.1 7 = .ok (.iload 4, 2) := by decide +kernel
theorem d_FG_bus_9 : decode M_FG_bus.2.1 9 = .ok (.invokevirtual 78, 3) := by decide +kernel
theorem d_FG_bus_12 : decode M_FG_bus.2.1 12 = .ok (.ireturn, 1) := by decide +kernel
set_option maxHeartbeats 4000000 in
set_option maxRecDepth 100000 in
theorem ok_FG_bus {D : xD} {N : Nat} {l : Launch} {d : Nat} {c x V : T2} {ln df : Nat → Option Nat} {rest : List va_E} {K : Option Value → List va_E → Prop} {s w a f : Int32} {nb : Nat} (hnb : c 32 1 = nI nb) (h12 : nb ≤ 12) (hK : K (some (.int (sp_bus c nb s w a f).1)) (encC D N (sp_bus c nb s w a f).2 x V ln df ++ rest)) : Ok D N l (d + 2) M_FG_bus [.ref (N + 0), .int s, .int w, .int a, .int f] (encC D N c x V ln df ++ rest) 0 0 K := by
  refine ok_of (L := [(0, _), (1, _), (2, _), (3, _), (4, _)]) (by decide) (Nat.le_of_ble_eq_true rfl) rfl ?_
  refine wp_aload_n (q := 1) d_FG_bus_0 rfl rfl ?_
  refine wp_get (q := 4) fl_FG_10 d_FG_bus_1 rfl rfl rfl ?_
  refine wp_iload_n (q := 5) d_FG_bus_4 rfl rfl ?_
  refine wp_iload_n (q := 6) d_FG_bus_5 rfl rfl ?_
  refine wp_iload_n (q := 7) d_FG_bus_6 rfl rfl ?_
  refine wp_iload (q := 9) d_FG_bus_7 rfl rfl ?_
  refine wp_cv4 (q := 12) lk_FG_78 (ro _ _ _) d_FG_bus_9 rfl (Nat.le_of_ble_eq_true rfl) (rfl) rfl (Nat.zero_le _) (Nat.zero_le _) ?_
  refine ok_Tn_enrol hnb h12 ?_
  refine wp_iret d_FG_bus_12 rfl (Nat.le_refl _) (Nat.le_refl _) ?_
  exact hK
def zr (f : Nat → Int32) (o k : Nat) : Nat → Int32 := fun i => if o ≤ i ∧ i < o + k then nI 0 else f i
theorem zr_0 {f : Nat → Int32} {o : Nat} : zr f o 0 = f := by
  funext i; simp only [zr]; rw [if_neg (by omega)]
theorem zr_s {f : Nat → Int32} {o k : Nat} : upd (zr f o k) (o + k) (nI 0) = zr f o (k + 1) := by
  funext i; simp only [upd, zr]
  repeat' split
  all_goals first | rfl | omega
def sp_sheet (c : T2) (s t n : Int32) : Int32 × T2 := if ¬ inn s 3 ∨ ¬ btw (-1) t (nI 2) then (-2, c) else if ¬ t = -1 ∧ ¬ n ≤ nI 40 then (-2, c) else if ¬ t = -1 ∧ ¬ 0 ≤ n then (-14, c) else (nI 1, tput (tput (tput c 29 (upd (c 29) (tn s) t)) 30 (upd (c 30) (tn s) (if t = -1 then nI 0 else n))) 31 (zr (c 31) (40 * tn s) 40))
theorem d_FG_sheet_0 : decode M_FG_sheet.2.1 0 = .ok (.iload_n 1, 1) := by decide +kernel
theorem d_FG_sheet_1 : decode M_FG_sheet.2.1 1 = .ok (.invokestatic 255, 3) := by decide +kernel
theorem d_FG_sheet_4 : decode M_FG_sheet.2.1 4 = .ok (.ifCond .eq 12, 3) := by decide +kernel
theorem d_FG_sheet_7 : decode M_FG_sheet.2.1 7 = .ok (.iload_n 2, 1) := by decide +kernel
theorem d_FG_sheet_8 : decode M_FG_sheet.2.1 8 = .ok (.iconst (-1), 1) := by decide +kernel
theorem d_FG_sheet_9 : decode M_FG_sheet.2.1 9 = .ok (.iconst 2, 1) := by decide +kernel
theorem d_FG_sheet_10 : decode M_FG_sheet.2.1 10 = .ok (.invokestatic 61, 3) := by decide +kernel
theorem d_FG_sheet_13 : decode M_FG_sheet.2.1 13 = .ok (.ifCond .ne 6, 3) := by decide +kernel
theorem d_FG_sheet_16 : decode M_FG_sheet.2.1 16 = .ok (.bipush (-2), 2) := by decide +kernel
theorem d_FG_sheet_18 : decode M_FG_sheet.2.1 18 = .ok (.ireturn, 1) := by decide +kernel
theorem d_FG_sheet_19 : decode M_FG_sheet.2.1 19 = .ok (.iload_n 2, 1) := by decide +kernel
theorem d_FG_sheet_20 : decode M_FG_sheet.2.1 20 = .ok (.iconst (-1), 1) := by decide +kernel
theorem d_FG_sheet_21 : decode M_FG_sheet.2.1 21 = .ok (.if_icmp .eq 12, 3) := by decide +kernel
theorem d_FG_sheet_24 : decode M_FG_sheet.2.1 24 = .ok (.iload_n 3, 1) := by decide +kernel
theorem d_FG_sheet_25 : decode M_FG_sheet.2.1 25 = .ok (.bipush 40, 2) := by decide +kernel
theorem d_FG_sheet_27 : decode M_FG_sheet.2.1 27 = .ok (.if_icmp .le 6, 3) := by decide +kernel
theorem d_FG_sheet_30 : decode M_FG_sheet.2.1 30 = .ok (.bipush (-2), 2) := by decide +kernel
theorem d_FG_sheet_32 : decode M_FG_sheet.2.1 32 = .ok (.ireturn, 1) := by decide +kernel
theorem d_FG_sheet_33 : decode M_FG_sheet.2.1 33 = .ok (.iload_n 2, 1) := by decide +kernel
theorem d_FG_sheet_34 : decode M_FG_sheet.2.1 34 = .ok (.iconst (-1), 1) := by decide +kernel
theorem d_FG_sheet_35 : decode M_FG_sheet.2.1 35 = .ok (.if_icmp .eq 10, 3) := by decide +kernel
theorem d_FG_sheet_38 : decode M_FG_sheet.2.1 38 = .ok (.iload_n 3, 1) := by decide +kernel
theorem d_FG_sheet_39 : decode M_FG_sheet.2.1 39 = .ok (.ifCond .ge 6, 3) := by decide +kernel
theorem d_FG_sheet_42 : decode M_FG_sheet.2.1 42 = .ok (.bipush (-14), 2) := by decide +kernel
theorem d_FG_sheet_44 : decode M_FG_sheet.2.1 44 = .ok (.ireturn, 1) := by decide +kernel
theorem d_FG_sheet_45 : decode M_FG_sheet.2.1 45 = .ok (.aload_n 0, 1) := by decide +kernel
theorem d_FG_sheet_46 : decode M_FG_sheet.2.1 46 = .ok (.getfield 54, 3) := by decide +kernel
theorem d_FG_sheet_49 : decode M_FG_sheet.2.1 49 = .ok (.iload_n 1, 1) := by decide +kernel
theorem d_FG_sheet_50 : decode M_FG_sheet.2.1 50 = .ok (.iload_n 2, 1) := by decide +kernel
theorem d_FG_sheet_51 : decode M_FG_sheet.2.1 51 = .ok (.iastore, 1) := by decide +kernel
theorem d_FG_sheet_52 : decode M_FG_sheet.2.1 52 = .ok (.aload_n 0, 1) := by decide +kernel
theorem d_FG_sheet_53 : decode M_FG_sheet.2.1 53 = .ok (.getfield 50, 3) := by decide +kernel
theorem d_FG_sheet_56 : decode M_FG_sheet.2.1 56 = .ok (.iload_n 1, 1) := by decide +kernel
theorem d_FG_sheet_57 : decode M_FG_sheet.2.1 57 = .ok (.iload_n 2, 1) := by decide +kernel
theorem d_FG_sheet_58 : decode M_FG_sheet.2.1 58 = .ok (.iconst (-1), 1) := by decide +kernel
theorem d_FG_sheet_59 : decode M_FG_sheet.2.1 59 = .ok (.if_icmp .ne 7, 3) := by decide +kernel
theorem d_FG_sheet_62 : decode M_FG_sheet.2.1 62 = .ok (.iconst 0, 1) := by decide +kernel
theorem d_FG_sheet_63 : decode M_FG_sheet.2.1 63 = .ok (.goto 4, 3) := by decide +kernel
theorem d_FG_sheet_66 : decode M_FG_sheet.2.1 66 = .ok (.iload_n 3, 1) := by decide +kernel
theorem d_FG_sheet_67 : decode M_FG_sheet.2.1 67 = .ok (.iastore, 1) := by decide +kernel
theorem d_FG_sheet_68 : decode M_FG_sheet.2.1 68 = .ok (.iconst 0, 1) := by decide +kernel
theorem d_FG_sheet_69 : decode M_FG_sheet.2.1 69 = .ok (.istore 4, 2) := by decide +kernel
theorem d_FG_sheet_71 : decode M_FG_sheet.2.1 71 = .ok (.iload 4, 2) := by decide +kernel
theorem d_FG_sheet_73 : decode M_FG_sheet.2.1 73 = .ok (.bipush 40, 2) := by decide +kernel
theorem d_FG_sheet_75 : decode M_FG_sheet.2.1 75 = .ok (.if_icmp .ge 19, 3) := by decide +kernel
theorem d_FG_sheet_78 : decode M_FG_sheet.2.1 78 = .ok (.aload_n 0, 1) := by decide +kernel
theorem d_FG_sheet_79 : decode M_FG_sheet.2.1 79 = .ok (.getfield 47, 3) := by decide +kernel
theorem d_FG_sheet_82 : decode M_FG_sheet.2.1 82 = .ok (.iload_n 1, 1) := by decide +kernel
theorem d_FG_sheet_83 : decode M_FG_sheet.2.1 83 = .ok (.aaload, 1) := by decide +kernel
theorem d_FG_sheet_84 : decode M_FG_sheet.2.1 84 = .ok (.iload 4, 2) := by decide +kernel
theorem d_FG_sheet_86 : decode M_FG_sheet.2.1 86 = .ok (.iconst 0, 1) := by decide +kernel
theorem d_FG_sheet_87 : decode M_FG_sheet.2.1 87 = .ok (.iastore, 1) := by decide +kernel
theorem d_FG_sheet_88 : decode M_FG_sheet.2.1 88 = .ok (.iinc 4 1, 3) := by decide +kernel
theorem d_FG_sheet_91 : decode M_FG_sheet.2.1 91 = .ok (.goto (-20), 3) := by decide +kernel
theorem d_FG_sheet_94 : decode M_FG_sheet.2.1 94 = .ok (.iconst 1, 1) := by decide +kernel
theorem d_FG_sheet_95 : decode M_FG_sheet.2.1 95 = .ok (.ireturn, 1) := by decide +kernel
set_option maxHeartbeats 4000000 in
set_option maxRecDepth 100000 in
theorem sh_FG_sheet {D : xD} {N : Nat} {l : Launch} {d : Nat} {c x V : T2} {ln df : Nat → Option Nat} {rest : List va_E} {K : Option Value → List va_E → Prop} {s : Nat} {t n : Int32} (hs : s < 4) (hK : K (some (.int (nI 1))) (encC D N (tput c 31 (zr (c 31) (40 * s) 40)) x V ln df ++ rest)) : Wp D N l (EI M_FG_sheet) M_FG_sheet (Rm (d + 2) 0 0) (Qm D N K 0 0) 0 0 71 [(4, .int (nI 0)), (0, .ref (N + 0)), (1, .int (nI s)), (2, .int t), (3, .int n)] [] (encC D N c x V ln df ++ rest) := by
  have lp : ∀ k : Nat, k ≤ 40 → Wp D N l (EI M_FG_sheet) M_FG_sheet (Rm (d + 2) 0 0) (Qm D N K 0 0) 0 0 71 [(4, .int (nI k)), (0, .ref (N + 0)), (1, .int (nI s)), (2, .int t), (3, .int n)] [] (encC D N (tput c 31 (zr (c 31) (40 * s) k)) x V ln df ++ rest) := by
    refine up_loop ?_ ?_
    · skip
      refine wp_iload (q := 73) d_FG_sheet_71 rfl rfl ?_
      refine wp_bipush (q := 75) d_FG_sheet_73 rfl bp_40 ?_
      refine wp_icmp_ge_t (tgt := 94) d_FG_sheet_75 (by decide) (nI_le (Nat.le_refl _) (by decide)) ?_
      refine wp_iconst (q := 95) d_FG_sheet_94 rfl ic_1 ?_
      refine wp_iret d_FG_sheet_95 rfl (Nat.le_refl _) (Nat.le_refl _) ?_
      exact hK
    · intro k hk ih
      refine wp_iload (q := 73) d_FG_sheet_71 rfl rfl ?_
      refine wp_bipush (q := 75) d_FG_sheet_73 rfl bp_40 ?_
      refine wp_icmp_ge_f (q := 78) (tgt := 94) d_FG_sheet_75 (by decide) rfl (nI_ge hk (by decide)) ?_
      refine wp_aload_n (q := 79) d_FG_sheet_78 rfl rfl ?_
      refine wp_get (q := 82) fl_FG_47 d_FG_sheet_79 rfl rfl rfl ?_
      refine wp_iload_n (q := 83) d_FG_sheet_82 rfl rfl ?_
      refine wp_aldA (q := 84) d_FG_sheet_83 rfl (rfl) (by omega) (by decide) (rows_at (by omega)) ?_
      refine wp_iload (q := 86) d_FG_sheet_84 rfl rfl ?_
      refine wp_iconst (q := 87) d_FG_sheet_86 rfl ic_0 ?_
      refine wp_iast (q := 88) d_FG_sheet_87 rfl (rd_sheet (by omega)) (by omega) (by decide) (fd_sheet (by omega) (by omega)) ?_
      refine wp_iinc (q := 91) (L2 := [(4, _), (0, _), (1, _), (2, _), (3, _)]) d_FG_sheet_88 rfl rfl (iinc_1) (by decide) rfl ?_
      refine wp_goto (tgt := 71) d_FG_sheet_91 (by decide) ?_
      rw [tput_eq, tput2, zr_s]; exact ih
  have h0 := lp 0 (Nat.zero_le _)
  rw [zr_0, tput_id] at h0
  exact h0
theorem d_Rf_sheet_0 : decode M_Rf_sheet.2.1 0 = .ok (.iload_n 1, 1) := by decide +kernel
theorem d_Rf_sheet_1 : decode M_Rf_sheet.2.1 1 = .ok (.iconst 0, 1) := by decide +kernel
theorem d_Rf_sheet_2 : decode M_Rf_sheet.2.1 2 = .ok (.iconst 3, 1) := by decide +kernel
theorem d_Rf_sheet_3 : decode M_Rf_sheet.2.1 3 = .ok (.invokestatic 151, 3) := by decide +kernel
theorem d_Rf_sheet_6 : decode M_Rf_sheet.2.1 6 = .ok (.ifCond .eq 23, 3) := by decide +kernel
theorem d_Rf_sheet_9 : decode M_Rf_sheet.2.1 9 = .ok (.iload_n 2, 1) := by decide +kernel
theorem d_Rf_sheet_10 : decode M_Rf_sheet.2.1 10 = .ok (.iconst (-1), 1) := by decide +kernel
theorem d_Rf_sheet_11 : decode M_Rf_sheet.2.1 11 = .ok (.iconst 2, 1) := by decide +kernel
theorem d_Rf_sheet_12 : decode M_Rf_sheet.2.1 12 = .ok (.invokestatic 151, 3) := by decide +kernel
theorem d_Rf_sheet_15 : decode M_Rf_sheet.2.1 15 = .ok (.ifCond .eq 14, 3) := by decide +kernel
theorem d_Rf_sheet_18 : decode M_Rf_sheet.2.1 18 = .ok (.iload_n 2, 1) := by decide +kernel
theorem d_Rf_sheet_19 : decode M_Rf_sheet.2.1 19 = .ok (.iconst (-1), 1) := by decide +kernel
theorem d_Rf_sheet_20 : decode M_Rf_sheet.2.1 20 = .ok (.if_icmp .eq 12, 3) := by decide +kernel
theorem d_Rf_sheet_23 : decode M_Rf_sheet.2.1 23 = .ok (.iload_n 3, 1) := by decide +kernel
theorem d_Rf_sheet_24 : decode M_Rf_sheet.2.1 24 = .ok (.bipush 40, 2) := by decide +kernel
theorem d_Rf_sheet_26 : decode M_Rf_sheet.2.1 26 = .ok (.if_icmp .le 6, 3) := by decide +kernel
theorem d_Rf_sheet_29 : decode M_Rf_sheet.2.1 29 = .ok (.bipush (-2), 2) := by decide +kernel
theorem d_Rf_sheet_31 : decode M_Rf_sheet.2.1 31 = .ok (.ireturn, 1) := by decide +kernel
theorem d_Rf_sheet_32 : decode M_Rf_sheet.2.1 32 = .ok (.iload_n 2, 1) := by decide +kernel
theorem d_Rf_sheet_33 : decode M_Rf_sheet.2.1 33 = .ok (.iconst (-1), 1) := by decide +kernel
theorem d_Rf_sheet_34 : decode M_Rf_sheet.2.1 34 = .ok (.if_icmp .eq 10, 3) := by decide +kernel
theorem d_Rf_sheet_37 : decode M_Rf_sheet.2.1 37 = .ok (.iload_n 3, 1) := by decide +kernel
theorem d_Rf_sheet_38 : decode M_Rf_sheet.2.1 38 = .ok (.ifCond .ge 6, 3) := by decide +kernel
theorem d_Rf_sheet_41 : decode M_Rf_sheet.2.1 41 = .ok (.bipush (-14), 2) := by decide +kernel
theorem d_Rf_sheet_43 : decode M_Rf_sheet.2.1 43 = .ok (.ireturn, 1) := by decide +kernel
theorem d_Rf_sheet_44 : decode M_Rf_sheet.2.1 44 = .ok (.aload_n 0, 1) := by decide +kernel
theorem d_Rf_sheet_45 : decode M_Rf_sheet.2.1 45 = .ok (.getfield 101, 3) := by decide +kernel
theorem d_Rf_sheet_48 : decode M_Rf_sheet.2.1 48 = .ok (.iload_n 1, 1) := by decide +kernel
theorem d_Rf_sheet_49 : decode M_Rf_sheet.2.1 49 = .ok (.iload_n 2, 1) := by decide +kernel
theorem d_Rf_sheet_50 : decode M_Rf_sheet.2.1 50 = .ok (.iastore, 1) := by decide +kernel
theorem d_Rf_sheet_51 : decode M_Rf_sheet.2.1 51 = .ok (.aload_n 0, 1) := by decide +kernel
theorem d_Rf_sheet_52 : decode M_Rf_sheet.2.1 52 = .ok (.getfield 104, 3) := by decide +kernel
theorem d_Rf_sheet_55 : decode M_Rf_sheet.2.1 55 = .ok (.iload_n 1, 1) := by decide +kernel
theorem d_Rf_sheet_56 : decode M_Rf_sheet.2.1 56 = .ok (.iload_n 2, 1) := by decide +kernel
theorem d_Rf_sheet_57 : decode M_Rf_sheet.2.1 57 = .ok (.iconst (-1), 1) := by decide +kernel
theorem d_Rf_sheet_58 : decode M_Rf_sheet.2.1 58 = .ok (.if_icmp .ne 7, 3) := by decide +kernel
theorem d_Rf_sheet_61 : decode M_Rf_sheet.2.1 61 = .ok (.iconst 0, 1) := by decide +kernel
theorem d_Rf_sheet_62 : decode M_Rf_sheet.2.1 62 = .ok (.goto 4, 3) := by decide +kernel
theorem d_Rf_sheet_65 : decode M_Rf_sheet.2.1 65 = .ok (.iload_n 3, 1) := by decide +kernel
theorem d_Rf_sheet_66 : decode M_Rf_sheet.2.1 66 = .ok (.iastore, 1) := by decide +kernel
theorem d_Rf_sheet_67 : decode M_Rf_sheet.2.1 67 = .ok (.iconst 0, 1) := by decide +kernel
theorem d_Rf_sheet_68 : decode M_Rf_sheet.2.1 68 = .ok (.istore 4, 2) := by decide +kernel
theorem d_Rf_sheet_70 : decode M_Rf_sheet.2.1 70 = .ok (.iload 4, 2) := by decide +kernel
theorem d_Rf_sheet_72 : decode M_Rf_sheet.2.1 72 = .ok (.bipush 40, 2) := by decide +kernel
theorem d_Rf_sheet_74 : decode M_Rf_sheet.2.1 74 = .ok (.if_icmp .ge 22, 3) := by decide +kernel
theorem d_Rf_sheet_77 : decode M_Rf_sheet.2.1 77 = .ok (.aload_n 0, 1) := by decide +kernel
theorem d_Rf_sheet_78 : decode M_Rf_sheet.2.1 78 = .ok (.getfield 107, 3) := by decide +kernel
theorem d_Rf_sheet_81 : decode M_Rf_sheet.2.1 81 = .ok (.bipush 40, 2) := by decide +kernel
theorem d_Rf_sheet_83 : decode M_Rf_sheet.2.1 83 = .ok (.iload_n 1, 1) := by decide +kernel
theorem d_Rf_sheet_84 : decode M_Rf_sheet.2.1 84 = .ok (.imul, 1) := by decide +kernel
theorem d_Rf_sheet_85 : decode M_Rf_sheet.2.1 85 = .ok (.iload 4, 2) := by decide +kernel
theorem d_Rf_sheet_87 : decode M_Rf_sheet.2.1 87 = .ok (.iadd, 1) := by decide +kernel
theorem d_Rf_sheet_88 : decode M_Rf_sheet.2.1 88 = .ok (.iconst 0, 1) := by decide +kernel
theorem d_Rf_sheet_89 : decode M_Rf_sheet.2.1 89 = .ok (.iastore, 1) := by decide +kernel
theorem d_Rf_sheet_90 : decode M_Rf_sheet.2.1 90 = .ok (.iinc 4 1, 3) := by decide +kernel
theorem d_Rf_sheet_93 : decode M_Rf_sheet.2.1 93 = .ok (.goto (-23), 3) := by decide +kernel
theorem d_Rf_sheet_96 : decode M_Rf_sheet.2.1 96 = .ok (.iconst 1, 1) := by decide +kernel
theorem d_Rf_sheet_97 : decode M_Rf_sheet.2.1 97 = .ok (.ireturn, 1) := by decide +kernel
set_option maxHeartbeats 4000000 in
set_option maxRecDepth 100000 in
theorem sh_Rf_sheet {D : xD} {N : Nat} {l : Launch} {d : Nat} {c z : T2} {P Q : Nat → Int32} {rest : List va_E} {K : Option Value → List va_E → Prop} {s : Nat} {t n : Int32} (hs : s < 4) (hK : K (some (.int (nI 1))) (encR D N (tput c 31 (zr (c 31) (40 * s) 40)) z P Q ++ rest)) : Wp D N l (EI M_Rf_sheet) M_Rf_sheet (Rm (d + 2) 0 0) (Qm D N K 0 0) 0 0 70 [(4, .int (nI 0)), (0, .ref (N + 0)), (1, .int (nI s)), (2, .int t), (3, .int n)] [] (encR D N c z P Q ++ rest) := by
  have lp : ∀ k : Nat, k ≤ 40 → Wp D N l (EI M_Rf_sheet) M_Rf_sheet (Rm (d + 2) 0 0) (Qm D N K 0 0) 0 0 70 [(4, .int (nI k)), (0, .ref (N + 0)), (1, .int (nI s)), (2, .int t), (3, .int n)] [] (encR D N (tput c 31 (zr (c 31) (40 * s) k)) z P Q ++ rest) := by
    refine up_loop ?_ ?_
    · skip
      refine wp_iload (q := 72) d_Rf_sheet_70 rfl rfl ?_
      refine wp_bipush (q := 74) d_Rf_sheet_72 rfl bp_40 ?_
      refine wp_icmp_ge_t (tgt := 96) d_Rf_sheet_74 (by decide) (nI_le (Nat.le_refl _) (by decide)) ?_
      refine wp_iconst (q := 97) d_Rf_sheet_96 rfl ic_1 ?_
      refine wp_iret d_Rf_sheet_97 rfl (Nat.le_refl _) (Nat.le_refl _) ?_
      exact hK
    · intro k hk ih
      refine wp_iload (q := 72) d_Rf_sheet_70 rfl rfl ?_
      refine wp_bipush (q := 74) d_Rf_sheet_72 rfl bp_40 ?_
      refine wp_icmp_ge_f (q := 77) (tgt := 96) d_Rf_sheet_74 (by decide) rfl (nI_ge hk (by decide)) ?_
      refine wp_aload_n (q := 78) d_Rf_sheet_77 rfl rfl ?_
      refine wp_get (q := 81) fl_Rf_107 d_Rf_sheet_78 rfl rfl rfl ?_
      refine wp_bipush (q := 83) d_Rf_sheet_81 rfl bp_40 ?_
      refine wp_iload_n (q := 84) d_Rf_sheet_83 rfl rfl ?_
      first | refine wp_imulN (q := 85) d_Rf_sheet_84 rfl ?_ | refine wp_imul (q := 85) d_Rf_sheet_84 rfl ?_
      refine wp_iload (q := 87) d_Rf_sheet_85 rfl rfl ?_
      first | refine wp_iaddN (q := 88) d_Rf_sheet_87 rfl ?_ | refine wp_iadd (q := 88) d_Rf_sheet_87 rfl ?_
      refine wp_iconst (q := 89) d_Rf_sheet_88 rfl ic_0 ?_
      refine wp_iast (q := 90) d_Rf_sheet_89 rfl (rfl) (by omega) (by decide) (fr_33) ?_
      refine wp_iinc (q := 93) (L2 := [(4, _), (0, _), (1, _), (2, _), (3, _)]) d_Rf_sheet_90 rfl rfl (iinc_1) (by decide) rfl ?_
      refine wp_goto (tgt := 70) d_Rf_sheet_93 (by decide) ?_
      rw [tput_eq, tput2, zr_s]; exact ih
  have h0 := lp 0 (Nat.zero_le _)
  rw [zr_0, tput_id] at h0
  exact h0
set_option maxHeartbeats 4000000 in
set_option maxRecDepth 100000 in
theorem ok_FG_sheet {D : xD} {N : Nat} {l : Launch} {d : Nat} {c x V : T2} {ln df : Nat → Option Nat} {rest : List va_E} {K : Option Value → List va_E → Prop} {s t n : Int32} (hK : K (some (.int (sp_sheet c s t n).1)) (encC D N (sp_sheet c s t n).2 x V ln df ++ rest)) : Ok D N l (d + 2) M_FG_sheet [.ref (N + 0), .int s, .int t, .int n] (encC D N c x V ln df ++ rest) 0 0 K := by
  refine ok_of (L := [(0, _), (1, _), (2, _), (3, _)]) (by decide) (Nat.le_of_ble_eq_true rfl) rfl ?_
  refine wp_iload_n (q := 1) d_FG_sheet_0 rfl rfl ?_
  refine wp_cs1 (q := 4) lk_FG_255 (ro _ _ _) d_FG_sheet_1 rfl (Nat.le_of_ble_eq_true rfl) (Nat.zero_le _) (Nat.zero_le _) ?_
  refine ok_FG_isSheet (fun s1 hs1 e => ?_) (fun hs1 => ?_)
  · subst e
    refine wp_if_eq_f (q := 7) (tgt := 16) d_FG_sheet_4 (by decide) rfl (by decide) ?_
    refine wp_iload_n (q := 8) d_FG_sheet_7 rfl rfl ?_
    refine wp_iconst (q := 9) d_FG_sheet_8 rfl ic_m1 ?_
    refine wp_iconst (q := 10) d_FG_sheet_9 rfl ic_2 ?_
    refine wp_cs3 (q := 13) lk_FG_61 (ro _ _ _) d_FG_sheet_10 rfl (Nat.le_of_ble_eq_true rfl) (Nat.zero_le _) (Nat.zero_le _) ?_
    refine ok_FG_within (fun ht1a ht1b => ?_) (fun ht1 => ?_)
    · refine wp_if_ne_t (tgt := 19) d_FG_sheet_13 (by decide) (by decide) ?_
      refine wp_iload_n (q := 20) d_FG_sheet_19 rfl rfl ?_
      refine wp_iconst (q := 21) d_FG_sheet_20 rfl ic_m1 ?_
      refine wp_icmp_eq (q := 24) (tgt := 33) d_FG_sheet_21 (by decide) rfl (fun hc_21 => ?_) (fun hc_21 => ?_)
      · subst hc_21
        refine wp_iload_n (q := 34) d_FG_sheet_33 rfl rfl ?_
        refine wp_iconst (q := 35) d_FG_sheet_34 rfl ic_m1 ?_
        refine wp_icmp_eq_t (tgt := 45) d_FG_sheet_35 (by decide) (rfl) ?_
        refine wp_aload_n (q := 46) d_FG_sheet_45 rfl rfl ?_
        refine wp_get (q := 49) fl_FG_54 d_FG_sheet_46 rfl rfl rfl ?_
        refine wp_iload_n (q := 50) d_FG_sheet_49 rfl rfl ?_
        refine wp_iload_n (q := 51) d_FG_sheet_50 rfl rfl ?_
        refine wp_iast (q := 52) d_FG_sheet_51 rfl (rfl) (by omega) (by decide) (fc_123) ?_
        refine wp_aload_n (q := 53) d_FG_sheet_52 rfl rfl ?_
        refine wp_get (q := 56) fl_FG_50 d_FG_sheet_53 rfl rfl rfl ?_
        refine wp_iload_n (q := 57) d_FG_sheet_56 rfl rfl ?_
        refine wp_iload_n (q := 58) d_FG_sheet_57 rfl rfl ?_
        refine wp_iconst (q := 59) d_FG_sheet_58 rfl ic_m1 ?_
        refine wp_icmp_ne_f (q := 62) (tgt := 66) d_FG_sheet_59 (by decide) rfl (rfl) ?_
        refine wp_iconst (q := 63) d_FG_sheet_62 rfl ic_0 ?_
        refine wp_goto (tgt := 67) d_FG_sheet_63 (by decide) ?_
        refine wp_iast (q := 68) d_FG_sheet_67 rfl (rfl) (by omega) (by decide) (fc_122) ?_
        refine wp_iconst (q := 69) d_FG_sheet_68 rfl ic_0 ?_
        refine wp_istore (q := 71) (L2 := [(4, _), (0, _), (1, _), (2, _), (3, _)]) d_FG_sheet_69 rfl (by decide) rfl ?_
        refine sh_FG_sheet (by omega) ?_
        simp only [sp_sheet, inn, inb, inm, btw, inn_t hs1, tnl hs1, ht1a, ht1b, not_true_eq_false, not_false_eq_true, or_false, false_or, or_true, true_or, and_true, true_and, and_false, false_and, or_self, and_self, if_true, if_false, ite_true, ite_false, eq_self] at hK
        first | exact hK | (simp (disch := omega) only [tput_ne, ne_eq, not_false_eq_true, tput_eq, upd_eq, upd_ne]; exact hK) | (simp (disch := omega) only [tput_ne, ne_eq, not_false_eq_true, tput_eq, upd_eq, upd_ne] at hK ⊢; exact hK) | (simp (disch := omega) only [tput_ne, ne_eq, not_false_eq_true, tput_eq, upd_eq, upd_ne] at hK; exact hK)
      · refine wp_iload_n (q := 25) d_FG_sheet_24 rfl rfl ?_
        refine wp_bipush (q := 27) d_FG_sheet_25 rfl bp_40 ?_
        refine wp_icmp_le (q := 30) (tgt := 33) d_FG_sheet_27 (by decide) rfl (fun hc_27 => ?_) (fun hc_27 => ?_)
        · refine wp_iload_n (q := 34) d_FG_sheet_33 rfl rfl ?_
          refine wp_iconst (q := 35) d_FG_sheet_34 rfl ic_m1 ?_
          refine wp_icmp_eq_f (q := 38) (tgt := 45) d_FG_sheet_35 (by decide) rfl (hc_21) ?_
          refine wp_iload_n (q := 39) d_FG_sheet_38 rfl rfl ?_
          refine wp_if_ge (q := 42) (tgt := 45) d_FG_sheet_39 (by decide) rfl (fun hc_39 => ?_) (fun hc_39 => ?_)
          · refine wp_aload_n (q := 46) d_FG_sheet_45 rfl rfl ?_
            refine wp_get (q := 49) fl_FG_54 d_FG_sheet_46 rfl rfl rfl ?_
            refine wp_iload_n (q := 50) d_FG_sheet_49 rfl rfl ?_
            refine wp_iload_n (q := 51) d_FG_sheet_50 rfl rfl ?_
            refine wp_iast (q := 52) d_FG_sheet_51 rfl (rfl) (by omega) (by decide) (fc_123) ?_
            refine wp_aload_n (q := 53) d_FG_sheet_52 rfl rfl ?_
            refine wp_get (q := 56) fl_FG_50 d_FG_sheet_53 rfl rfl rfl ?_
            refine wp_iload_n (q := 57) d_FG_sheet_56 rfl rfl ?_
            refine wp_iload_n (q := 58) d_FG_sheet_57 rfl rfl ?_
            refine wp_iconst (q := 59) d_FG_sheet_58 rfl ic_m1 ?_
            refine wp_icmp_ne_t (tgt := 66) d_FG_sheet_59 (by decide) (hc_21) ?_
            refine wp_iload_n (q := 67) d_FG_sheet_66 rfl rfl ?_
            refine wp_iast (q := 68) d_FG_sheet_67 rfl (rfl) (by omega) (by decide) (fc_122) ?_
            refine wp_iconst (q := 69) d_FG_sheet_68 rfl ic_0 ?_
            refine wp_istore (q := 71) (L2 := [(4, _), (0, _), (1, _), (2, _), (3, _)]) d_FG_sheet_69 rfl (by decide) rfl ?_
            refine sh_FG_sheet (by omega) ?_
            simp only [sp_sheet, inn, inb, inm, btw, inn_t hs1, tnl hs1, ht1a, ht1b, hc_21, hc_27, hc_39, not_true_eq_false, not_false_eq_true, or_false, false_or, or_true, true_or, and_true, true_and, and_false, false_and, or_self, and_self, if_true, if_false, ite_true, ite_false, eq_self] at hK
            first | exact hK | (simp (disch := omega) only [tput_ne, ne_eq, not_false_eq_true, tput_eq, upd_eq, upd_ne]; exact hK) | (simp (disch := omega) only [tput_ne, ne_eq, not_false_eq_true, tput_eq, upd_eq, upd_ne] at hK ⊢; exact hK) | (simp (disch := omega) only [tput_ne, ne_eq, not_false_eq_true, tput_eq, upd_eq, upd_ne] at hK; exact hK)
          · refine wp_bipush (q := 44) d_FG_sheet_42 rfl bp_m14 ?_
            refine wp_iret d_FG_sheet_44 rfl (Nat.le_refl _) (Nat.le_refl _) ?_
            simp only [sp_sheet, inn, inb, inm, btw, inn_t hs1, tnl hs1, ht1a, ht1b, hc_21, hc_27, hc_39, not_true_eq_false, not_false_eq_true, or_false, false_or, or_true, true_or, and_true, true_and, and_false, false_and, or_self, and_self, if_true, if_false, ite_true, ite_false, eq_self] at hK
            first | exact hK | (simp (disch := omega) only [tput_eq, tput2, tput_ne, upd_eq, upd_ne, ne_eq, va_upeq, va_upne, va_up2, not_true_eq_false, not_false_eq_true, or_false, false_or, or_true, true_or, and_true, true_and, and_false, false_and, or_self, and_self, if_true, if_false, ite_true, ite_false, eq_self] at hK ⊢; exact hK) | (simp (disch := omega) only [tput_eq, tput2, tput_ne, upd_eq, upd_ne, ne_eq, va_upeq, va_upne, va_up2, not_true_eq_false, not_false_eq_true, or_false, false_or, or_true, true_or, and_true, true_and, and_false, false_and, or_self, and_self, if_true, if_false, ite_true, ite_false, eq_self]; exact hK) | (simp (disch := omega) only [tput_eq, tput2, tput_ne, upd_eq, upd_ne, ne_eq, va_upeq, va_upne, va_up2, not_true_eq_false, not_false_eq_true, or_false, false_or, or_true, true_or, and_true, true_and, and_false, false_and, or_self, and_self, if_true, if_false, ite_true, ite_false, eq_self] at hK; exact hK)
        · refine wp_bipush (q := 32) d_FG_sheet_30 rfl bp_m2 ?_
          refine wp_iret d_FG_sheet_32 rfl (Nat.le_refl _) (Nat.le_refl _) ?_
          simp only [sp_sheet, inn, inb, inm, btw, inn_t hs1, tnl hs1, ht1a, ht1b, hc_21, hc_27, not_true_eq_false, not_false_eq_true, or_false, false_or, or_true, true_or, and_true, true_and, and_false, false_and, or_self, and_self, if_true, if_false, ite_true, ite_false, eq_self] at hK
          first | exact hK | (simp (disch := omega) only [tput_eq, tput2, tput_ne, upd_eq, upd_ne, ne_eq, va_upeq, va_upne, va_up2, not_true_eq_false, not_false_eq_true, or_false, false_or, or_true, true_or, and_true, true_and, and_false, false_and, or_self, and_self, if_true, if_false, ite_true, ite_false, eq_self] at hK ⊢; exact hK) | (simp (disch := omega) only [tput_eq, tput2, tput_ne, upd_eq, upd_ne, ne_eq, va_upeq, va_upne, va_up2, not_true_eq_false, not_false_eq_true, or_false, false_or, or_true, true_or, and_true, true_and, and_false, false_and, or_self, and_self, if_true, if_false, ite_true, ite_false, eq_self]; exact hK) | (simp (disch := omega) only [tput_eq, tput2, tput_ne, upd_eq, upd_ne, ne_eq, va_upeq, va_upne, va_up2, not_true_eq_false, not_false_eq_true, or_false, false_or, or_true, true_or, and_true, true_and, and_false, false_and, or_self, and_self, if_true, if_false, ite_true, ite_false, eq_self] at hK; exact hK)
    · refine wp_if_ne_f (q := 16) (tgt := 19) d_FG_sheet_13 (by decide) rfl (by decide) ?_
      refine wp_bipush (q := 18) d_FG_sheet_16 rfl bp_m2 ?_
      refine wp_iret d_FG_sheet_18 rfl (Nat.le_refl _) (Nat.le_refl _) ?_
      simp only [sp_sheet, inn, inb, inm, btw, inn_t hs1, tnl hs1, ht1, not_true_eq_false, not_false_eq_true, or_false, false_or, or_true, true_or, and_true, true_and, and_false, false_and, or_self, and_self, if_true, if_false, ite_true, ite_false, eq_self] at hK
      first | exact hK | (simp (disch := omega) only [tput_eq, tput2, tput_ne, upd_eq, upd_ne, ne_eq, va_upeq, va_upne, va_up2, not_true_eq_false, not_false_eq_true, or_false, false_or, or_true, true_or, and_true, true_and, and_false, false_and, or_self, and_self, if_true, if_false, ite_true, ite_false, eq_self] at hK ⊢; exact hK) | (simp (disch := omega) only [tput_eq, tput2, tput_ne, upd_eq, upd_ne, ne_eq, va_upeq, va_upne, va_up2, not_true_eq_false, not_false_eq_true, or_false, false_or, or_true, true_or, and_true, true_and, and_false, false_and, or_self, and_self, if_true, if_false, ite_true, ite_false, eq_self]; exact hK) | (simp (disch := omega) only [tput_eq, tput2, tput_ne, upd_eq, upd_ne, ne_eq, va_upeq, va_upne, va_up2, not_true_eq_false, not_false_eq_true, or_false, false_or, or_true, true_or, and_true, true_and, and_false, false_and, or_self, and_self, if_true, if_false, ite_true, ite_false, eq_self] at hK; exact hK)
  · refine wp_if_eq_t (tgt := 16) d_FG_sheet_4 (by decide) (by decide) ?_
    refine wp_bipush (q := 18) d_FG_sheet_16 rfl bp_m2 ?_
    refine wp_iret d_FG_sheet_18 rfl (Nat.le_refl _) (Nat.le_refl _) ?_
    simp only [sp_sheet, inn, inb, inm, btw, hs1, not_true_eq_false, not_false_eq_true, or_false, false_or, or_true, true_or, and_true, true_and, and_false, false_and, or_self, and_self, if_true, if_false, ite_true, ite_false, eq_self] at hK
    first | exact hK | (simp (disch := omega) only [tput_eq, tput2, tput_ne, upd_eq, upd_ne, ne_eq, va_upeq, va_upne, va_up2, not_true_eq_false, not_false_eq_true, or_false, false_or, or_true, true_or, and_true, true_and, and_false, false_and, or_self, and_self, if_true, if_false, ite_true, ite_false, eq_self] at hK ⊢; exact hK) | (simp (disch := omega) only [tput_eq, tput2, tput_ne, upd_eq, upd_ne, ne_eq, va_upeq, va_upne, va_up2, not_true_eq_false, not_false_eq_true, or_false, false_or, or_true, true_or, and_true, true_and, and_false, false_and, or_self, and_self, if_true, if_false, ite_true, ite_false, eq_self]; exact hK) | (simp (disch := omega) only [tput_eq, tput2, tput_ne, upd_eq, upd_ne, ne_eq, va_upeq, va_upne, va_up2, not_true_eq_false, not_false_eq_true, or_false, false_or, or_true, true_or, and_true, true_and, and_false, false_and, or_self, and_self, if_true, if_false, ite_true, ite_false, eq_self] at hK; exact hK)
set_option maxHeartbeats 4000000 in
set_option maxRecDepth 100000 in
theorem ok_Rf_sheet {D : xD} {N : Nat} {l : Launch} {d : Nat} {c z : T2} {P Q : Nat → Int32} {rest : List va_E} {K : Option Value → List va_E → Prop} {s t n : Int32} (hK : K (some (.int (sp_sheet c s t n).1)) (encR D N (sp_sheet c s t n).2 z P Q ++ rest)) : Ok D N l (d + 2) M_Rf_sheet [.ref (N + 0), .int s, .int t, .int n] (encR D N c z P Q ++ rest) 0 0 K := by
  refine ok_of (L := [(0, _), (1, _), (2, _), (3, _)]) (by decide) (Nat.le_of_ble_eq_true rfl) rfl ?_
  refine wp_iload_n (q := 1) d_Rf_sheet_0 rfl rfl ?_
  refine wp_iconst (q := 2) d_Rf_sheet_1 rfl ic_0 ?_
  refine wp_iconst (q := 3) d_Rf_sheet_2 rfl ic_3 ?_
  refine wp_cs3 (q := 6) lk_Rf_151 (ro _ _ _) d_Rf_sheet_3 rfl (Nat.le_of_ble_eq_true rfl) (Nat.zero_le _) (Nat.zero_le _) ?_
  refine ok_Rf_in0 (b := 3) (by decide) (fun s1 hs1 e => ?_) (fun hs1 => ?_)
  · subst e
    refine wp_if_eq_f (q := 9) (tgt := 29) d_Rf_sheet_6 (by decide) rfl (by decide) ?_
    refine wp_iload_n (q := 10) d_Rf_sheet_9 rfl rfl ?_
    refine wp_iconst (q := 11) d_Rf_sheet_10 rfl ic_m1 ?_
    refine wp_iconst (q := 12) d_Rf_sheet_11 rfl ic_2 ?_
    refine wp_cs3 (q := 15) lk_Rf_151 (ro _ _ _) d_Rf_sheet_12 rfl (Nat.le_of_ble_eq_true rfl) (Nat.zero_le _) (Nat.zero_le _) ?_
    refine ok_Rf_in (fun ht1a ht1b => ?_) (fun ht1 => ?_)
    · refine wp_if_eq_f (q := 18) (tgt := 29) d_Rf_sheet_15 (by decide) rfl (by decide) ?_
      refine wp_iload_n (q := 19) d_Rf_sheet_18 rfl rfl ?_
      refine wp_iconst (q := 20) d_Rf_sheet_19 rfl ic_m1 ?_
      refine wp_icmp_eq (q := 23) (tgt := 32) d_Rf_sheet_20 (by decide) rfl (fun hc_20 => ?_) (fun hc_20 => ?_)
      · subst hc_20
        refine wp_iload_n (q := 33) d_Rf_sheet_32 rfl rfl ?_
        refine wp_iconst (q := 34) d_Rf_sheet_33 rfl ic_m1 ?_
        refine wp_icmp_eq_t (tgt := 44) d_Rf_sheet_34 (by decide) (rfl) ?_
        refine wp_aload_n (q := 45) d_Rf_sheet_44 rfl rfl ?_
        refine wp_get (q := 48) fl_Rf_101 d_Rf_sheet_45 rfl rfl rfl ?_
        refine wp_iload_n (q := 49) d_Rf_sheet_48 rfl rfl ?_
        refine wp_iload_n (q := 50) d_Rf_sheet_49 rfl rfl ?_
        refine wp_iast (q := 51) d_Rf_sheet_50 rfl (rfl) (by omega) (by decide) (fr_31) ?_
        refine wp_aload_n (q := 52) d_Rf_sheet_51 rfl rfl ?_
        refine wp_get (q := 55) fl_Rf_104 d_Rf_sheet_52 rfl rfl rfl ?_
        refine wp_iload_n (q := 56) d_Rf_sheet_55 rfl rfl ?_
        refine wp_iload_n (q := 57) d_Rf_sheet_56 rfl rfl ?_
        refine wp_iconst (q := 58) d_Rf_sheet_57 rfl ic_m1 ?_
        refine wp_icmp_ne_f (q := 61) (tgt := 65) d_Rf_sheet_58 (by decide) rfl (rfl) ?_
        refine wp_iconst (q := 62) d_Rf_sheet_61 rfl ic_0 ?_
        refine wp_goto (tgt := 66) d_Rf_sheet_62 (by decide) ?_
        refine wp_iast (q := 67) d_Rf_sheet_66 rfl (rfl) (by omega) (by decide) (fr_32) ?_
        refine wp_iconst (q := 68) d_Rf_sheet_67 rfl ic_0 ?_
        refine wp_istore (q := 70) (L2 := [(4, _), (0, _), (1, _), (2, _), (3, _)]) d_Rf_sheet_68 rfl (by decide) rfl ?_
        refine sh_Rf_sheet (by omega) ?_
        simp only [sp_sheet, inn, inb, inm, btw, inn_t hs1, tnl hs1, ht1a, ht1b, not_true_eq_false, not_false_eq_true, or_false, false_or, or_true, true_or, and_true, true_and, and_false, false_and, or_self, and_self, if_true, if_false, ite_true, ite_false, eq_self] at hK
        first | exact hK | (simp (disch := omega) only [tput_ne, ne_eq, not_false_eq_true, tput_eq, upd_eq, upd_ne]; exact hK) | (simp (disch := omega) only [tput_ne, ne_eq, not_false_eq_true, tput_eq, upd_eq, upd_ne] at hK ⊢; exact hK) | (simp (disch := omega) only [tput_ne, ne_eq, not_false_eq_true, tput_eq, upd_eq, upd_ne] at hK; exact hK)
      · refine wp_iload_n (q := 24) d_Rf_sheet_23 rfl rfl ?_
        refine wp_bipush (q := 26) d_Rf_sheet_24 rfl bp_40 ?_
        refine wp_icmp_le (q := 29) (tgt := 32) d_Rf_sheet_26 (by decide) rfl (fun hc_26 => ?_) (fun hc_26 => ?_)
        · refine wp_iload_n (q := 33) d_Rf_sheet_32 rfl rfl ?_
          refine wp_iconst (q := 34) d_Rf_sheet_33 rfl ic_m1 ?_
          refine wp_icmp_eq_f (q := 37) (tgt := 44) d_Rf_sheet_34 (by decide) rfl (hc_20) ?_
          refine wp_iload_n (q := 38) d_Rf_sheet_37 rfl rfl ?_
          refine wp_if_ge (q := 41) (tgt := 44) d_Rf_sheet_38 (by decide) rfl (fun hc_38 => ?_) (fun hc_38 => ?_)
          · refine wp_aload_n (q := 45) d_Rf_sheet_44 rfl rfl ?_
            refine wp_get (q := 48) fl_Rf_101 d_Rf_sheet_45 rfl rfl rfl ?_
            refine wp_iload_n (q := 49) d_Rf_sheet_48 rfl rfl ?_
            refine wp_iload_n (q := 50) d_Rf_sheet_49 rfl rfl ?_
            refine wp_iast (q := 51) d_Rf_sheet_50 rfl (rfl) (by omega) (by decide) (fr_31) ?_
            refine wp_aload_n (q := 52) d_Rf_sheet_51 rfl rfl ?_
            refine wp_get (q := 55) fl_Rf_104 d_Rf_sheet_52 rfl rfl rfl ?_
            refine wp_iload_n (q := 56) d_Rf_sheet_55 rfl rfl ?_
            refine wp_iload_n (q := 57) d_Rf_sheet_56 rfl rfl ?_
            refine wp_iconst (q := 58) d_Rf_sheet_57 rfl ic_m1 ?_
            refine wp_icmp_ne_t (tgt := 65) d_Rf_sheet_58 (by decide) (hc_20) ?_
            refine wp_iload_n (q := 66) d_Rf_sheet_65 rfl rfl ?_
            refine wp_iast (q := 67) d_Rf_sheet_66 rfl (rfl) (by omega) (by decide) (fr_32) ?_
            refine wp_iconst (q := 68) d_Rf_sheet_67 rfl ic_0 ?_
            refine wp_istore (q := 70) (L2 := [(4, _), (0, _), (1, _), (2, _), (3, _)]) d_Rf_sheet_68 rfl (by decide) rfl ?_
            refine sh_Rf_sheet (by omega) ?_
            simp only [sp_sheet, inn, inb, inm, btw, inn_t hs1, tnl hs1, ht1a, ht1b, hc_20, hc_26, hc_38, not_true_eq_false, not_false_eq_true, or_false, false_or, or_true, true_or, and_true, true_and, and_false, false_and, or_self, and_self, if_true, if_false, ite_true, ite_false, eq_self] at hK
            first | exact hK | (simp (disch := omega) only [tput_ne, ne_eq, not_false_eq_true, tput_eq, upd_eq, upd_ne]; exact hK) | (simp (disch := omega) only [tput_ne, ne_eq, not_false_eq_true, tput_eq, upd_eq, upd_ne] at hK ⊢; exact hK) | (simp (disch := omega) only [tput_ne, ne_eq, not_false_eq_true, tput_eq, upd_eq, upd_ne] at hK; exact hK)
          · refine wp_bipush (q := 43) d_Rf_sheet_41 rfl bp_m14 ?_
            refine wp_iret d_Rf_sheet_43 rfl (Nat.le_refl _) (Nat.le_refl _) ?_
            simp only [sp_sheet, inn, inb, inm, btw, inn_t hs1, tnl hs1, ht1a, ht1b, hc_20, hc_26, hc_38, not_true_eq_false, not_false_eq_true, or_false, false_or, or_true, true_or, and_true, true_and, and_false, false_and, or_self, and_self, if_true, if_false, ite_true, ite_false, eq_self] at hK
            first | exact hK | (simp (disch := omega) only [tput_eq, tput2, tput_ne, upd_eq, upd_ne, ne_eq, va_upeq, va_upne, va_up2, not_true_eq_false, not_false_eq_true, or_false, false_or, or_true, true_or, and_true, true_and, and_false, false_and, or_self, and_self, if_true, if_false, ite_true, ite_false, eq_self] at hK ⊢; exact hK) | (simp (disch := omega) only [tput_eq, tput2, tput_ne, upd_eq, upd_ne, ne_eq, va_upeq, va_upne, va_up2, not_true_eq_false, not_false_eq_true, or_false, false_or, or_true, true_or, and_true, true_and, and_false, false_and, or_self, and_self, if_true, if_false, ite_true, ite_false, eq_self]; exact hK) | (simp (disch := omega) only [tput_eq, tput2, tput_ne, upd_eq, upd_ne, ne_eq, va_upeq, va_upne, va_up2, not_true_eq_false, not_false_eq_true, or_false, false_or, or_true, true_or, and_true, true_and, and_false, false_and, or_self, and_self, if_true, if_false, ite_true, ite_false, eq_self] at hK; exact hK)
        · refine wp_bipush (q := 31) d_Rf_sheet_29 rfl bp_m2 ?_
          refine wp_iret d_Rf_sheet_31 rfl (Nat.le_refl _) (Nat.le_refl _) ?_
          simp only [sp_sheet, inn, inb, inm, btw, inn_t hs1, tnl hs1, ht1a, ht1b, hc_20, hc_26, not_true_eq_false, not_false_eq_true, or_false, false_or, or_true, true_or, and_true, true_and, and_false, false_and, or_self, and_self, if_true, if_false, ite_true, ite_false, eq_self] at hK
          first | exact hK | (simp (disch := omega) only [tput_eq, tput2, tput_ne, upd_eq, upd_ne, ne_eq, va_upeq, va_upne, va_up2, not_true_eq_false, not_false_eq_true, or_false, false_or, or_true, true_or, and_true, true_and, and_false, false_and, or_self, and_self, if_true, if_false, ite_true, ite_false, eq_self] at hK ⊢; exact hK) | (simp (disch := omega) only [tput_eq, tput2, tput_ne, upd_eq, upd_ne, ne_eq, va_upeq, va_upne, va_up2, not_true_eq_false, not_false_eq_true, or_false, false_or, or_true, true_or, and_true, true_and, and_false, false_and, or_self, and_self, if_true, if_false, ite_true, ite_false, eq_self]; exact hK) | (simp (disch := omega) only [tput_eq, tput2, tput_ne, upd_eq, upd_ne, ne_eq, va_upeq, va_upne, va_up2, not_true_eq_false, not_false_eq_true, or_false, false_or, or_true, true_or, and_true, true_and, and_false, false_and, or_self, and_self, if_true, if_false, ite_true, ite_false, eq_self] at hK; exact hK)
    · refine wp_if_eq_t (tgt := 29) d_Rf_sheet_15 (by decide) (by decide) ?_
      refine wp_bipush (q := 31) d_Rf_sheet_29 rfl bp_m2 ?_
      refine wp_iret d_Rf_sheet_31 rfl (Nat.le_refl _) (Nat.le_refl _) ?_
      simp only [sp_sheet, inn, inb, inm, btw, inn_t hs1, tnl hs1, ht1, not_true_eq_false, not_false_eq_true, or_false, false_or, or_true, true_or, and_true, true_and, and_false, false_and, or_self, and_self, if_true, if_false, ite_true, ite_false, eq_self] at hK
      first | exact hK | (simp (disch := omega) only [tput_eq, tput2, tput_ne, upd_eq, upd_ne, ne_eq, va_upeq, va_upne, va_up2, not_true_eq_false, not_false_eq_true, or_false, false_or, or_true, true_or, and_true, true_and, and_false, false_and, or_self, and_self, if_true, if_false, ite_true, ite_false, eq_self] at hK ⊢; exact hK) | (simp (disch := omega) only [tput_eq, tput2, tput_ne, upd_eq, upd_ne, ne_eq, va_upeq, va_upne, va_up2, not_true_eq_false, not_false_eq_true, or_false, false_or, or_true, true_or, and_true, true_and, and_false, false_and, or_self, and_self, if_true, if_false, ite_true, ite_false, eq_self]; exact hK) | (simp (disch := omega) only [tput_eq, tput2, tput_ne, upd_eq, upd_ne, ne_eq, va_upeq, va_upne, va_up2, not_true_eq_false, not_false_eq_true, or_false, false_or, or_true, true_or, and_true, true_and, and_false, false_and, or_self, and_self, if_true, if_false, ite_true, ite_false, eq_self] at hK; exact hK)
  · refine wp_if_eq_t (tgt := 29) d_Rf_sheet_6 (by decide) (by decide) ?_
    refine wp_bipush (q := 31) d_Rf_sheet_29 rfl bp_m2 ?_
    refine wp_iret d_Rf_sheet_31 rfl (Nat.le_refl _) (Nat.le_refl _) ?_
    simp only [sp_sheet, inn, inb, inm, btw, hs1, not_true_eq_false, not_false_eq_true, or_false, false_or, or_true, true_or, and_true, true_and, and_false, false_and, or_self, and_self, if_true, if_false, ite_true, ite_false, eq_self] at hK
    first | exact hK | (simp (disch := omega) only [tput_eq, tput2, tput_ne, upd_eq, upd_ne, ne_eq, va_upeq, va_upne, va_up2, not_true_eq_false, not_false_eq_true, or_false, false_or, or_true, true_or, and_true, true_and, and_false, false_and, or_self, and_self, if_true, if_false, ite_true, ite_false, eq_self] at hK ⊢; exact hK) | (simp (disch := omega) only [tput_eq, tput2, tput_ne, upd_eq, upd_ne, ne_eq, va_upeq, va_upne, va_up2, not_true_eq_false, not_false_eq_true, or_false, false_or, or_true, true_or, and_true, true_and, and_false, false_and, or_self, and_self, if_true, if_false, ite_true, ite_false, eq_self]; exact hK) | (simp (disch := omega) only [tput_eq, tput2, tput_ne, upd_eq, upd_ne, ne_eq, va_upeq, va_upne, va_up2, not_true_eq_false, not_false_eq_true, or_false, false_or, or_true, true_or, and_true, true_and, and_false, false_and, or_self, and_self, if_true, if_false, ite_true, ite_false, eq_self] at hK; exact hK)
def sp_cell (c : T2) (s i v : Int32) : Int32 × T2 := if ¬ inn s 3 then (-2, c) else if c 29 (tn s) = -1 then (-11, c) else if ¬ btw (nI 0) i (c 30 (tn s) - nI 1) then (-12, c) else (nI 1, tput c 31 (upd (c 31) (40 * tn s + tn i) (if c 29 (tn s) = 0 then v.toInt8.toInt32 else if c 29 (tn s) = nI 1 then v.toInt16.toInt32 else v)))
theorem d_FG_cell_0 : decode M_FG_cell.2.1 0 = .ok (.iload_n 1, 1) := by decide +kernel
theorem d_FG_cell_1 : decode M_FG_cell.2.1 1 = .ok (.invokestatic 255, 3) := by decide +kernel
theorem d_FG_cell_4 : decode M_FG_cell.2.1 4 = .ok (.ifCond .ne 6, 3) := by decide +kernel
theorem d_FG_cell_7 : decode M_FG_cell.2.1 7 = .ok (.bipush (-2), 2) := by decide +kernel
theorem d_FG_cell_9 : decode M_FG_cell.2.1 9 = .ok (.ireturn, 1) := by decide +kernel
theorem d_FG_cell_10 : decode M_FG_cell.2.1 10 = .ok (.aload_n 0, 1) := by decide +kernel
theorem d_FG_cell_11 : decode M_FG_cell.2.1 11 = .ok (.getfield 54, 3) := by decide +kernel
theorem d_FG_cell_14 : decode M_FG_cell.2.1 14 = .ok (.iload_n 1, 1) := by decide +kernel
theorem d_FG_cell_15 : decode M_FG_cell.2.1 15 = .ok (.iaload, 1) := by decide +kernel
theorem d_FG_cell_16 : decode M_FG_cell.2.1 16 = .ok (.iconst (-1), 1) := by decide +kernel
theorem d_FG_cell_17 : decode M_FG_cell.2.1 17 = .ok (.if_icmp .ne 6, 3) := by decide +kernel
theorem d_FG_cell_20 : decode M_FG_cell.2.1 20 = .ok (.bipush (-11), 2) := by decide +kernel
theorem d_FG_cell_22 : decode M_FG_cell.2.1 22 = .ok (.ireturn, 1) := by decide +kernel
theorem d_FG_cell_23 : decode M_FG_cell.2.1 23 = .ok (.iload_n 2, 1) := by decide +kernel
theorem d_FG_cell_24 : decode M_FG_cell.2.1 24 = .ok (.iconst 0, 1) := by decide +kernel
theorem d_FG_cell_25 : decode M_FG_cell.2.1 25 = .ok (.aload_n 0, 1) := by decide +kernel
theorem d_FG_cell_26 : decode M_FG_cell.2.1 26 = .ok (.getfield 50, 3) := by decide +kernel
theorem d_FG_cell_29 : decode M_FG_cell.2.1 29 = .ok (.iload_n 1, 1) := by decide +kernel
theorem d_FG_cell_30 : decode M_FG_cell.2.1 30 = .ok (.iaload, 1) := by decide +kernel
theorem d_FG_cell_31 : decode M_FG_cell.2.1 31 = .ok (.iconst 1, 1) := by decide +kernel
theorem d_FG_cell_32 : decode M_FG_cell.2.1 32 = .ok (.isub, 1) := by decide +kernel
theorem d_FG_cell_33 : decode M_FG_cell.2.1 33 = .ok (.invokestatic 61, 3) := by decide +kernel
theorem d_FG_cell_36 : decode M_FG_cell.2.1 36 = .ok (.ifCond .ne 6, 3) := by decide +kernel
theorem d_FG_cell_39 : decode M_FG_cell.2.1 39 = .ok (.bipush (-12), 2) := by decide +kernel
theorem d_FG_cell_41 : decode M_FG_cell.2.1 41 = .ok (.ireturn, 1) := by decide +kernel
theorem d_FG_cell_42 : decode M_FG_cell.2.1 42 = .ok (.aload_n 0, 1) := by decide +kernel
theorem d_FG_cell_43 : decode M_FG_cell.2.1 43 = .ok (.getfield 47, 3) := by decide +kernel
theorem d_FG_cell_46 : decode M_FG_cell.2.1 46 = .ok (.iload_n 1, 1) := by decide +kernel
theorem d_FG_cell_47 : decode M_FG_cell.2.1 47 = .ok (.aaload, 1) := by decide +kernel
theorem d_FG_cell_48 : decode M_FG_cell.2.1 48 = .ok (.iload_n 2, 1) := by decide +kernel
theorem d_FG_cell_49 : decode M_FG_cell.2.1 49 = .ok (.aload_n 0, 1) := by decide +kernel
theorem d_FG_cell_50 : decode M_FG_cell.2.1 50 = .ok (.getfield 54, 3) := by decide +kernel
theorem d_FG_cell_53 : decode M_FG_cell.2.1 53 = .ok (.iload_n 1, 1) := by decide +kernel
theorem d_FG_cell_54 : decode M_FG_cell.2.1 54 = .ok (.iaload, 1) := by decide +kernel
theorem d_FG_cell_55 : decode M_FG_cell.2.1 55 = .ok (.ifCond .ne 8, 3) := by decide +kernel
theorem d_FG_cell_58 : decode M_FG_cell.2.1 58 = .ok (.iload_n 3, 1) := by decide +kernel
theorem d_FG_cell_59 : decode M_FG_cell.2.1 59 = .ok (.i2b, 1) := by decide +kernel
theorem d_FG_cell_60 : decode M_FG_cell.2.1 60 = .ok (.goto 19, 3) := by decide +kernel
theorem d_FG_cell_63 : decode M_FG_cell.2.1 63 = .ok (.aload_n 0, 1) := by decide +kernel
theorem d_FG_cell_64 : decode M_FG_cell.2.1 64 = .ok (.getfield 54, 3) := by decide +kernel
theorem d_FG_cell_67 : decode M_FG_cell.2.1 67 = .ok (.iload_n 1, 1) := by decide +kernel
theorem d_FG_cell_68 : decode M_FG_cell.2.1 68 = .ok (.iaload, 1) := by decide +kernel
theorem d_FG_cell_69 : decode M_FG_cell.2.1 69 = .ok (.iconst 1, 1) := by decide +kernel
theorem d_FG_cell_70 : decode M_FG_cell.2.1 70 = .ok (.if_icmp .ne 8, 3) := by decide +kernel
theorem d_FG_cell_73 : decode M_FG_cell.2.1 73 = .ok (.iload_n 3, 1) := by decide +kernel
theorem d_FG_cell_74 : decode M_FG_cell.2.1 74 = .ok (.i2s, 1) := by decide +kernel
theorem d_FG_cell_75 : decode M_FG_cell.2.1 75 = .ok (.goto 4, 3) := by decide +kernel
theorem d_FG_cell_78 : decode M_FG_cell.2.1 78 = .ok (.iload_n 3, 1) := by decide +kernel
theorem d_FG_cell_79 : decode M_FG_cell.2.1 79 = .ok (.iastore, 1) := by decide +kernel
theorem d_FG_cell_80 : decode M_FG_cell.2.1 80 = .ok (.iconst 1, 1) := by decide +kernel
theorem d_FG_cell_81 : decode M_FG_cell.2.1 81 = .ok (.ireturn, 1) := by decide +kernel
set_option maxHeartbeats 4000000 in
set_option maxRecDepth 100000 in
theorem ok_FG_cell {D : xD} {N : Nat} {l : Launch} {d : Nat} {c x V : T2} {P : Nat → Int32} {ln df : Nat → Option Nat} {rest : List va_E} {K : Option Value → List va_E → Prop} {s : Int32} {i : Int32} {v : Int32} (hSZ : ∀ s, s < 4 → isN (c 30 s) 41)  (hK : K (some (.int (sp_cell c s i v).1)) (encC D N (sp_cell c s i v).2 x (va_up V 0 P) ln df ++ rest)) : Ok D N l (d + 2) M_FG_cell [.ref (N + 0), .int s, .int i, .int v] (encC D N c x (va_up V 0 P) ln df ++ rest) 0 0 K := by
  refine ok_of (L := [(0, _), (1, _), (2, _), (3, _)]) (by decide) (Nat.le_of_ble_eq_true rfl) rfl ?_
  refine wp_iload_n (q := 1) d_FG_cell_0 rfl rfl ?_
  refine wp_cs1 (q := 4) lk_FG_255 (ro _ _ _) d_FG_cell_1 rfl (Nat.le_of_ble_eq_true rfl) (Nat.zero_le _) (Nat.zero_le _) ?_
  refine ok_FG_isSheet (fun s1 hs1 e => ?_) (fun hs1 => ?_)
  · subst e
    refine wp_if_ne_t (tgt := 10) d_FG_cell_4 (by decide) (by decide) ?_
    refine wp_aload_n (q := 11) d_FG_cell_10 rfl rfl ?_
    refine wp_get (q := 14) fl_FG_54 d_FG_cell_11 rfl rfl rfl ?_
    refine wp_iload_n (q := 15) d_FG_cell_14 rfl rfl ?_
    refine wp_iald (q := 16) d_FG_cell_15 rfl (rfl) (by omega) (by decide) ?_
    refine wp_iconst (q := 17) d_FG_cell_16 rfl ic_m1 ?_
    refine wp_icmp_ne (q := 20) (tgt := 23) d_FG_cell_17 (by decide) rfl (fun hc_17 => ?_) (fun hc_17 => ?_)
    · refine wp_iload_n (q := 24) d_FG_cell_23 rfl rfl ?_
      refine wp_iconst (q := 25) d_FG_cell_24 rfl ic_0 ?_
      refine wp_aload_n (q := 26) d_FG_cell_25 rfl rfl ?_
      refine wp_get (q := 29) fl_FG_50 d_FG_cell_26 rfl rfl rfl ?_
      refine wp_iload_n (q := 30) d_FG_cell_29 rfl rfl ?_
      refine wp_iald (q := 31) d_FG_cell_30 rfl (rfl) (by omega) (by decide) ?_
      refine wp_iconst (q := 32) d_FG_cell_31 rfl ic_1 ?_
      refine wp_isub (q := 33) d_FG_cell_32 rfl ?_
      refine wp_cs3 (q := 36) lk_FG_61 (ro _ _ _) d_FG_cell_33 rfl (Nat.le_of_ble_eq_true rfl) (Nat.zero_le _) (Nat.zero_le _) ?_
      refine ok_FG_within (fun hia hib => ?_) (fun hi1 => ?_)
      · have hz := hSZ s1 (by omega)
        have hz2 := hz.2
        obtain ⟨i1, hi1, rfl⟩ := (inb_iff hz.1 (by omega)).mp ((inb_sub hz.1 (by omega)).mp ⟨hia, hib⟩)
        refine wp_if_ne_t (tgt := 42) d_FG_cell_36 (by decide) (by decide) ?_
        refine wp_aload_n (q := 43) d_FG_cell_42 rfl rfl ?_
        refine wp_get (q := 46) fl_FG_47 d_FG_cell_43 rfl rfl rfl ?_
        refine wp_iload_n (q := 47) d_FG_cell_46 rfl rfl ?_
        refine wp_aldA (q := 48) d_FG_cell_47 rfl (rfl) (by omega) (by decide) (rows_at (by omega)) ?_
        refine wp_iload_n (q := 49) d_FG_cell_48 rfl rfl ?_
        refine wp_aload_n (q := 50) d_FG_cell_49 rfl rfl ?_
        refine wp_get (q := 53) fl_FG_54 d_FG_cell_50 rfl rfl rfl ?_
        refine wp_iload_n (q := 54) d_FG_cell_53 rfl rfl ?_
        refine wp_iald (q := 55) d_FG_cell_54 rfl (rfl) (by omega) (by decide) ?_
        refine wp_if_ne (q := 58) (tgt := 63) d_FG_cell_55 (by decide) rfl (fun hc_55 => ?_) (fun hc_55 => ?_)
        · refine wp_aload_n (q := 64) d_FG_cell_63 rfl rfl ?_
          refine wp_get (q := 67) fl_FG_54 d_FG_cell_64 rfl rfl rfl ?_
          refine wp_iload_n (q := 68) d_FG_cell_67 rfl rfl ?_
          refine wp_iald (q := 69) d_FG_cell_68 rfl (rfl) (by omega) (by decide) ?_
          refine wp_iconst (q := 70) d_FG_cell_69 rfl ic_1 ?_
          refine wp_icmp_ne (q := 73) (tgt := 78) d_FG_cell_70 (by decide) rfl (fun hc_70 => ?_) (fun hc_70 => ?_)
          · refine wp_iload_n (q := 79) d_FG_cell_78 rfl rfl ?_
            refine wp_iast (q := 80) d_FG_cell_79 rfl (rd_sheet (by omega)) (by omega) (by decide) (fd_sheet (by omega) (by omega)) ?_
            refine wp_iconst (q := 81) d_FG_cell_80 rfl ic_1 ?_
            refine wp_iret d_FG_cell_81 rfl (Nat.le_refl _) (Nat.le_refl _) ?_
            simp only [sp_cell, inn, inb, inm, btw, inn_t hs1, tnl hs1, hc_17, hia, hib, tnt (show i1 < 41 by omega), hc_55, hc_70, not_true_eq_false, not_false_eq_true, or_false, false_or, or_true, true_or, and_true, true_and, and_false, false_and, or_self, and_self, if_true, if_false, ite_true, ite_false, eq_self] at hK
            first | exact hK | (simp (disch := omega) only [tput_eq, tput2, tput_ne, upd_eq, upd_ne, ne_eq, va_upeq, va_upne, va_up2, not_true_eq_false, not_false_eq_true, or_false, false_or, or_true, true_or, and_true, true_and, and_false, false_and, or_self, and_self, if_true, if_false, ite_true, ite_false, eq_self] at hK ⊢; exact hK) | (simp (disch := omega) only [tput_eq, tput2, tput_ne, upd_eq, upd_ne, ne_eq, va_upeq, va_upne, va_up2, not_true_eq_false, not_false_eq_true, or_false, false_or, or_true, true_or, and_true, true_and, and_false, false_and, or_self, and_self, if_true, if_false, ite_true, ite_false, eq_self]; exact hK) | (simp (disch := omega) only [tput_eq, tput2, tput_ne, upd_eq, upd_ne, ne_eq, va_upeq, va_upne, va_up2, not_true_eq_false, not_false_eq_true, or_false, false_or, or_true, true_or, and_true, true_and, and_false, false_and, or_self, and_self, if_true, if_false, ite_true, ite_false, eq_self] at hK; exact hK)
          · refine wp_iload_n (q := 74) d_FG_cell_73 rfl rfl ?_
            refine wp_i2s (q := 75) d_FG_cell_74 rfl ?_
            refine wp_goto (tgt := 79) d_FG_cell_75 (by decide) ?_
            refine wp_iast (q := 80) d_FG_cell_79 rfl (rd_sheet (by omega)) (by omega) (by decide) (fd_sheet (by omega) (by omega)) ?_
            refine wp_iconst (q := 81) d_FG_cell_80 rfl ic_1 ?_
            refine wp_iret d_FG_cell_81 rfl (Nat.le_refl _) (Nat.le_refl _) ?_
            simp only [sp_cell, inn, inb, inm, btw, inn_t hs1, tnl hs1, hc_17, hia, hib, tnt (show i1 < 41 by omega), hc_55, hc_70, not_true_eq_false, not_false_eq_true, or_false, false_or, or_true, true_or, and_true, true_and, and_false, false_and, or_self, and_self, if_true, if_false, ite_true, ite_false, eq_self] at hK
            first | exact hK | (simp (disch := omega) only [tput_eq, tput2, tput_ne, upd_eq, upd_ne, ne_eq, va_upeq, va_upne, va_up2, not_true_eq_false, not_false_eq_true, or_false, false_or, or_true, true_or, and_true, true_and, and_false, false_and, or_self, and_self, if_true, if_false, ite_true, ite_false, eq_self] at hK ⊢; exact hK) | (simp (disch := omega) only [tput_eq, tput2, tput_ne, upd_eq, upd_ne, ne_eq, va_upeq, va_upne, va_up2, not_true_eq_false, not_false_eq_true, or_false, false_or, or_true, true_or, and_true, true_and, and_false, false_and, or_self, and_self, if_true, if_false, ite_true, ite_false, eq_self]; exact hK) | (simp (disch := omega) only [tput_eq, tput2, tput_ne, upd_eq, upd_ne, ne_eq, va_upeq, va_upne, va_up2, not_true_eq_false, not_false_eq_true, or_false, false_or, or_true, true_or, and_true, true_and, and_false, false_and, or_self, and_self, if_true, if_false, ite_true, ite_false, eq_self] at hK; exact hK)
        · refine wp_iload_n (q := 59) d_FG_cell_58 rfl rfl ?_
          refine wp_i2b (q := 60) d_FG_cell_59 rfl ?_
          refine wp_goto (tgt := 79) d_FG_cell_60 (by decide) ?_
          refine wp_iast (q := 80) d_FG_cell_79 rfl (rd_sheet (by omega)) (by omega) (by decide) (fd_sheet (by omega) (by omega)) ?_
          refine wp_iconst (q := 81) d_FG_cell_80 rfl ic_1 ?_
          refine wp_iret d_FG_cell_81 rfl (Nat.le_refl _) (Nat.le_refl _) ?_
          simp only [sp_cell, inn, inb, inm, btw, inn_t hs1, tnl hs1, hc_17, hia, hib, tnt (show i1 < 41 by omega), hc_55, not_true_eq_false, not_false_eq_true, or_false, false_or, or_true, true_or, and_true, true_and, and_false, false_and, or_self, and_self, if_true, if_false, ite_true, ite_false, eq_self] at hK
          first | exact hK | (simp (disch := omega) only [tput_eq, tput2, tput_ne, upd_eq, upd_ne, ne_eq, va_upeq, va_upne, va_up2, not_true_eq_false, not_false_eq_true, or_false, false_or, or_true, true_or, and_true, true_and, and_false, false_and, or_self, and_self, if_true, if_false, ite_true, ite_false, eq_self] at hK ⊢; exact hK) | (simp (disch := omega) only [tput_eq, tput2, tput_ne, upd_eq, upd_ne, ne_eq, va_upeq, va_upne, va_up2, not_true_eq_false, not_false_eq_true, or_false, false_or, or_true, true_or, and_true, true_and, and_false, false_and, or_self, and_self, if_true, if_false, ite_true, ite_false, eq_self]; exact hK) | (simp (disch := omega) only [tput_eq, tput2, tput_ne, upd_eq, upd_ne, ne_eq, va_upeq, va_upne, va_up2, not_true_eq_false, not_false_eq_true, or_false, false_or, or_true, true_or, and_true, true_and, and_false, false_and, or_self, and_self, if_true, if_false, ite_true, ite_false, eq_self] at hK; exact hK)
      · refine wp_if_ne_f (q := 39) (tgt := 42) d_FG_cell_36 (by decide) rfl (by decide) ?_
        refine wp_bipush (q := 41) d_FG_cell_39 rfl bp_m12 ?_
        refine wp_iret d_FG_cell_41 rfl (Nat.le_refl _) (Nat.le_refl _) ?_
        simp only [sp_cell, inn, inb, inm, btw, inn_t hs1, tnl hs1, hc_17, hi1, not_true_eq_false, not_false_eq_true, or_false, false_or, or_true, true_or, and_true, true_and, and_false, false_and, or_self, and_self, if_true, if_false, ite_true, ite_false, eq_self] at hK
        first | exact hK | (simp (disch := omega) only [tput_eq, tput2, tput_ne, upd_eq, upd_ne, ne_eq, va_upeq, va_upne, va_up2, not_true_eq_false, not_false_eq_true, or_false, false_or, or_true, true_or, and_true, true_and, and_false, false_and, or_self, and_self, if_true, if_false, ite_true, ite_false, eq_self] at hK ⊢; exact hK) | (simp (disch := omega) only [tput_eq, tput2, tput_ne, upd_eq, upd_ne, ne_eq, va_upeq, va_upne, va_up2, not_true_eq_false, not_false_eq_true, or_false, false_or, or_true, true_or, and_true, true_and, and_false, false_and, or_self, and_self, if_true, if_false, ite_true, ite_false, eq_self]; exact hK) | (simp (disch := omega) only [tput_eq, tput2, tput_ne, upd_eq, upd_ne, ne_eq, va_upeq, va_upne, va_up2, not_true_eq_false, not_false_eq_true, or_false, false_or, or_true, true_or, and_true, true_and, and_false, false_and, or_self, and_self, if_true, if_false, ite_true, ite_false, eq_self] at hK; exact hK)
    · refine wp_bipush (q := 22) d_FG_cell_20 rfl bp_m11 ?_
      refine wp_iret d_FG_cell_22 rfl (Nat.le_refl _) (Nat.le_refl _) ?_
      simp only [sp_cell, inn, inb, inm, btw, inn_t hs1, tnl hs1, hc_17, not_true_eq_false, not_false_eq_true, or_false, false_or, or_true, true_or, and_true, true_and, and_false, false_and, or_self, and_self, if_true, if_false, ite_true, ite_false, eq_self] at hK
      first | exact hK | (simp (disch := omega) only [tput_eq, tput2, tput_ne, upd_eq, upd_ne, ne_eq, va_upeq, va_upne, va_up2, not_true_eq_false, not_false_eq_true, or_false, false_or, or_true, true_or, and_true, true_and, and_false, false_and, or_self, and_self, if_true, if_false, ite_true, ite_false, eq_self] at hK ⊢; exact hK) | (simp (disch := omega) only [tput_eq, tput2, tput_ne, upd_eq, upd_ne, ne_eq, va_upeq, va_upne, va_up2, not_true_eq_false, not_false_eq_true, or_false, false_or, or_true, true_or, and_true, true_and, and_false, false_and, or_self, and_self, if_true, if_false, ite_true, ite_false, eq_self]; exact hK) | (simp (disch := omega) only [tput_eq, tput2, tput_ne, upd_eq, upd_ne, ne_eq, va_upeq, va_upne, va_up2, not_true_eq_false, not_false_eq_true, or_false, false_or, or_true, true_or, and_true, true_and, and_false, false_and, or_self, and_self, if_true, if_false, ite_true, ite_false, eq_self] at hK; exact hK)
  · refine wp_if_ne_f (q := 7) (tgt := 10) d_FG_cell_4 (by decide) rfl (by decide) ?_
    refine wp_bipush (q := 9) d_FG_cell_7 rfl bp_m2 ?_
    refine wp_iret d_FG_cell_9 rfl (Nat.le_refl _) (Nat.le_refl _) ?_
    simp only [sp_cell, inn, inb, inm, btw, hs1, not_true_eq_false, not_false_eq_true, or_false, false_or, or_true, true_or, and_true, true_and, and_false, false_and, or_self, and_self, if_true, if_false, ite_true, ite_false, eq_self] at hK
    first | exact hK | (simp (disch := omega) only [tput_eq, tput2, tput_ne, upd_eq, upd_ne, ne_eq, va_upeq, va_upne, va_up2, not_true_eq_false, not_false_eq_true, or_false, false_or, or_true, true_or, and_true, true_and, and_false, false_and, or_self, and_self, if_true, if_false, ite_true, ite_false, eq_self] at hK ⊢; exact hK) | (simp (disch := omega) only [tput_eq, tput2, tput_ne, upd_eq, upd_ne, ne_eq, va_upeq, va_upne, va_up2, not_true_eq_false, not_false_eq_true, or_false, false_or, or_true, true_or, and_true, true_and, and_false, false_and, or_self, and_self, if_true, if_false, ite_true, ite_false, eq_self]; exact hK) | (simp (disch := omega) only [tput_eq, tput2, tput_ne, upd_eq, upd_ne, ne_eq, va_upeq, va_upne, va_up2, not_true_eq_false, not_false_eq_true, or_false, false_or, or_true, true_or, and_true, true_and, and_false, false_and, or_self, and_self, if_true, if_false, ite_true, ite_false, eq_self] at hK; exact hK)
theorem d_Rf_cell_0 : decode M_Rf_cell.2.1 0 = .ok (.iload_n 1, 1) := by decide +kernel
theorem d_Rf_cell_1 : decode M_Rf_cell.2.1 1 = .ok (.iconst 0, 1) := by decide +kernel
theorem d_Rf_cell_2 : decode M_Rf_cell.2.1 2 = .ok (.iconst 3, 1) := by decide +kernel
theorem d_Rf_cell_3 : decode M_Rf_cell.2.1 3 = .ok (.invokestatic 151, 3) := by decide +kernel
theorem d_Rf_cell_6 : decode M_Rf_cell.2.1 6 = .ok (.ifCond .ne 6, 3) := by decide +kernel
theorem d_Rf_cell_9 : decode M_Rf_cell.2.1 9 = .ok (.bipush (-2), 2) := by decide +kernel
theorem d_Rf_cell_11 : decode M_Rf_cell.2.1 11 = .ok (.ireturn, 1) := by decide +kernel
theorem d_Rf_cell_12 : decode M_Rf_cell.2.1 12 = .ok (.aload_n 0, 1) := by decide +kernel
theorem d_Rf_cell_13 : decode M_Rf_cell.2.1 13 = .ok (.getfield 101, 3) := by decide +kernel
theorem d_Rf_cell_16 : decode M_Rf_cell.2.1 16 = .ok (.iload_n 1, 1) := by decide +kernel
theorem d_Rf_cell_17 : decode M_Rf_cell.2.1 17 = .ok (.iaload, 1) := by decide +kernel
theorem d_Rf_cell_18 : decode M_Rf_cell.2.1 18 = .ok (.iconst (-1), 1) := by decide +kernel
theorem d_Rf_cell_19 : decode M_Rf_cell.2.1 19 = .ok (.if_icmp .ne 6, 3) := by decide +kernel
theorem d_Rf_cell_22 : decode M_Rf_cell.2.1 22 = .ok (.bipush (-11), 2) := by decide +kernel
theorem d_Rf_cell_24 : decode M_Rf_cell.2.1 24 = .ok (.ireturn, 1) := by decide +kernel
theorem d_Rf_cell_25 : decode M_Rf_cell.2.1 25 = .ok (.iload_n 2, 1) := by decide +kernel
theorem d_Rf_cell_26 : decode M_Rf_cell.2.1 26 = .ok (.iconst 0, 1) := by decide +kernel
theorem d_Rf_cell_27 : decode M_Rf_cell.2.1 27 = .ok (.aload_n 0, 1) := by decide +kernel
theorem d_Rf_cell_28 : decode M_Rf_cell.2.1 28 = .ok (.getfield 104, 3) := by decide +kernel
theorem d_Rf_cell_31 : decode M_Rf_cell.2.1 31 = .ok (.iload_n 1, 1) := by decide +kernel
theorem d_Rf_cell_32 : decode M_Rf_cell.2.1 32 = .ok (.iaload, 1) := by decide +kernel
theorem d_Rf_cell_33 : decode M_Rf_cell.2.1 33 = .ok (.iconst 1, 1) := by decide +kernel
theorem d_Rf_cell_34 : decode M_Rf_cell.2.1 34 = .ok (.isub, 1) := by decide +kernel
theorem d_Rf_cell_35 : decode M_Rf_cell.2.1 35 = .ok (.invokestatic 151, 3) := by decide +kernel
theorem d_Rf_cell_38 : decode M_Rf_cell.2.1 38 = .ok (.ifCond .ne 6, 3) := by decide +kernel
theorem d_Rf_cell_41 : decode M_Rf_cell.2.1 41 = .ok (.bipush (-12), 2) := by decide +kernel
theorem d_Rf_cell_43 : decode M_Rf_cell.2.1 43 = .ok (.ireturn, 1) := by decide +kernel
theorem d_Rf_cell_44 : decode M_Rf_cell.2.1 44 = .ok (.aload_n 0, 1) := by decide +kernel
theorem d_Rf_cell_45 : decode M_Rf_cell.2.1 45 = .ok (.getfield 107, 3) := by decide +kernel
theorem d_Rf_cell_48 : decode M_Rf_cell.2.1 48 = .ok (.bipush 40, 2) := by decide +kernel
theorem d_Rf_cell_50 : decode M_Rf_cell.2.1 50 = .ok (.iload_n 1, 1) := by decide +kernel
theorem d_Rf_cell_51 : decode M_Rf_cell.2.1 51 = .ok (.imul, 1) := by decide +kernel
theorem d_Rf_cell_52 : decode M_Rf_cell.2.1 52 = .ok (.iload_n 2, 1) := by decide +kernel
theorem d_Rf_cell_53 : decode M_Rf_cell.2.1 53 = .ok (.iadd, 1) := by decide +kernel
theorem d_Rf_cell_54 : decode M_Rf_cell.2.1 54 = .ok (.aload_n 0, 1) := by decide +kernel
theorem d_Rf_cell_55 : decode M_Rf_cell.2.1 55 = .ok (.getfield 101, 3) := by decide +kernel
theorem d_Rf_cell_58 : decode M_Rf_cell.2.1 58 = .ok (.iload_n 1, 1) := by decide +kernel
theorem d_Rf_cell_59 : decode M_Rf_cell.2.1 59 = .ok (.iaload, 1) := by decide +kernel
theorem d_Rf_cell_60 : decode M_Rf_cell.2.1 60 = .ok (.ifCond .ne 8, 3) := by decide +kernel
theorem d_Rf_cell_63 : decode M_Rf_cell.2.1 63 = .ok (.iload_n 3, 1) := by decide +kernel
theorem d_Rf_cell_64 : decode M_Rf_cell.2.1 64 = .ok (.i2b, 1) := by decide +kernel
theorem d_Rf_cell_65 : decode M_Rf_cell.2.1 65 = .ok (.goto 19, 3) := by decide +kernel
theorem d_Rf_cell_68 : decode M_Rf_cell.2.1 68 = .ok (.aload_n 0, 1) := by decide +kernel
theorem d_Rf_cell_69 : decode M_Rf_cell.2.1 69 = .ok (.getfield 101, 3) := by decide +kernel
theorem d_Rf_cell_72 : decode M_Rf_cell.2.1 72 = .ok (.iload_n 1, 1) := by decide +kernel
theorem d_Rf_cell_73 : decode M_Rf_cell.2.1 73 = .ok (.iaload, 1) := by decide +kernel
theorem d_Rf_cell_74 : decode M_Rf_cell.2.1 74 = .ok (.iconst 1, 1) := by decide +kernel
theorem d_Rf_cell_75 : decode M_Rf_cell.2.1 75 = .ok (.if_icmp .ne 8, 3) := by decide +kernel
theorem d_Rf_cell_78 : decode M_Rf_cell.2.1 78 = .ok (.iload_n 3, 1) := by decide +kernel
theorem d_Rf_cell_79 : decode M_Rf_cell.2.1 79 = .ok (.i2s, 1) := by decide +kernel
theorem d_Rf_cell_80 : decode M_Rf_cell.2.1 80 = .ok (.goto 4, 3) := by decide +kernel
theorem d_Rf_cell_83 : decode M_Rf_cell.2.1 83 = .ok (.iload_n 3, 1) := by decide +kernel
theorem d_Rf_cell_84 : decode M_Rf_cell.2.1 84 = .ok (.iastore, 1) := by decide +kernel
theorem d_Rf_cell_85 : decode M_Rf_cell.2.1 85 = .ok (.iconst 1, 1) := by decide +kernel
theorem d_Rf_cell_86 : decode M_Rf_cell.2.1 86 = .ok (.ireturn, 1) := by decide +kernel
set_option maxHeartbeats 4000000 in
set_option maxRecDepth 100000 in
theorem ok_Rf_cell {D : xD} {N : Nat} {l : Launch} {d : Nat} {c z : T2} {P Q : Nat → Int32} {rest : List va_E} {K : Option Value → List va_E → Prop} {s : Int32} {i : Int32} {v : Int32} (hSZ : ∀ s, s < 4 → isN (c 30 s) 41)  (hK : K (some (.int (sp_cell c s i v).1)) (encR D N (sp_cell c s i v).2 z P Q ++ rest)) : Ok D N l (d + 2) M_Rf_cell [.ref (N + 0), .int s, .int i, .int v] (encR D N c z P Q ++ rest) 0 0 K := by
  refine ok_of (L := [(0, _), (1, _), (2, _), (3, _)]) (by decide) (Nat.le_of_ble_eq_true rfl) rfl ?_
  refine wp_iload_n (q := 1) d_Rf_cell_0 rfl rfl ?_
  refine wp_iconst (q := 2) d_Rf_cell_1 rfl ic_0 ?_
  refine wp_iconst (q := 3) d_Rf_cell_2 rfl ic_3 ?_
  refine wp_cs3 (q := 6) lk_Rf_151 (ro _ _ _) d_Rf_cell_3 rfl (Nat.le_of_ble_eq_true rfl) (Nat.zero_le _) (Nat.zero_le _) ?_
  refine ok_Rf_in0 (b := 3) (by decide) (fun s1 hs1 e => ?_) (fun hs1 => ?_)
  · subst e
    refine wp_if_ne_t (tgt := 12) d_Rf_cell_6 (by decide) (by decide) ?_
    refine wp_aload_n (q := 13) d_Rf_cell_12 rfl rfl ?_
    refine wp_get (q := 16) fl_Rf_101 d_Rf_cell_13 rfl rfl rfl ?_
    refine wp_iload_n (q := 17) d_Rf_cell_16 rfl rfl ?_
    refine wp_iald (q := 18) d_Rf_cell_17 rfl (rfl) (by omega) (by decide) ?_
    refine wp_iconst (q := 19) d_Rf_cell_18 rfl ic_m1 ?_
    refine wp_icmp_ne (q := 22) (tgt := 25) d_Rf_cell_19 (by decide) rfl (fun hc_19 => ?_) (fun hc_19 => ?_)
    · refine wp_iload_n (q := 26) d_Rf_cell_25 rfl rfl ?_
      refine wp_iconst (q := 27) d_Rf_cell_26 rfl ic_0 ?_
      refine wp_aload_n (q := 28) d_Rf_cell_27 rfl rfl ?_
      refine wp_get (q := 31) fl_Rf_104 d_Rf_cell_28 rfl rfl rfl ?_
      refine wp_iload_n (q := 32) d_Rf_cell_31 rfl rfl ?_
      refine wp_iald (q := 33) d_Rf_cell_32 rfl (rfl) (by omega) (by decide) ?_
      refine wp_iconst (q := 34) d_Rf_cell_33 rfl ic_1 ?_
      refine wp_isub (q := 35) d_Rf_cell_34 rfl ?_
      refine wp_cs3 (q := 38) lk_Rf_151 (ro _ _ _) d_Rf_cell_35 rfl (Nat.le_of_ble_eq_true rfl) (Nat.zero_le _) (Nat.zero_le _) ?_
      refine ok_Rf_in (fun hia hib => ?_) (fun hi1 => ?_)
      · have hz := hSZ s1 (by omega)
        have hz2 := hz.2
        obtain ⟨i1, hi1, rfl⟩ := (inb_iff hz.1 (by omega)).mp ((inb_sub hz.1 (by omega)).mp ⟨hia, hib⟩)
        refine wp_if_ne_t (tgt := 44) d_Rf_cell_38 (by decide) (by decide) ?_
        refine wp_aload_n (q := 45) d_Rf_cell_44 rfl rfl ?_
        refine wp_get (q := 48) fl_Rf_107 d_Rf_cell_45 rfl rfl rfl ?_
        refine wp_bipush (q := 50) d_Rf_cell_48 rfl bp_40 ?_
        refine wp_iload_n (q := 51) d_Rf_cell_50 rfl rfl ?_
        first | refine wp_imulN (q := 52) d_Rf_cell_51 rfl ?_ | refine wp_imul (q := 52) d_Rf_cell_51 rfl ?_
        refine wp_iload_n (q := 53) d_Rf_cell_52 rfl rfl ?_
        first | refine wp_iaddN (q := 54) d_Rf_cell_53 rfl ?_ | refine wp_iadd (q := 54) d_Rf_cell_53 rfl ?_
        refine wp_aload_n (q := 55) d_Rf_cell_54 rfl rfl ?_
        refine wp_get (q := 58) fl_Rf_101 d_Rf_cell_55 rfl rfl rfl ?_
        refine wp_iload_n (q := 59) d_Rf_cell_58 rfl rfl ?_
        refine wp_iald (q := 60) d_Rf_cell_59 rfl (rfl) (by omega) (by decide) ?_
        refine wp_if_ne (q := 63) (tgt := 68) d_Rf_cell_60 (by decide) rfl (fun hc_60 => ?_) (fun hc_60 => ?_)
        · refine wp_aload_n (q := 69) d_Rf_cell_68 rfl rfl ?_
          refine wp_get (q := 72) fl_Rf_101 d_Rf_cell_69 rfl rfl rfl ?_
          refine wp_iload_n (q := 73) d_Rf_cell_72 rfl rfl ?_
          refine wp_iald (q := 74) d_Rf_cell_73 rfl (rfl) (by omega) (by decide) ?_
          refine wp_iconst (q := 75) d_Rf_cell_74 rfl ic_1 ?_
          refine wp_icmp_ne (q := 78) (tgt := 83) d_Rf_cell_75 (by decide) rfl (fun hc_75 => ?_) (fun hc_75 => ?_)
          · refine wp_iload_n (q := 84) d_Rf_cell_83 rfl rfl ?_
            refine wp_iast (q := 85) d_Rf_cell_84 rfl (rfl) (by omega) (by decide) (fr_33) ?_
            refine wp_iconst (q := 86) d_Rf_cell_85 rfl ic_1 ?_
            refine wp_iret d_Rf_cell_86 rfl (Nat.le_refl _) (Nat.le_refl _) ?_
            simp only [sp_cell, inn, inb, inm, btw, inn_t hs1, tnl hs1, hc_19, hia, hib, tnt (show i1 < 41 by omega), hc_60, hc_75, not_true_eq_false, not_false_eq_true, or_false, false_or, or_true, true_or, and_true, true_and, and_false, false_and, or_self, and_self, if_true, if_false, ite_true, ite_false, eq_self] at hK
            first | exact hK | (simp (disch := omega) only [tput_eq, tput2, tput_ne, upd_eq, upd_ne, ne_eq, va_upeq, va_upne, va_up2, not_true_eq_false, not_false_eq_true, or_false, false_or, or_true, true_or, and_true, true_and, and_false, false_and, or_self, and_self, if_true, if_false, ite_true, ite_false, eq_self] at hK ⊢; exact hK) | (simp (disch := omega) only [tput_eq, tput2, tput_ne, upd_eq, upd_ne, ne_eq, va_upeq, va_upne, va_up2, not_true_eq_false, not_false_eq_true, or_false, false_or, or_true, true_or, and_true, true_and, and_false, false_and, or_self, and_self, if_true, if_false, ite_true, ite_false, eq_self]; exact hK) | (simp (disch := omega) only [tput_eq, tput2, tput_ne, upd_eq, upd_ne, ne_eq, va_upeq, va_upne, va_up2, not_true_eq_false, not_false_eq_true, or_false, false_or, or_true, true_or, and_true, true_and, and_false, false_and, or_self, and_self, if_true, if_false, ite_true, ite_false, eq_self] at hK; exact hK)
          · refine wp_iload_n (q := 79) d_Rf_cell_78 rfl rfl ?_
            refine wp_i2s (q := 80) d_Rf_cell_79 rfl ?_
            refine wp_goto (tgt := 84) d_Rf_cell_80 (by decide) ?_
            refine wp_iast (q := 85) d_Rf_cell_84 rfl (rfl) (by omega) (by decide) (fr_33) ?_
            refine wp_iconst (q := 86) d_Rf_cell_85 rfl ic_1 ?_
            refine wp_iret d_Rf_cell_86 rfl (Nat.le_refl _) (Nat.le_refl _) ?_
            simp only [sp_cell, inn, inb, inm, btw, inn_t hs1, tnl hs1, hc_19, hia, hib, tnt (show i1 < 41 by omega), hc_60, hc_75, not_true_eq_false, not_false_eq_true, or_false, false_or, or_true, true_or, and_true, true_and, and_false, false_and, or_self, and_self, if_true, if_false, ite_true, ite_false, eq_self] at hK
            first | exact hK | (simp (disch := omega) only [tput_eq, tput2, tput_ne, upd_eq, upd_ne, ne_eq, va_upeq, va_upne, va_up2, not_true_eq_false, not_false_eq_true, or_false, false_or, or_true, true_or, and_true, true_and, and_false, false_and, or_self, and_self, if_true, if_false, ite_true, ite_false, eq_self] at hK ⊢; exact hK) | (simp (disch := omega) only [tput_eq, tput2, tput_ne, upd_eq, upd_ne, ne_eq, va_upeq, va_upne, va_up2, not_true_eq_false, not_false_eq_true, or_false, false_or, or_true, true_or, and_true, true_and, and_false, false_and, or_self, and_self, if_true, if_false, ite_true, ite_false, eq_self]; exact hK) | (simp (disch := omega) only [tput_eq, tput2, tput_ne, upd_eq, upd_ne, ne_eq, va_upeq, va_upne, va_up2, not_true_eq_false, not_false_eq_true, or_false, false_or, or_true, true_or, and_true, true_and, and_false, false_and, or_self, and_self, if_true, if_false, ite_true, ite_false, eq_self] at hK; exact hK)
        · refine wp_iload_n (q := 64) d_Rf_cell_63 rfl rfl ?_
          refine wp_i2b (q := 65) d_Rf_cell_64 rfl ?_
          refine wp_goto (tgt := 84) d_Rf_cell_65 (by decide) ?_
          refine wp_iast (q := 85) d_Rf_cell_84 rfl (rfl) (by omega) (by decide) (fr_33) ?_
          refine wp_iconst (q := 86) d_Rf_cell_85 rfl ic_1 ?_
          refine wp_iret d_Rf_cell_86 rfl (Nat.le_refl _) (Nat.le_refl _) ?_
          simp only [sp_cell, inn, inb, inm, btw, inn_t hs1, tnl hs1, hc_19, hia, hib, tnt (show i1 < 41 by omega), hc_60, not_true_eq_false, not_false_eq_true, or_false, false_or, or_true, true_or, and_true, true_and, and_false, false_and, or_self, and_self, if_true, if_false, ite_true, ite_false, eq_self] at hK
          first | exact hK | (simp (disch := omega) only [tput_eq, tput2, tput_ne, upd_eq, upd_ne, ne_eq, va_upeq, va_upne, va_up2, not_true_eq_false, not_false_eq_true, or_false, false_or, or_true, true_or, and_true, true_and, and_false, false_and, or_self, and_self, if_true, if_false, ite_true, ite_false, eq_self] at hK ⊢; exact hK) | (simp (disch := omega) only [tput_eq, tput2, tput_ne, upd_eq, upd_ne, ne_eq, va_upeq, va_upne, va_up2, not_true_eq_false, not_false_eq_true, or_false, false_or, or_true, true_or, and_true, true_and, and_false, false_and, or_self, and_self, if_true, if_false, ite_true, ite_false, eq_self]; exact hK) | (simp (disch := omega) only [tput_eq, tput2, tput_ne, upd_eq, upd_ne, ne_eq, va_upeq, va_upne, va_up2, not_true_eq_false, not_false_eq_true, or_false, false_or, or_true, true_or, and_true, true_and, and_false, false_and, or_self, and_self, if_true, if_false, ite_true, ite_false, eq_self] at hK; exact hK)
      · refine wp_if_ne_f (q := 41) (tgt := 44) d_Rf_cell_38 (by decide) rfl (by decide) ?_
        refine wp_bipush (q := 43) d_Rf_cell_41 rfl bp_m12 ?_
        refine wp_iret d_Rf_cell_43 rfl (Nat.le_refl _) (Nat.le_refl _) ?_
        simp only [sp_cell, inn, inb, inm, btw, inn_t hs1, tnl hs1, hc_19, hi1, not_true_eq_false, not_false_eq_true, or_false, false_or, or_true, true_or, and_true, true_and, and_false, false_and, or_self, and_self, if_true, if_false, ite_true, ite_false, eq_self] at hK
        first | exact hK | (simp (disch := omega) only [tput_eq, tput2, tput_ne, upd_eq, upd_ne, ne_eq, va_upeq, va_upne, va_up2, not_true_eq_false, not_false_eq_true, or_false, false_or, or_true, true_or, and_true, true_and, and_false, false_and, or_self, and_self, if_true, if_false, ite_true, ite_false, eq_self] at hK ⊢; exact hK) | (simp (disch := omega) only [tput_eq, tput2, tput_ne, upd_eq, upd_ne, ne_eq, va_upeq, va_upne, va_up2, not_true_eq_false, not_false_eq_true, or_false, false_or, or_true, true_or, and_true, true_and, and_false, false_and, or_self, and_self, if_true, if_false, ite_true, ite_false, eq_self]; exact hK) | (simp (disch := omega) only [tput_eq, tput2, tput_ne, upd_eq, upd_ne, ne_eq, va_upeq, va_upne, va_up2, not_true_eq_false, not_false_eq_true, or_false, false_or, or_true, true_or, and_true, true_and, and_false, false_and, or_self, and_self, if_true, if_false, ite_true, ite_false, eq_self] at hK; exact hK)
    · refine wp_bipush (q := 24) d_Rf_cell_22 rfl bp_m11 ?_
      refine wp_iret d_Rf_cell_24 rfl (Nat.le_refl _) (Nat.le_refl _) ?_
      simp only [sp_cell, inn, inb, inm, btw, inn_t hs1, tnl hs1, hc_19, not_true_eq_false, not_false_eq_true, or_false, false_or, or_true, true_or, and_true, true_and, and_false, false_and, or_self, and_self, if_true, if_false, ite_true, ite_false, eq_self] at hK
      first | exact hK | (simp (disch := omega) only [tput_eq, tput2, tput_ne, upd_eq, upd_ne, ne_eq, va_upeq, va_upne, va_up2, not_true_eq_false, not_false_eq_true, or_false, false_or, or_true, true_or, and_true, true_and, and_false, false_and, or_self, and_self, if_true, if_false, ite_true, ite_false, eq_self] at hK ⊢; exact hK) | (simp (disch := omega) only [tput_eq, tput2, tput_ne, upd_eq, upd_ne, ne_eq, va_upeq, va_upne, va_up2, not_true_eq_false, not_false_eq_true, or_false, false_or, or_true, true_or, and_true, true_and, and_false, false_and, or_self, and_self, if_true, if_false, ite_true, ite_false, eq_self]; exact hK) | (simp (disch := omega) only [tput_eq, tput2, tput_ne, upd_eq, upd_ne, ne_eq, va_upeq, va_upne, va_up2, not_true_eq_false, not_false_eq_true, or_false, false_or, or_true, true_or, and_true, true_and, and_false, false_and, or_self, and_self, if_true, if_false, ite_true, ite_false, eq_self] at hK; exact hK)
  · refine wp_if_ne_f (q := 9) (tgt := 12) d_Rf_cell_6 (by decide) rfl (by decide) ?_
    refine wp_bipush (q := 11) d_Rf_cell_9 rfl bp_m2 ?_
    refine wp_iret d_Rf_cell_11 rfl (Nat.le_refl _) (Nat.le_refl _) ?_
    simp only [sp_cell, inn, inb, inm, btw, hs1, not_true_eq_false, not_false_eq_true, or_false, false_or, or_true, true_or, and_true, true_and, and_false, false_and, or_self, and_self, if_true, if_false, ite_true, ite_false, eq_self] at hK
    first | exact hK | (simp (disch := omega) only [tput_eq, tput2, tput_ne, upd_eq, upd_ne, ne_eq, va_upeq, va_upne, va_up2, not_true_eq_false, not_false_eq_true, or_false, false_or, or_true, true_or, and_true, true_and, and_false, false_and, or_self, and_self, if_true, if_false, ite_true, ite_false, eq_self] at hK ⊢; exact hK) | (simp (disch := omega) only [tput_eq, tput2, tput_ne, upd_eq, upd_ne, ne_eq, va_upeq, va_upne, va_up2, not_true_eq_false, not_false_eq_true, or_false, false_or, or_true, true_or, and_true, true_and, and_false, false_and, or_self, and_self, if_true, if_false, ite_true, ite_false, eq_self]; exact hK) | (simp (disch := omega) only [tput_eq, tput2, tput_ne, upd_eq, upd_ne, ne_eq, va_upeq, va_upne, va_up2, not_true_eq_false, not_false_eq_true, or_false, false_or, or_true, true_or, and_true, true_and, and_false, false_and, or_self, and_self, if_true, if_false, ite_true, ite_false, eq_self] at hK; exact hK)
