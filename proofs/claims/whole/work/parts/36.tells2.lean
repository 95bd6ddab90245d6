def sp_jump (c : T2) (P : Nat → Int32) (nb : Nat) (b t : Int32) : Int32 × (Nat → Int32) := if ¬ inb c b then (-1, P) else if ¬ inn t 9999 then (-2, P) else if ¬ P (72 + tn b) = nI 1 then (-3, P) else match ff P (tn (P (84 + tn b))) nb with
  | none => (-6, P)
  | some f => if nI f = b then (-6, P) else (P (96 + f) - nI 1, upd (upd P (96 + tn b) (P (96 + f) - nI 1)) (180 + tn b) (P (180 + tn b) + t))
theorem d_FG_jump_0 : decode M_FG_jump.2.1 0 = .ok (.aload_n 0, 1) := by decide +kernel
theorem d_FG_jump_1 : decode M_FG_jump.2.1 1 = .ok (.iload_n 1, 1) := by decide +kernel
theorem d_FG_jump_2 : decode M_FG_jump.2.1 2 = .ok (.invokevirtual 82, 3) := by decide +kernel
theorem d_FG_jump_5 : decode M_FG_jump.2.1 5 = .ok (.ifCond .ne 5, 3) := by decide +kernel
theorem d_FG_jump_8 : decode M_FG_jump.2.1 8 = .ok (.iconst (-1), 1) := by decide +kernel
theorem d_FG_jump_9 : decode M_FG_jump.2.1 9 = .ok (.ireturn, 1) := by decide +kernel
theorem d_FG_jump_10 : decode M_FG_jump.2.1 10 = .ok (.iload_n 2, 1) := by decide +kernel
theorem d_FG_jump_11 : decode M_FG_jump.2.1 11 = .ok (.iconst 0, 1) := by decide +kernel
theorem d_FG_jump_12 : decode M_FG_jump.2.1 12 = .ok (.sipush 9999, 3) := by decide +kernel
theorem d_FG_jump_15 : decode M_FG_jump.2.1 15 = .ok (.invokestatic 61, 3) := by decide +kernel
theorem d_FG_jump_18 : decode M_FG_jump.2.1 18 = .ok (.ifCond .ne 6, 3) := by decide +kernel
theorem d_FG_jump_21 : decode M_FG_jump.2.1 21 = .ok (.bipush (-2), 2) := by decide +kernel
theorem d_FG_jump_23 : decode M_FG_jump.2.1 23 = .ok (.ireturn, 1) := by decide +kernel
theorem d_FG_jump_24 : decode M_FG_jump.2.1 24 = .ok (.aload_n 0, 1) := by decide +kernel
theorem d_FG_jump_25 : decode M_FG_jump.2.1 25 = .ok (.getfield 19, 3) := by decide +kernel
theorem d_FG_jump_28 : decode M_FG_jump.2.1 28 = .ok (.getfield 85, 3) := by decide +kernel
theorem d_FG_jump_31 : decode M_FG_jump.2.1 31 = .ok (.iload_n 1, 1) := by decide +kernel
theorem d_FG_jump_32 : decode M_FG_jump.2.1 32 = .ok (.aaload, 1) := by decide +kernel
theorem d_FG_jump_33 : decode M_FG_jump.2.1 33 = .ok (.astore_n 3, 1) := by decide +kernel
theorem d_FG_jump_34 : decode M_FG_jump.2.1 34 = .ok (.aload_n 3, 1) := by decide +kernel
theorem d_FG_jump_35 : decode M_FG_jump.2.1 35 = .ok (.getfield 89, 3) := by decide +kernel
theorem d_FG_jump_38 : decode M_FG_jump.2.1 38 = .ok (.iconst 1, 1) := by decide +kernel
theorem d_FG_jump_39 : decode M_FG_jump.2.1 39 = .ok (.if_icmp .eq 6, 3) := by decide +kernel
theorem d_FG_jump_42 : decode M_FG_jump.2.1 42 = .ok (.bipush (-3), 2) := by decide +kernel
theorem d_FG_jump_44 : decode M_FG_jump.2.1 44 = .ok (.ireturn, 1) := by decide +kernel
theorem d_FG_jump_45 : decode M_FG_jump.2.1 45 = .ok (.aload_n 0, 1) := by decide +kernel
theorem d_FG_jump_46 : decode M_FG_jump.2.1 46 = .ok (.getfield 19, 3) := by decide +kernel
theorem d_FG_jump_49 : decode M_FG_jump.2.1 49 = .ok (.aload_n 3, 1) := by decide +kernel
theorem d_FG_jump_50 : decode M_FG_jump.2.1 50 = .ok (.getfield 98, 3) := by decide +kernel
theorem d_FG_jump_53 : decode M_FG_jump.2.1 53 = .ok (.invokevirtual 101, 3) := by decide +kernel
theorem d_FG_jump_56 : decode M_FG_jump.2.1 56 = .ok (.istore 4, 2) := by decide +kernel
theorem d_FG_jump_58 : decode M_FG_jump.2.1 58 = .ok (.iload 4, 2) := by decide +kernel
theorem d_FG_jump_60 : decode M_FG_jump.2.1 60 = .ok (.iload_n 1, 1) := by decide +kernel
theorem d_FG_jump_61 : decode M_FG_jump.2.1 61 = .ok (.if_icmp .eq 8, 3) := by decide +kernel
theorem d_FG_jump_64 : decode M_FG_jump.2.1 64 = .ok (.iload 4, 2) := by decide +kernel
theorem d_FG_jump_66 : decode M_FG_jump.2.1 66 = .ok (.ifCond .ge 6, 3) := by decide +kernel
theorem d_FG_jump_69 : decode M_FG_jump.2.1 69 = .ok (.bipush (-6), 2) := by decide +kernel
theorem d_FG_jump_71 : decode M_FG_jump.2.1 71 = .ok (.ireturn, 1) := by decide +kernel
theorem d_FG_jump_72 : decode M_FG_jump.2.1 72 = .ok (.aload_n 3, 1) := by decide +kernel
theorem d_FG_jump_73 : decode M_FG_jump.2.1 73 = .ok (.aload_n 0, 1) := by decide +kernel
theorem d_FG_jump_74 : decode M_FG_jump.2.1 74 = .ok (.getfield 19, 3) := by decide +kernel
theorem d_FG_jump_77 : decode M_FG_jump.2.1 77 = .ok (.getfield 85, 3) := by decide +kernel
theorem d_FG_jump_80 : decode M_FG_jump.2.1 80 = .ok (.iload 4, 2) := by decide +kernel
theorem d_FG_jump_82 : decode M_FG_jump.2.1 82 = .ok (.aaload, 1) := by decide +kernel
theorem d_FG_jump_83 : decode M_FG_jump.2.1 83 = .ok (.getfield 105, 3) := by decide +kernel
theorem d_FG_jump_86 : decode M_FG_jump.2.1 86 = .ok (.iconst 1, 1) := by decide +kernel
theorem d_FG_jump_87 : decode M_FG_jump.2.1 87 = .ok (.isub, 1) := by decide +kernel
theorem d_FG_jump_88 : decode M_FG_jump.2.1 88 = .ok (.putfield 105, 3) := by decide +kernel
theorem d_FG_jump_91 : decode M_FG_jump.2.1 91 = .ok (.aload_n 3, 1) := by decide +kernel
theorem d_FG_jump_92 : decode M_FG_jump.2.1 92 = .ok (.dup, 1) := by decide +kernel
theorem d_FG_jump_93 : decode M_FG_jump.2.1 93 = .ok (.getfield 108, 3) := by decide +kernel
theorem d_FG_jump_96 : decode M_FG_jump.2.1 96 = .ok (.iload_n 2, 1) := by decide +kernel
theorem d_FG_jump_97 : decode M_FG_jump.2.1 97 = .ok (.iadd, 1) := by decide +kernel
theorem d_FG_jump_98 : decode M_FG_jump.2.1 98 = .ok (.putfield 108, 3) := by decide +kernel
theorem d_FG_jump_101 : decode M_FG_jump.2.1 101 = .ok (.aload_n 3, 1) := by decide +kernel
theorem d_FG_jump_102 : decode M_FG_jump.2.1 102 = .ok (.getfield 105, 3) := by decide +kernel
theorem d_FG_jump_105 : decode M_FG_jump.2.1 105 = .ok (.ireturn, 1) := by decide +kernel
set_option maxHeartbeats 4000000 in
set_option maxRecDepth 100000 in
theorem ok_FG_jump {D : xD} {N : Nat} {l : Launch} {d : Nat} {c x V : T2} {P : Nat → Int32} {ln df : Nat → Option Nat} {rest : List va_E} {K : Option Value → List va_E → Prop} {b : Int32} {t : Int32} {nb : Nat} (hnb : c 32 1 = nI nb) (h12 : nb ≤ 12) (hst : ∀ b, b < 12 → isN (P (84 + b)) 6) (hz : ∀ b, nb ≤ b → b < 12 → P (72 + b) = nI 0) (hK : K (some (.int (sp_jump c P nb b t).1)) (encC D N c x (va_up V 0 (sp_jump c P nb b t).2) ln df ++ rest)) : Ok D N l (d + 2) M_FG_jump [.ref (N + 0), .int b, .int t] (encC D N c x (va_up V 0 P) ln df ++ rest) 0 0 K := by
  refine ok_of (L := [(0, _), (1, _), (2, _)]) (by decide) (Nat.le_of_ble_eq_true rfl) rfl ?_
  refine wp_aload_n (q := 1) d_FG_jump_0 rfl rfl ?_
  refine wp_iload_n (q := 2) d_FG_jump_1 rfl rfl ?_
  refine wp_cv1 (q := 5) lk_FG_82 (ro _ _ _) d_FG_jump_2 rfl (Nat.le_of_ble_eq_true rfl) (rfl) rfl (Nat.zero_le _) (Nat.zero_le _) ?_
  refine ok_FG_isBus hnb h12 (fun b1 hb1 e => ?_) (fun hb1 => ?_)
  · subst e
    refine wp_if_ne_t (tgt := 10) d_FG_jump_5 (by decide) (by decide) ?_
    refine wp_iload_n (q := 11) d_FG_jump_10 rfl rfl ?_
    refine wp_iconst (q := 12) d_FG_jump_11 rfl ic_0 ?_
    refine wp_sipush (q := 15) d_FG_jump_12 rfl sp_9999 ?_
    refine wp_cs3 (q := 18) lk_FG_61 (ro _ _ _) d_FG_jump_15 rfl (Nat.le_of_ble_eq_true rfl) (Nat.zero_le _) (Nat.zero_le _) ?_
    refine ok_FG_within0 (b := 9999) (by decide) (fun t1 ht1 e => ?_) (fun ht1 => ?_)
    · subst e
      refine wp_if_ne_t (tgt := 24) d_FG_jump_18 (by decide) (by decide) ?_
      refine wp_aload_n (q := 25) d_FG_jump_24 rfl rfl ?_
      refine wp_get (q := 28) fl_FG_19 d_FG_jump_25 rfl rfl rfl ?_
      refine wp_get (q := 31) fl_FG_85 d_FG_jump_28 rfl (rdO (w := 0) (by decide)) rfl ?_
      refine wp_iload_n (q := 32) d_FG_jump_31 rfl rfl ?_
      refine wp_aldR (q := 33) d_FG_jump_32 rfl (rd4 (w := 0) (by decide)) (by omega) (by decide) (rowsW_at (by omega)) ?_
      refine wp_astore_n (q := 34) (L2 := [(3, _), (0, _), (1, _), (2, _)]) d_FG_jump_33 rfl (by decide) rfl ?_
      refine wp_aload_n (q := 35) d_FG_jump_34 rfl rfl ?_
      refine wp_get (q := 38) fl_FG_89 d_FG_jump_35 rfl (rdR (w := 0) (by decide) (by omega)) rfl ?_
      refine wp_iconst (q := 39) d_FG_jump_38 rfl ic_1 ?_
      refine wp_icmp_eq (q := 42) (tgt := 45) d_FG_jump_39 (by decide) rfl (fun hc_39 => ?_) (fun hc_39 => ?_)
      · refine wp_aload_n (q := 46) d_FG_jump_45 rfl rfl ?_
        refine wp_get (q := 49) fl_FG_19 d_FG_jump_46 rfl rfl rfl ?_
        refine wp_aload_n (q := 50) d_FG_jump_49 rfl rfl ?_
        refine wp_get (q := 53) fl_FG_98 d_FG_jump_50 rfl (rdR (w := 0) (by decide) (by omega)) rfl ?_
        obtain ⟨s, hs, es⟩ := (hst b1 (by omega)).ex
        rw [es]
        refine wp_cv1 (q := 56) lk_FG_101 (ro _ _ _) d_FG_jump_53 rfl (Nat.le_of_ble_eq_true rfl) (rdO (w := 0) (by decide)) rfl (Nat.zero_le _) (Nat.zero_le _) ?_
        obtain ⟨f, hf⟩ := ff_some hc_39 es nb (by omega)
        refine ok_Wd_firstInLine (w := 0) (by decide) hs ?_
        rw [ff_12 hz 12 h12 (Nat.le_refl _), hf]
        dsimp only [ov]
        have hfl := (ff_lt hf).1
        refine wp_istore (q := 58) (L2 := [(4, _), (3, _), (0, _), (1, _), (2, _)]) d_FG_jump_56 rfl (by decide) rfl ?_
        refine wp_iload (q := 60) d_FG_jump_58 rfl rfl ?_
        refine wp_iload_n (q := 61) d_FG_jump_60 rfl rfl ?_
        refine wp_icmp_eq (q := 64) (tgt := 69) d_FG_jump_61 (by decide) rfl (fun hc_61 => ?_) (fun hc_61 => ?_)
        · refine wp_bipush (q := 71) d_FG_jump_69 rfl bp_m6 ?_
          refine wp_iret d_FG_jump_71 rfl (Nat.le_refl _) (Nat.le_refl _) ?_
          simp only [sp_jump, inn, inb, inm, btw, inb_t hnb h12 hb1, tnt (Nat.lt_of_lt_of_le hb1 h12), inn_t ht1, tnl ht1, hc_39, es, tnt hs, hf, hc_61, not_true_eq_false, not_false_eq_true, or_false, false_or, or_true, true_or, and_true, true_and, and_false, false_and, or_self, and_self, if_true, if_false, ite_true, ite_false, eq_self] at hK
          first | exact hK | (simp (disch := omega) only [tput_eq, tput2, tput_ne, upd_eq, upd_ne, ne_eq, va_upeq, va_upne, va_up2, not_true_eq_false, not_false_eq_true, or_false, false_or, or_true, true_or, and_true, true_and, and_false, false_and, or_self, and_self, if_true, if_false, ite_true, ite_false, eq_self] at hK ⊢; exact hK) | (simp (disch := omega) only [tput_eq, tput2, tput_ne, upd_eq, upd_ne, ne_eq, va_upeq, va_upne, va_up2, not_true_eq_false, not_false_eq_true, or_false, false_or, or_true, true_or, and_true, true_and, and_false, false_and, or_self, and_self, if_true, if_false, ite_true, ite_false, eq_self]; exact hK) | (simp (disch := omega) only [tput_eq, tput2, tput_ne, upd_eq, upd_ne, ne_eq, va_upeq, va_upne, va_up2, not_true_eq_false, not_false_eq_true, or_false, false_or, or_true, true_or, and_true, true_and, and_false, false_and, or_self, and_self, if_true, if_false, ite_true, ite_false, eq_self] at hK; exact hK)
        · refine wp_iload (q := 66) d_FG_jump_64 rfl rfl ?_
          refine wp_if_ge_t (tgt := 72) d_FG_jump_66 (by decide) (nI_pos' (by omega)) ?_
          refine wp_aload_n (q := 73) d_FG_jump_72 rfl rfl ?_
          refine wp_aload_n (q := 74) d_FG_jump_73 rfl rfl ?_
          refine wp_get (q := 77) fl_FG_19 d_FG_jump_74 rfl rfl rfl ?_
          refine wp_get (q := 80) fl_FG_85 d_FG_jump_77 rfl (rdO (w := 0) (by decide)) rfl ?_
          refine wp_iload (q := 82) d_FG_jump_80 rfl rfl ?_
          refine wp_aldR (q := 83) d_FG_jump_82 rfl (rd4 (w := 0) (by decide)) (by omega) (by decide) (rowsW_at (by omega)) ?_
          refine wp_get (q := 86) fl_FG_105 d_FG_jump_83 rfl (rdR (w := 0) (by decide) (by omega)) rfl ?_
          refine wp_iconst (q := 87) d_FG_jump_86 rfl ic_1 ?_
          refine wp_isub (q := 88) d_FG_jump_87 rfl ?_
          refine wp_put (q := 91) fl_FG_105 d_FG_jump_88 rfl (rdR (w := 0) (by decide) (by omega)) (Nat.le_of_ble_eq_true rfl) rfl rfl (fdw (w := 0) (by decide) (by omega) (ws_r2 (by omega))) ?_
          refine wp_aload_n (q := 92) d_FG_jump_91 rfl rfl ?_
          refine wp_dup (q := 93) d_FG_jump_92 rfl rfl ?_
          refine wp_get (q := 96) fl_FG_108 d_FG_jump_93 rfl (rdR (w := 0) (by decide) (by omega)) rfl ?_
          refine wp_iload_n (q := 97) d_FG_jump_96 rfl rfl ?_
          simp (disch := omega) only [upd_ne, upd_eq]
          refine wp_iadd (q := 98) d_FG_jump_97 rfl ?_
          refine wp_put (q := 101) fl_FG_108 d_FG_jump_98 rfl (rdR (w := 0) (by decide) (by omega)) (Nat.le_of_ble_eq_true rfl) rfl rfl (fdw (w := 0) (by decide) (by omega) (ws_r9 (by omega))) ?_
          refine wp_aload_n (q := 102) d_FG_jump_101 rfl rfl ?_
          refine wp_get (q := 105) fl_FG_105 d_FG_jump_102 rfl (rdR (w := 0) (by decide) (by omega)) rfl ?_
          refine wp_iret d_FG_jump_105 rfl (Nat.le_refl _) (Nat.le_refl _) ?_
          simp only [sp_jump, inn, inb, inm, btw, inb_t hnb h12 hb1, tnt (Nat.lt_of_lt_of_le hb1 h12), inn_t ht1, tnl ht1, hc_39, es, tnt hs, hf, hc_61, not_true_eq_false, not_false_eq_true, or_false, false_or, or_true, true_or, and_true, true_and, and_false, false_and, or_self, and_self, if_true, if_false, ite_true, ite_false, eq_self] at hK
          first | exact hK | (simp (disch := omega) only [tput_eq, tput2, tput_ne, upd_eq, upd_ne, ne_eq, va_upeq, va_upne, va_up2, not_true_eq_false, not_false_eq_true, or_false, false_or, or_true, true_or, and_true, true_and, and_false, false_and, or_self, and_self, if_true, if_false, ite_true, ite_false, eq_self] at hK ⊢; exact hK) | (simp (disch := omega) only [tput_eq, tput2, tput_ne, upd_eq, upd_ne, ne_eq, va_upeq, va_upne, va_up2, not_true_eq_false, not_false_eq_true, or_false, false_or, or_true, true_or, and_true, true_and, and_false, false_and, or_self, and_self, if_true, if_false, ite_true, ite_false, eq_self]; exact hK) | (simp (disch := omega) only [tput_eq, tput2, tput_ne, upd_eq, upd_ne, ne_eq, va_upeq, va_upne, va_up2, not_true_eq_false, not_false_eq_true, or_false, false_or, or_true, true_or, and_true, true_and, and_false, false_and, or_self, and_self, if_true, if_false, ite_true, ite_false, eq_self] at hK; exact hK)
      · refine wp_bipush (q := 44) d_FG_jump_42 rfl bp_m3 ?_
        refine wp_iret d_FG_jump_44 rfl (Nat.le_refl _) (Nat.le_refl _) ?_
        simp only [sp_jump, inn, inb, inm, btw, inb_t hnb h12 hb1, tnt (Nat.lt_of_lt_of_le hb1 h12), inn_t ht1, tnl ht1, hc_39, not_true_eq_false, not_false_eq_true, or_false, false_or, or_true, true_or, and_true, true_and, and_false, false_and, or_self, and_self, if_true, if_false, ite_true, ite_false, eq_self] at hK
        first | exact hK | (simp (disch := omega) only [tput_eq, tput2, tput_ne, upd_eq, upd_ne, ne_eq, va_upeq, va_upne, va_up2, not_true_eq_false, not_false_eq_true, or_false, false_or, or_true, true_or, and_true, true_and, and_false, false_and, or_self, and_self, if_true, if_false, ite_true, ite_false, eq_self] at hK ⊢; exact hK) | (simp (disch := omega) only [tput_eq, tput2, tput_ne, upd_eq, upd_ne, ne_eq, va_upeq, va_upne, va_up2, not_true_eq_false, not_false_eq_true, or_false, false_or, or_true, true_or, and_true, true_and, and_false, false_and, or_self, and_self, if_true, if_false, ite_true, ite_false, eq_self]; exact hK) | (simp (disch := omega) only [tput_eq, tput2, tput_ne, upd_eq, upd_ne, ne_eq, va_upeq, va_upne, va_up2, not_true_eq_false, not_false_eq_true, or_false, false_or, or_true, true_or, and_true, true_and, and_false, false_and, or_self, and_self, if_true, if_false, ite_true, ite_false, eq_self] at hK; exact hK)
    · refine wp_if_ne_f (q := 21) (tgt := 24) d_FG_jump_18 (by decide) rfl (by decide) ?_
      refine wp_bipush (q := 23) d_FG_jump_21 rfl bp_m2 ?_
      refine wp_iret d_FG_jump_23 rfl (Nat.le_refl _) (Nat.le_refl _) ?_
      simp only [sp_jump, inn, inb, inm, btw, inb_t hnb h12 hb1, tnt (Nat.lt_of_lt_of_le hb1 h12), ht1, not_true_eq_false, not_false_eq_true, or_false, false_or, or_true, true_or, and_true, true_and, and_false, false_and, or_self, and_self, if_true, if_false, ite_true, ite_false, eq_self] at hK
      first | exact hK | (simp (disch := omega) only [tput_eq, tput2, tput_ne, upd_eq, upd_ne, ne_eq, va_upeq, va_upne, va_up2, not_true_eq_false, not_false_eq_true, or_false, false_or, or_true, true_or, and_true, true_and, and_false, false_and, or_self, and_self, if_true, if_false, ite_true, ite_false, eq_self] at hK ⊢; exact hK) | (simp (disch := omega) only [tput_eq, tput2, tput_ne, upd_eq, upd_ne, ne_eq, va_upeq, va_upne, va_up2, not_true_eq_false, not_false_eq_true, or_false, false_or, or_true, true_or, and_true, true_and, and_false, false_and, or_self, and_self, if_true, if_false, ite_true, ite_false, eq_self]; exact hK) | (simp (disch := omega) only [tput_eq, tput2, tput_ne, upd_eq, upd_ne, ne_eq, va_upeq, va_upne, va_up2, not_true_eq_false, not_false_eq_true, or_false, false_or, or_true, true_or, and_true, true_and, and_false, false_and, or_self, and_self, if_true, if_false, ite_true, ite_false, eq_self] at hK; exact hK)
  · refine wp_if_ne_f (q := 8) (tgt := 10) d_FG_jump_5 (by decide) rfl (by decide) ?_
    refine wp_iconst (q := 9) d_FG_jump_8 rfl ic_m1 ?_
    refine wp_iret d_FG_jump_9 rfl (Nat.le_refl _) (Nat.le_refl _) ?_
    simp only [sp_jump, inn, inb, inm, btw, hb1, not_true_eq_false, not_false_eq_true, or_false, false_or, or_true, true_or, and_true, true_and, and_false, false_and, or_self, and_self, if_true, if_false, ite_true, ite_false, eq_self] at hK
    first | exact hK | (simp (disch := omega) only [tput_eq, tput2, tput_ne, upd_eq, upd_ne, ne_eq, va_upeq, va_upne, va_up2, not_true_eq_false, not_false_eq_true, or_false, false_or, or_true, true_or, and_true, true_and, and_false, false_and, or_self, and_self, if_true, if_false, ite_true, ite_false, eq_self] at hK ⊢; exact hK) | (simp (disch := omega) only [tput_eq, tput2, tput_ne, upd_eq, upd_ne, ne_eq, va_upeq, va_upne, va_up2, not_true_eq_false, not_false_eq_true, or_false, false_or, or_true, true_or, and_true, true_and, and_false, false_and, or_self, and_self, if_true, if_false, ite_true, ite_false, eq_self]; exact hK) | (simp (disch := omega) only [tput_eq, tput2, tput_ne, upd_eq, upd_ne, ne_eq, va_upeq, va_upne, va_up2, not_true_eq_false, not_false_eq_true, or_false, false_or, or_true, true_or, and_true, true_and, and_false, false_and, or_self, and_self, if_true, if_false, ite_true, ite_false, eq_self] at hK; exact hK)
theorem d_Rf_jump_0 : decode M_Rf_jump.2.1 0 = .ok (.aload_n 0, 1) := by decide +kernel
theorem d_Rf_jump_1 : decode M_Rf_jump.2.1 1 = .ok (.iload_n 1, 1) := by decide +kernel
theorem d_Rf_jump_2 : decode M_Rf_jump.2.1 2 = .ok (.invokevirtual 167, 3) := by decide +kernel
theorem d_Rf_jump_5 : decode M_Rf_jump.2.1 5 = .ok (.ifCond .ne 5, 3) := by decide +kernel
theorem d_Rf_jump_8 : decode M_Rf_jump.2.1 8 = .ok (.iconst (-1), 1) := by decide +kernel
theorem d_Rf_jump_9 : decode M_Rf_jump.2.1 9 = .ok (.ireturn, 1) := by decide +kernel
theorem d_Rf_jump_10 : decode M_Rf_jump.2.1 10 = .ok (.iload_n 2, 1) := by decide +kernel
theorem d_Rf_jump_11 : decode M_Rf_jump.2.1 11 = .ok (.iconst 0, 1) := by decide +kernel
theorem d_Rf_jump_12 : decode M_Rf_jump.2.1 12 = .ok (.sipush 9999, 3) := by decide +kernel
theorem d_Rf_jump_15 : decode M_Rf_jump.2.1 15 = .ok (.invokestatic 151, 3) := by decide +kernel
theorem d_Rf_jump_18 : decode M_Rf_jump.2.1 18 = .ok (.ifCond .ne 6, 3) := by decide +kernel
theorem d_Rf_jump_21 : decode M_Rf_jump.2.1 21 = .ok (.bipush (-2), 2) := by decide +kernel
theorem d_Rf_jump_23 : decode M_Rf_jump.2.1 23 = .ok (.ireturn, 1) := by decide +kernel
theorem d_Rf_jump_24 : decode M_Rf_jump.2.1 24 = .ok (.aload_n 0, 1) := by decide +kernel
theorem d_Rf_jump_25 : decode M_Rf_jump.2.1 25 = .ok (.getfield 7, 3) := by decide +kernel
theorem d_Rf_jump_28 : decode M_Rf_jump.2.1 28 = .ok (.bipush 72, 2) := by decide +kernel
theorem d_Rf_jump_30 : decode M_Rf_jump.2.1 30 = .ok (.iload_n 1, 1) := by decide +kernel
theorem d_Rf_jump_31 : decode M_Rf_jump.2.1 31 = .ok (.iadd, 1) := by decide +kernel
theorem d_Rf_jump_32 : decode M_Rf_jump.2.1 32 = .ok (.iaload, 1) := by decide +kernel
theorem d_Rf_jump_33 : decode M_Rf_jump.2.1 33 = .ok (.iconst 1, 1) := by decide +kernel
theorem d_Rf_jump_34 : decode M_Rf_jump.2.1 34 = .ok (.if_icmp .eq 6, 3) := by decide +kernel
theorem d_Rf_jump_37 : decode M_Rf_jump.2.1 37 = .ok (.bipush (-3), 2) := by decide +kernel
theorem d_Rf_jump_39 : decode M_Rf_jump.2.1 39 = .ok (.ireturn, 1) := by decide +kernel
theorem d_Rf_jump_40 : decode M_Rf_jump.2.1 40 = .ok (.aload_n 0, 1) := by decide +kernel
theorem d_Rf_jump_41 : decode M_Rf_jump.2.1 41 = .ok (.aload_n 0, 1) := by decide +kernel
theorem d_Rf_jump_42 : decode M_Rf_jump.2.1 42 = .ok (.getfield 7, 3) := by decide +kernel
theorem d_Rf_jump_45 : decode M_Rf_jump.2.1 45 = .ok (.bipush 84, 2) := by decide +kernel
theorem d_Rf_jump_47 : decode M_Rf_jump.2.1 47 = .ok (.iload_n 1, 1) := by decide +kernel
theorem d_Rf_jump_48 : decode M_Rf_jump.2.1 48 = .ok (.iadd, 1) := by decide +kernel
theorem d_Rf_jump_49 : decode M_Rf_jump.2.1 49 = .ok (.iaload, 1) := by decide +kernel
theorem d_Rf_jump_50 : decode M_Rf_jump.2.1 50 = .ok (.invokevirtual 174, 3) := by decide +kernel
theorem d_Rf_jump_53 : decode M_Rf_jump.2.1 53 = .ok (.istore_n 3, 1) := by decide +kernel
theorem d_Rf_jump_54 : decode M_Rf_jump.2.1 54 = .ok (.iload_n 3, 1) := by decide +kernel
theorem d_Rf_jump_55 : decode M_Rf_jump.2.1 55 = .ok (.iload_n 1, 1) := by decide +kernel
theorem d_Rf_jump_56 : decode M_Rf_jump.2.1 56 = .ok (.if_icmp .ne 6, 3) := by decide +kernel
theorem d_Rf_jump_59 : decode M_Rf_jump.2.1 59 = .ok (.bipush (-6), 2) := by decide +kernel
theorem d_Rf_jump_61 : decode M_Rf_jump.2.1 61 = .ok (.ireturn, 1) := by decide +kernel
theorem d_Rf_jump_62 : decode M_Rf_jump.2.1 62 = .ok (.aload_n 0, 1) := by decide +kernel
theorem d_Rf_jump_63 : decode M_Rf_jump.2.1 63 = .ok (.getfield 7, 3) := by decide +kernel
theorem d_Rf_jump_66 : decode M_Rf_jump.2.1 66 = .ok (.bipush 96, 2) := by decide +kernel
theorem d_Rf_jump_68 : decode M_Rf_jump.2.1 68 = .ok (.iload_n 1, 1) := by decide +kernel
theorem d_Rf_jump_69 : decode M_Rf_jump.2.1 69 = .ok (.iadd, 1) := by decide +kernel
theorem d_Rf_jump_70 : decode M_Rf_jump.2.1 70 = .ok (.aload_n 0, 1) := by decide +kernel
theorem d_Rf_jump_71 : decode M_Rf_jump.2.1 71 = .ok (.getfield 7, 3) := by decide +kernel
theorem d_Rf_jump_74 : decode M_Rf_jump.2.1 74 = .ok (.bipush 96, 2) := by decide +kernel
theorem d_Rf_jump_76 : decode M_Rf_jump.2.1 76 = .ok (.iload_n 3, 1) := by decide +kernel
theorem d_Rf_jump_77 : decode M_Rf_jump.2.1 77 = .ok (.iadd, 1) := by decide +kernel
theorem d_Rf_jump_78 : decode M_Rf_jump.2.1 78 = .ok (.iaload, 1) := by decide +kernel
theorem d_Rf_jump_79 : decode M_Rf_jump.2.1 79 = .ok (.iconst 1, 1) := by decide +kernel
theorem d_Rf_jump_80 : decode M_Rf_jump.2.1 80 = .ok (.isub, 1) := by decide +kernel
theorem d_Rf_jump_81 : decode M_Rf_jump.2.1 81 = .ok (.iastore, 1) := by decide +kernel
theorem d_Rf_jump_82 : decode M_Rf_jump.2.1 82 = .ok (.aload_n 0, 1) := by decide +kernel
theorem d_Rf_jump_83 : decode M_Rf_jump.2.1 83 = .ok (.getfield 7, 3) := by decide +kernel
theorem d_Rf_jump_86 : decode M_Rf_jump.2.1 86 = .ok (.sipush 180, 3) := by decide +kernel
theorem d_Rf_jump_89 : decode M_Rf_jump.2.1 89 = .ok (.iload_n 1, 1) := by decide +kernel
theorem d_Rf_jump_90 : decode M_Rf_jump.2.1 90 = .ok (.iadd, 1) := by decide +kernel
theorem d_Rf_jump_91 : decode M_Rf_jump.2.1 91 = .ok (.dup2, 1) := by decide +kernel
theorem d_Rf_jump_92 : decode M_Rf_jump.2.1 92 = .ok (.iaload, 1) := by decide +kernel
theorem d_Rf_jump_93 : decode M_Rf_jump.2.1 93 = .ok (.iload_n 2, 1) := by decide +kernel
theorem d_Rf_jump_94 : decode M_Rf_jump.2.1 94 = .ok (.iadd, 1) := by decide +kernel
theorem d_Rf_jump_95 : decode M_Rf_jump.2.1 95 = .ok (.iastore, 1) := by decide +kernel
theorem d_Rf_jump_96 : decode M_Rf_jump.2.1 96 = .ok (.aload_n 0, 1) := by decide +kernel
theorem d_Rf_jump_97 : decode M_Rf_jump.2.1 97 = .ok (.getfield 7, 3) := by decide +kernel
theorem d_Rf_jump_100 : decode M_Rf_jump.2.1 100 = .ok (.bipush 96, 2) := by decide +kernel
theorem d_Rf_jump_102 : decode M_Rf_jump.2.1 102 = .ok (.iload_n 1, 1) := by decide +kernel
theorem d_Rf_jump_103 : decode M_Rf_jump.2.1 103 = .ok (.iadd, 1) := by decide +kernel
theorem d_Rf_jump_104 : decode M_Rf_jump.2.1 104 = .ok (.iaload, 1) := by decide +kernel
theorem d_Rf_jump_105 : decode M_Rf_jump.2.1 105 = .ok (.ireturn, 1) := by decide +kernel
set_option maxHeartbeats 4000000 in
set_option maxRecDepth 100000 in
theorem ok_Rf_jump {D : xD} {N : Nat} {l : Launch} {d : Nat} {c z : T2} {P Q : Nat → Int32} {rest : List va_E} {K : Option Value → List va_E → Prop} {b : Int32} {t : Int32} {nb : Nat} (hnb : c 32 1 = nI nb) (h12 : nb ≤ 12) (hst : ∀ b, b < 12 → isN (P (84 + b)) 6)  (hK : K (some (.int (sp_jump c P nb b t).1)) (encR D N c z (sp_jump c P nb b t).2 Q ++ rest)) : Ok D N l (d + 2) M_Rf_jump [.ref (N + 0), .int b, .int t] (encR D N c z P Q ++ rest) 0 0 K := by
  refine ok_of (L := [(0, _), (1, _), (2, _)]) (by decide) (Nat.le_of_ble_eq_true rfl) rfl ?_
  refine wp_aload_n (q := 1) d_Rf_jump_0 rfl rfl ?_
  refine wp_iload_n (q := 2) d_Rf_jump_1 rfl rfl ?_
  refine wp_cv1 (q := 5) lk_Rf_167 (ro _ _ _) d_Rf_jump_2 rfl (Nat.le_of_ble_eq_true rfl) (rfl) rfl (Nat.zero_le _) (Nat.zero_le _) ?_
  refine ok_Rf_isBus hnb h12 (fun b1 hb1 e => ?_) (fun hb1 => ?_)
  · subst e
    refine wp_if_ne_t (tgt := 10) d_Rf_jump_5 (by decide) (by decide) ?_
    refine wp_iload_n (q := 11) d_Rf_jump_10 rfl rfl ?_
    refine wp_iconst (q := 12) d_Rf_jump_11 rfl ic_0 ?_
    refine wp_sipush (q := 15) d_Rf_jump_12 rfl sp_9999 ?_
    refine wp_cs3 (q := 18) lk_Rf_151 (ro _ _ _) d_Rf_jump_15 rfl (Nat.le_of_ble_eq_true rfl) (Nat.zero_le _) (Nat.zero_le _) ?_
    refine ok_Rf_in0 (b := 9999) (by decide) (fun t1 ht1 e => ?_) (fun ht1 => ?_)
    · subst e
      refine wp_if_ne_t (tgt := 24) d_Rf_jump_18 (by decide) (by decide) ?_
      refine wp_aload_n (q := 25) d_Rf_jump_24 rfl rfl ?_
      refine wp_get (q := 28) fl_Rf_7 d_Rf_jump_25 rfl rfl rfl ?_
      refine wp_bipush (q := 30) d_Rf_jump_28 rfl bp_72 ?_
      refine wp_iload_n (q := 31) d_Rf_jump_30 rfl rfl ?_
      first | refine wp_iaddN (q := 32) d_Rf_jump_31 rfl ?_ | refine wp_iadd (q := 32) d_Rf_jump_31 rfl ?_
      refine wp_iald (q := 33) d_Rf_jump_32 rfl (rfl) (by omega) (by decide) ?_
      refine wp_iconst (q := 34) d_Rf_jump_33 rfl ic_1 ?_
      refine wp_icmp_eq (q := 37) (tgt := 40) d_Rf_jump_34 (by decide) rfl (fun hc_34 => ?_) (fun hc_34 => ?_)
      · refine wp_aload_n (q := 41) d_Rf_jump_40 rfl rfl ?_
        refine wp_aload_n (q := 42) d_Rf_jump_41 rfl rfl ?_
        refine wp_get (q := 45) fl_Rf_7 d_Rf_jump_42 rfl rfl rfl ?_
        refine wp_bipush (q := 47) d_Rf_jump_45 rfl bp_84 ?_
        refine wp_iload_n (q := 48) d_Rf_jump_47 rfl rfl ?_
        first | refine wp_iaddN (q := 49) d_Rf_jump_48 rfl ?_ | refine wp_iadd (q := 49) d_Rf_jump_48 rfl ?_
        refine wp_iald (q := 50) d_Rf_jump_49 rfl (rfl) (by omega) (by decide) ?_
        obtain ⟨s, hs, es⟩ := (hst b1 (by omega)).ex
        rw [es]
        refine wp_cv1 (q := 53) lk_Rf_174 (ro _ _ _) d_Rf_jump_50 rfl (Nat.le_of_ble_eq_true rfl) (rfl) rfl (Nat.zero_le _) (Nat.zero_le _) ?_
        obtain ⟨f, hf⟩ := ff_some hc_34 es nb (by omega)
        refine ok_Rf_firstAt hnb h12 hs ?_
        rw [hf]
        dsimp only [ov]
        have hfl := (ff_lt hf).1
        refine wp_istore_n (q := 54) (L2 := [(3, _), (0, _), (1, _), (2, _)]) d_Rf_jump_53 rfl (by decide) rfl ?_
        refine wp_iload_n (q := 55) d_Rf_jump_54 rfl rfl ?_
        refine wp_iload_n (q := 56) d_Rf_jump_55 rfl rfl ?_
        refine wp_icmp_ne (q := 59) (tgt := 62) d_Rf_jump_56 (by decide) rfl (fun hc_56 => ?_) (fun hc_56 => ?_)
        · refine wp_aload_n (q := 63) d_Rf_jump_62 rfl rfl ?_
          refine wp_get (q := 66) fl_Rf_7 d_Rf_jump_63 rfl rfl rfl ?_
          refine wp_bipush (q := 68) d_Rf_jump_66 rfl bp_96 ?_
          refine wp_iload_n (q := 69) d_Rf_jump_68 rfl rfl ?_
          first | refine wp_iaddN (q := 70) d_Rf_jump_69 rfl ?_ | refine wp_iadd (q := 70) d_Rf_jump_69 rfl ?_
          refine wp_aload_n (q := 71) d_Rf_jump_70 rfl rfl ?_
          refine wp_get (q := 74) fl_Rf_7 d_Rf_jump_71 rfl rfl rfl ?_
          refine wp_bipush (q := 76) d_Rf_jump_74 rfl bp_96 ?_
          refine wp_iload_n (q := 77) d_Rf_jump_76 rfl rfl ?_
          first | refine wp_iaddN (q := 78) d_Rf_jump_77 rfl ?_ | refine wp_iadd (q := 78) d_Rf_jump_77 rfl ?_
          refine wp_iald (q := 79) d_Rf_jump_78 rfl (rfl) (by omega) (by decide) ?_
          refine wp_iconst (q := 80) d_Rf_jump_79 rfl ic_1 ?_
          refine wp_isub (q := 81) d_Rf_jump_80 rfl ?_
          refine wp_iast (q := 82) d_Rf_jump_81 rfl (rfl) (by omega) (by decide) (fr_P) ?_
          refine wp_aload_n (q := 83) d_Rf_jump_82 rfl rfl ?_
          refine wp_get (q := 86) fl_Rf_7 d_Rf_jump_83 rfl rfl rfl ?_
          refine wp_sipush (q := 89) d_Rf_jump_86 rfl sp_180 ?_
          refine wp_iload_n (q := 90) d_Rf_jump_89 rfl rfl ?_
          first | refine wp_iaddN (q := 91) d_Rf_jump_90 rfl ?_ | refine wp_iadd (q := 91) d_Rf_jump_90 rfl ?_
          refine wp_dup2 (q := 92) d_Rf_jump_91 rfl rfl rfl ?_
          refine wp_iald (q := 93) d_Rf_jump_92 rfl (rfl) (by omega) (by decide) ?_
          refine wp_iload_n (q := 94) d_Rf_jump_93 rfl rfl ?_
          simp (disch := omega) only [upd_ne, upd_eq]
          refine wp_iadd (q := 95) d_Rf_jump_94 rfl ?_
          refine wp_iast (q := 96) d_Rf_jump_95 rfl (rfl) (by omega) (by decide) (fr_P) ?_
          refine wp_aload_n (q := 97) d_Rf_jump_96 rfl rfl ?_
          refine wp_get (q := 100) fl_Rf_7 d_Rf_jump_97 rfl rfl rfl ?_
          refine wp_bipush (q := 102) d_Rf_jump_100 rfl bp_96 ?_
          refine wp_iload_n (q := 103) d_Rf_jump_102 rfl rfl ?_
          first | refine wp_iaddN (q := 104) d_Rf_jump_103 rfl ?_ | refine wp_iadd (q := 104) d_Rf_jump_103 rfl ?_
          refine wp_iald (q := 105) d_Rf_jump_104 rfl (rfl) (by omega) (by decide) ?_
          refine wp_iret d_Rf_jump_105 rfl (Nat.le_refl _) (Nat.le_refl _) ?_
          simp only [sp_jump, inn, inb, inm, btw, inb_t hnb h12 hb1, tnt (Nat.lt_of_lt_of_le hb1 h12), inn_t ht1, tnl ht1, hc_34, es, tnt hs, hf, hc_56, not_true_eq_false, not_false_eq_true, or_false, false_or, or_true, true_or, and_true, true_and, and_false, false_and, or_self, and_self, if_true, if_false, ite_true, ite_false, eq_self] at hK
          first | exact hK | (simp (disch := omega) only [tput_eq, tput2, tput_ne, upd_eq, upd_ne, ne_eq, va_upeq, va_upne, va_up2, not_true_eq_false, not_false_eq_true, or_false, false_or, or_true, true_or, and_true, true_and, and_false, false_and, or_self, and_self, if_true, if_false, ite_true, ite_false, eq_self] at hK ⊢; exact hK) | (simp (disch := omega) only [tput_eq, tput2, tput_ne, upd_eq, upd_ne, ne_eq, va_upeq, va_upne, va_up2, not_true_eq_false, not_false_eq_true, or_false, false_or, or_true, true_or, and_true, true_and, and_false, false_and, or_self, and_self, if_true, if_false, ite_true, ite_false, eq_self]; exact hK) | (simp (disch := omega) only [tput_eq, tput2, tput_ne, upd_eq, upd_ne, ne_eq, va_upeq, va_upne, va_up2, not_true_eq_false, not_false_eq_true, or_false, false_or, or_true, true_or, and_true, true_and, and_false, false_and, or_self, and_self, if_true, if_false, ite_true, ite_false, eq_self] at hK; exact hK)
        · refine wp_bipush (q := 61) d_Rf_jump_59 rfl bp_m6 ?_
          refine wp_iret d_Rf_jump_61 rfl (Nat.le_refl _) (Nat.le_refl _) ?_
          simp only [sp_jump, inn, inb, inm, btw, inb_t hnb h12 hb1, tnt (Nat.lt_of_lt_of_le hb1 h12), inn_t ht1, tnl ht1, hc_34, es, tnt hs, hf, hc_56, not_true_eq_false, not_false_eq_true, or_false, false_or, or_true, true_or, and_true, true_and, and_false, false_and, or_self, and_self, if_true, if_false, ite_true, ite_false, eq_self] at hK
          first | exact hK | (simp (disch := omega) only [tput_eq, tput2, tput_ne, upd_eq, upd_ne, ne_eq, va_upeq, va_upne, va_up2, not_true_eq_false, not_false_eq_true, or_false, false_or, or_true, true_or, and_true, true_and, and_false, false_and, or_self, and_self, if_true, if_false, ite_true, ite_false, eq_self] at hK ⊢; exact hK) | (simp (disch := omega) only [tput_eq, tput2, tput_ne, upd_eq, upd_ne, ne_eq, va_upeq, va_upne, va_up2, not_true_eq_false, not_false_eq_true, or_false, false_or, or_true, true_or, and_true, true_and, and_false, false_and, or_self, and_self, if_true, if_false, ite_true, ite_false, eq_self]; exact hK) | (simp (disch := omega) only [tput_eq, tput2, tput_ne, upd_eq, upd_ne, ne_eq, va_upeq, va_upne, va_up2, not_true_eq_false, not_false_eq_true, or_false, false_or, or_true, true_or, and_true, true_and, and_false, false_and, or_self, and_self, if_true, if_false, ite_true, ite_false, eq_self] at hK; exact hK)
      · refine wp_bipush (q := 39) d_Rf_jump_37 rfl bp_m3 ?_
        refine wp_iret d_Rf_jump_39 rfl (Nat.le_refl _) (Nat.le_refl _) ?_
        simp only [sp_jump, inn, inb, inm, btw, inb_t hnb h12 hb1, tnt (Nat.lt_of_lt_of_le hb1 h12), inn_t ht1, tnl ht1, hc_34, not_true_eq_false, not_false_eq_true, or_false, false_or, or_true, true_or, and_true, true_and, and_false, false_and, or_self, and_self, if_true, if_false, ite_true, ite_false, eq_self] at hK
        first | exact hK | (simp (disch := omega) only [tput_eq, tput2, tput_ne, upd_eq, upd_ne, ne_eq, va_upeq, va_upne, va_up2, not_true_eq_false, not_false_eq_true, or_false, false_or, or_true, true_or, and_true, true_and, and_false, false_and, or_self, and_self, if_true, if_false, ite_true, ite_false, eq_self] at hK ⊢; exact hK) | (simp (disch := omega) only [tput_eq, tput2, tput_ne, upd_eq, upd_ne, ne_eq, va_upeq, va_upne, va_up2, not_true_eq_false, not_false_eq_true, or_false, false_or, or_true, true_or, and_true, true_and, and_false, false_and, or_self, and_self, if_true, if_false, ite_true, ite_false, eq_self]; exact hK) | (simp (disch := omega) only [tput_eq, tput2, tput_ne, upd_eq, upd_ne, ne_eq, va_upeq, va_upne, va_up2, not_true_eq_false, not_false_eq_true, or_false, false_or, or_true, true_or, and_true, true_and, and_false, false_and, or_self, and_self, if_true, if_false, ite_true, ite_false, eq_self] at hK; exact hK)
    · refine wp_if_ne_f (q := 21) (tgt := 24) d_Rf_jump_18 (by decide) rfl (by decide) ?_
      refine wp_bipush (q := 23) d_Rf_jump_21 rfl bp_m2 ?_
      refine wp_iret d_Rf_jump_23 rfl (Nat.le_refl _) (Nat.le_refl _) ?_
      simp only [sp_jump, inn, inb, inm, btw, inb_t hnb h12 hb1, tnt (Nat.lt_of_lt_of_le hb1 h12), ht1, not_true_eq_false, not_false_eq_true, or_false, false_or, or_true, true_or, and_true, true_and, and_false, false_and, or_self, and_self, if_true, if_false, ite_true, ite_false, eq_self] at hK
      first | exact hK | (simp (disch := omega) only [tput_eq, tput2, tput_ne, upd_eq, upd_ne, ne_eq, va_upeq, va_upne, va_up2, not_true_eq_false, not_false_eq_true, or_false, false_or, or_true, true_or, and_true, true_and, and_false, false_and, or_self, and_self, if_true, if_false, ite_true, ite_false, eq_self] at hK ⊢; exact hK) | (simp (disch := omega) only [tput_eq, tput2, tput_ne, upd_eq, upd_ne, ne_eq, va_upeq, va_upne, va_up2, not_true_eq_false, not_false_eq_true, or_false, false_or, or_true, true_or, and_true, true_and, and_false, false_and, or_self, and_self, if_true, if_false, ite_true, ite_false, eq_self]; exact hK) | (simp (disch := omega) only [tput_eq, tput2, tput_ne, upd_eq, upd_ne, ne_eq, va_upeq, va_upne, va_up2, not_true_eq_false, not_false_eq_true, or_false, false_or, or_true, true_or, and_true, true_and, and_false, false_and, or_self, and_self, if_true, if_false, ite_true, ite_false, eq_self] at hK; exact hK)
  · refine wp_if_ne_f (q := 8) (tgt := 10) d_Rf_jump_5 (by decide) rfl (by decide) ?_
    refine wp_iconst (q := 9) d_Rf_jump_8 rfl ic_m1 ?_
    refine wp_iret d_Rf_jump_9 rfl (Nat.le_refl _) (Nat.le_refl _) ?_
    simp only [sp_jump, inn, inb, inm, btw, hb1, not_true_eq_false, not_false_eq_true, or_false, false_or, or_true, true_or, and_true, true_and, and_false, false_and, or_self, and_self, if_true, if_false, ite_true, ite_false, eq_self] at hK
    first | exact hK | (simp (disch := omega) only [tput_eq, tput2, tput_ne, upd_eq, upd_ne, ne_eq, va_upeq, va_upne, va_up2, not_true_eq_false, not_false_eq_true, or_false, false_or, or_true, true_or, and_true, true_and, and_false, false_and, or_self, and_self, if_true, if_false, ite_true, ite_false, eq_self] at hK ⊢; exact hK) | (simp (disch := omega) only [tput_eq, tput2, tput_ne, upd_eq, upd_ne, ne_eq, va_upeq, va_upne, va_up2, not_true_eq_false, not_false_eq_true, or_false, false_or, or_true, true_or, and_true, true_and, and_false, false_and, or_self, and_self, if_true, if_false, ite_true, ite_false, eq_self]; exact hK) | (simp (disch := omega) only [tput_eq, tput2, tput_ne, upd_eq, upd_ne, ne_eq, va_upeq, va_upne, va_up2, not_true_eq_false, not_false_eq_true, or_false, false_or, or_true, true_or, and_true, true_and, and_false, false_and, or_self, and_self, if_true, if_false, ite_true, ite_false, eq_self] at hK; exact hK)
def sp_force (c : T2) (s k : Int32) : Int32 × T2 := if ¬ inn s 5 then (-5, c) else if ¬ btw (-1) k (c 32 9 - nI 1) then (-2, c) else (c 10 (tn s), tput c 10 (upd (c 10) (tn s) k))
theorem d_FG_force_0 : decode M_FG_force.2.1 0 = .ok (.iload_n 1, 1) := by decide +kernel
theorem d_FG_force_1 : decode M_FG_force.2.1 1 = .ok (.invokestatic 57, 3) := by decide +kernel
theorem d_FG_force_4 : decode M_FG_force.2.1 4 = .ok (.ifCond .ne 6, 3) := by decide +kernel
theorem d_FG_force_7 : decode M_FG_force.2.1 7 = .ok (.bipush (-5), 2) := by decide +kernel
theorem d_FG_force_9 : decode M_FG_force.2.1 9 = .ok (.ireturn, 1) := by decide +kernel
theorem d_FG_force_10 : decode M_FG_force.2.1 10 = .ok (.iload_n 2, 1) := by decide +kernel
theorem d_FG_force_11 : decode M_FG_force.2.1 11 = .ok (.iconst (-1), 1) := by decide +kernel
theorem d_FG_force_12 : decode M_FG_force.2.1 12 = .ok (.aload_n 0, 1) := by decide +kernel
theorem d_FG_force_13 : decode M_FG_force.2.1 13 = .ok (.getfield 10, 3) := by decide +kernel
theorem d_FG_force_16 : decode M_FG_force.2.1 16 = .ok (.getfield 133, 3) := by decide +kernel
theorem d_FG_force_19 : decode M_FG_force.2.1 19 = .ok (.iconst 1, 1) := by decide +kernel
theorem d_FG_force_20 : decode M_FG_force.2.1 20 = .ok (.isub, 1) := by decide +kernel
theorem d_FG_force_21 : decode M_FG_force.2.1 21 = .ok (.invokestatic 61, 3) := by decide +kernel
theorem d_FG_force_24 : decode M_FG_force.2.1 24 = .ok (.ifCond .ne 6, 3) := by decide +kernel
theorem d_FG_force_27 : decode M_FG_force.2.1 27 = .ok (.bipush (-2), 2) := by decide +kernel
theorem d_FG_force_29 : decode M_FG_force.2.1 29 = .ok (.ireturn, 1) := by decide +kernel
theorem d_FG_force_30 : decode M_FG_force.2.1 30 = .ok (.aload_n 0, 1) := by decide +kernel
theorem d_FG_force_31 : decode M_FG_force.2.1 31 = .ok (.getfield 10, 3) := by decide +kernel
theorem d_FG_force_34 : decode M_FG_force.2.1 34 = .ok (.getfield 154, 3) := by decide +kernel
theorem d_FG_force_37 : decode M_FG_force.2.1 37 = .ok (.iload_n 1, 1) := by decide +kernel
theorem d_FG_force_38 : decode M_FG_force.2.1 38 = .ok (.iaload, 1) := by decide +kernel
theorem d_FG_force_39 : decode M_FG_force.2.1 39 = .ok (.istore_n 3, 1) := by decide +kernel
theorem d_FG_force_40 : decode M_FG_force.2.1 40 = .ok (.aload_n 0, 1) := by decide +kernel
theorem d_FG_force_41 : decode M_FG_force.2.1 41 = .ok (.getfield 10, 3) := by decide +kernel
theorem d_FG_force_44 : decode M_FG_force.2.1 44 = .ok (.getfield 154, 3) := by decide +kernel
theorem d_FG_force_47 : decode M_FG_force.2.1 47 = .ok (.iload_n 1, 1) := by decide +kernel
theorem d_FG_force_48 : decode M_FG_force.2.1 48 = .ok (.iload_n 2, 1) := by decide +kernel
theorem d_FG_force_49 : decode M_FG_force.2.1 49 = .ok (.iastore, 1) := by decide +kernel
theorem d_FG_force_50 : decode M_FG_force.2.1 50 = .ok (.iload_n 3, 1) := by decide +kernel
theorem d_FG_force_51 : decode M_FG_force.2.1 51 = .ok (.ireturn, 1) := by decide +kernel
set_option maxHeartbeats 4000000 in
set_option maxRecDepth 100000 in
theorem ok_FG_force {D : xD} {N : Nat} {l : Launch} {d : Nat} {c x V : T2} {P : Nat → Int32} {ln df : Nat → Option Nat} {rest : List va_E} {K : Option Value → List va_E → Prop} {s : Int32} {k : Int32}   (hK : K (some (.int (sp_force c s k).1)) (encC D N (sp_force c s k).2 x (va_up V 0 P) ln df ++ rest)) : Ok D N l (d + 2) M_FG_force [.ref (N + 0), .int s, .int k] (encC D N c x (va_up V 0 P) ln df ++ rest) 0 0 K := by
  refine ok_of (L := [(0, _), (1, _), (2, _)]) (by decide) (Nat.le_of_ble_eq_true rfl) rfl ?_
  refine wp_iload_n (q := 1) d_FG_force_0 rfl rfl ?_
  refine wp_cs1 (q := 4) lk_FG_57 (ro _ _ _) d_FG_force_1 rfl (Nat.le_of_ble_eq_true rfl) (Nat.zero_le _) (Nat.zero_le _) ?_
  refine ok_FG_isStage (fun s1 hs1 e => ?_) (fun hs1 => ?_)
  · subst e
    refine wp_if_ne_t (tgt := 10) d_FG_force_4 (by decide) (by decide) ?_
    refine wp_iload_n (q := 11) d_FG_force_10 rfl rfl ?_
    refine wp_iconst (q := 12) d_FG_force_11 rfl ic_m1 ?_
    refine wp_aload_n (q := 13) d_FG_force_12 rfl rfl ?_
    refine wp_get (q := 16) fl_FG_10 d_FG_force_13 rfl rfl rfl ?_
    refine wp_get (q := 19) fl_FG_133 d_FG_force_16 rfl rfl rfl ?_
    refine wp_iconst (q := 20) d_FG_force_19 rfl ic_1 ?_
    refine wp_isub (q := 21) d_FG_force_20 rfl ?_
    refine wp_cs3 (q := 24) lk_FG_61 (ro _ _ _) d_FG_force_21 rfl (Nat.le_of_ble_eq_true rfl) (Nat.zero_le _) (Nat.zero_le _) ?_
    refine ok_FG_within (fun hk1a hk1b => ?_) (fun hk1 => ?_)
    · refine wp_if_ne_t (tgt := 30) d_FG_force_24 (by decide) (by decide) ?_
      refine wp_aload_n (q := 31) d_FG_force_30 rfl rfl ?_
      refine wp_get (q := 34) fl_FG_10 d_FG_force_31 rfl rfl rfl ?_
      refine wp_get (q := 37) fl_FG_154 d_FG_force_34 rfl rfl rfl ?_
      refine wp_iload_n (q := 38) d_FG_force_37 rfl rfl ?_
      refine wp_iald (q := 39) d_FG_force_38 rfl (rfl) (by omega) (by decide) ?_
      refine wp_istore_n (q := 40) (L2 := [(3, _), (0, _), (1, _), (2, _)]) d_FG_force_39 rfl (by decide) rfl ?_
      refine wp_aload_n (q := 41) d_FG_force_40 rfl rfl ?_
      refine wp_get (q := 44) fl_FG_10 d_FG_force_41 rfl rfl rfl ?_
      refine wp_get (q := 47) fl_FG_154 d_FG_force_44 rfl rfl rfl ?_
      refine wp_iload_n (q := 48) d_FG_force_47 rfl rfl ?_
      refine wp_iload_n (q := 49) d_FG_force_48 rfl rfl ?_
      refine wp_iast (q := 50) d_FG_force_49 rfl (rfl) (by omega) (by decide) (fc_11) ?_
      refine wp_iload_n (q := 51) d_FG_force_50 rfl rfl ?_
      refine wp_iret d_FG_force_51 rfl (Nat.le_refl _) (Nat.le_refl _) ?_
      simp only [sp_force, inn, inb, inm, btw, inn_t hs1, tnl hs1, hk1a, hk1b, not_true_eq_false, not_false_eq_true, or_false, false_or, or_true, true_or, and_true, true_and, and_false, false_and, or_self, and_self, if_true, if_false, ite_true, ite_false, eq_self] at hK
      first | exact hK | (simp (disch := omega) only [tput_eq, tput2, tput_ne, upd_eq, upd_ne, ne_eq, va_upeq, va_upne, va_up2, not_true_eq_false, not_false_eq_true, or_false, false_or, or_true, true_or, and_true, true_and, and_false, false_and, or_self, and_self, if_true, if_false, ite_true, ite_false, eq_self] at hK ⊢; exact hK) | (simp (disch := omega) only [tput_eq, tput2, tput_ne, upd_eq, upd_ne, ne_eq, va_upeq, va_upne, va_up2, not_true_eq_false, not_false_eq_true, or_false, false_or, or_true, true_or, and_true, true_and, and_false, false_and, or_self, and_self, if_true, if_false, ite_true, ite_false, eq_self]; exact hK) | (simp (disch := omega) only [tput_eq, tput2, tput_ne, upd_eq, upd_ne, ne_eq, va_upeq, va_upne, va_up2, not_true_eq_false, not_false_eq_true, or_false, false_or, or_true, true_or, and_true, true_and, and_false, false_and, or_self, and_self, if_true, if_false, ite_true, ite_false, eq_self] at hK; exact hK)
    · refine wp_if_ne_f (q := 27) (tgt := 30) d_FG_force_24 (by decide) rfl (by decide) ?_
      refine wp_bipush (q := 29) d_FG_force_27 rfl bp_m2 ?_
      refine wp_iret d_FG_force_29 rfl (Nat.le_refl _) (Nat.le_refl _) ?_
      simp only [sp_force, inn, inb, inm, btw, inn_t hs1, tnl hs1, hk1, not_true_eq_false, not_false_eq_true, or_false, false_or, or_true, true_or, and_true, true_and, and_false, false_and, or_self, and_self, if_true, if_false, ite_true, ite_false, eq_self] at hK
      first | exact hK | (simp (disch := omega) only [tput_eq, tput2, tput_ne, upd_eq, upd_ne, ne_eq, va_upeq, va_upne, va_up2, not_true_eq_false, not_false_eq_true, or_false, false_or, or_true, true_or, and_true, true_and, and_false, false_and, or_self, and_self, if_true, if_false, ite_true, ite_false, eq_self] at hK ⊢; exact hK) | (simp (disch := omega) only [tput_eq, tput2, tput_ne, upd_eq, upd_ne, ne_eq, va_upeq, va_upne, va_up2, not_true_eq_false, not_false_eq_true, or_false, false_or, or_true, true_or, and_true, true_and, and_false, false_and, or_self, and_self, if_true, if_false, ite_true, ite_false, eq_self]; exact hK) | (simp (disch := omega) only [tput_eq, tput2, tput_ne, upd_eq, upd_ne, ne_eq, va_upeq, va_upne, va_up2, not_true_eq_false, not_false_eq_true, or_false, false_or, or_true, true_or, and_true, true_and, and_false, false_and, or_self, and_self, if_true, if_false, ite_true, ite_false, eq_self] at hK; exact hK)
  · refine wp_if_ne_f (q := 7) (tgt := 10) d_FG_force_4 (by decide) rfl (by decide) ?_
    refine wp_bipush (q := 9) d_FG_force_7 rfl bp_m5 ?_
    refine wp_iret d_FG_force_9 rfl (Nat.le_refl _) (Nat.le_refl _) ?_
    simp only [sp_force, inn, inb, inm, btw, hs1, not_true_eq_false, not_false_eq_true, or_false, false_or, or_true, true_or, and_true, true_and, and_false, false_and, or_self, and_self, if_true, if_false, ite_true, ite_false, eq_self] at hK
    first | exact hK | (simp (disch := omega) only [tput_eq, tput2, tput_ne, upd_eq, upd_ne, ne_eq, va_upeq, va_upne, va_up2, not_true_eq_false, not_false_eq_true, or_false, false_or, or_true, true_or, and_true, true_and, and_false, false_and, or_self, and_self, if_true, if_false, ite_true, ite_false, eq_self] at hK ⊢; exact hK) | (simp (disch := omega) only [tput_eq, tput2, tput_ne, upd_eq, upd_ne, ne_eq, va_upeq, va_upne, va_up2, not_true_eq_false, not_false_eq_true, or_false, false_or, or_true, true_or, and_true, true_and, and_false, false_and, or_self, and_self, if_true, if_false, ite_true, ite_false, eq_self]; exact hK) | (simp (disch := omega) only [tput_eq, tput2, tput_ne, upd_eq, upd_ne, ne_eq, va_upeq, va_upne, va_up2, not_true_eq_false, not_false_eq_true, or_false, false_or, or_true, true_or, and_true, true_and, and_false, false_and, or_self, and_self, if_true, if_false, ite_true, ite_false, eq_self] at hK; exact hK)
theorem d_Rf_force_0 : decode M_Rf_force.2.1 0 = .ok (.iload_n 1, 1) := by decide +kernel
theorem d_Rf_force_1 : decode M_Rf_force.2.1 1 = .ok (.invokestatic 163, 3) := by decide +kernel
theorem d_Rf_force_4 : decode M_Rf_force.2.1 4 = .ok (.ifCond .ne 6, 3) := by decide +kernel
theorem d_Rf_force_7 : decode M_Rf_force.2.1 7 = .ok (.bipush (-5), 2) := by decide +kernel
theorem d_Rf_force_9 : decode M_Rf_force.2.1 9 = .ok (.ireturn, 1) := by decide +kernel
theorem d_Rf_force_10 : decode M_Rf_force.2.1 10 = .ok (.iload_n 2, 1) := by decide +kernel
theorem d_Rf_force_11 : decode M_Rf_force.2.1 11 = .ok (.iconst (-1), 1) := by decide +kernel
theorem d_Rf_force_12 : decode M_Rf_force.2.1 12 = .ok (.aload_n 0, 1) := by decide +kernel
theorem d_Rf_force_13 : decode M_Rf_force.2.1 13 = .ok (.getfield 211, 3) := by decide +kernel
theorem d_Rf_force_16 : decode M_Rf_force.2.1 16 = .ok (.iconst 1, 1) := by decide +kernel
theorem d_Rf_force_17 : decode M_Rf_force.2.1 17 = .ok (.isub, 1) := by decide +kernel
theorem d_Rf_force_18 : decode M_Rf_force.2.1 18 = .ok (.invokestatic 151, 3) := by decide +kernel
theorem d_Rf_force_21 : decode M_Rf_force.2.1 21 = .ok (.ifCond .ne 6, 3) := by decide +kernel
theorem d_Rf_force_24 : decode M_Rf_force.2.1 24 = .ok (.bipush (-2), 2) := by decide +kernel
theorem d_Rf_force_26 : decode M_Rf_force.2.1 26 = .ok (.ireturn, 1) := by decide +kernel
theorem d_Rf_force_27 : decode M_Rf_force.2.1 27 = .ok (.aload_n 0, 1) := by decide +kernel
theorem d_Rf_force_28 : decode M_Rf_force.2.1 28 = .ok (.getfield 43, 3) := by decide +kernel
theorem d_Rf_force_31 : decode M_Rf_force.2.1 31 = .ok (.iload_n 1, 1) := by decide +kernel
theorem d_Rf_force_32 : decode M_Rf_force.2.1 32 = .ok (.iaload, 1) := by decide +kernel
theorem d_Rf_force_33 : decode M_Rf_force.2.1 33 = .ok (.istore_n 3, 1) := by decide +kernel
theorem d_Rf_force_34 : decode M_Rf_force.2.1 34 = .ok (.aload_n 0, 1) := by decide +kernel
theorem d_Rf_force_35 : decode M_Rf_force.2.1 35 = .ok (.getfield 43, 3) := by decide +kernel
theorem d_Rf_force_38 : decode M_Rf_force.2.1 38 = .ok (.iload_n 1, 1) := by decide +kernel
theorem d_Rf_force_39 : decode M_Rf_force.2.1 39 = .ok (.iload_n 2, 1) := by decide +kernel
theorem d_Rf_force_40 : decode M_Rf_force.2.1 40 = .ok (.iastore, 1) := by decide +kernel
theorem d_Rf_force_41 : decode M_Rf_force.2.1 41 = .ok (.iload_n 3, 1) := by decide +kernel
theorem d_Rf_force_42 : decode M_Rf_force.2.1 42 = .ok (.ireturn, 1) := by decide +kernel
set_option maxHeartbeats 4000000 in
set_option maxRecDepth 100000 in
theorem ok_Rf_force {D : xD} {N : Nat} {l : Launch} {d : Nat} {c z : T2} {P Q : Nat → Int32} {rest : List va_E} {K : Option Value → List va_E → Prop} {s : Int32} {k : Int32}   (hK : K (some (.int (sp_force c s k).1)) (encR D N (sp_force c s k).2 z P Q ++ rest)) : Ok D N l (d + 2) M_Rf_force [.ref (N + 0), .int s, .int k] (encR D N c z P Q ++ rest) 0 0 K := by
  refine ok_of (L := [(0, _), (1, _), (2, _)]) (by decide) (Nat.le_of_ble_eq_true rfl) rfl ?_
  refine wp_iload_n (q := 1) d_Rf_force_0 rfl rfl ?_
  refine wp_cs1 (q := 4) lk_Rf_163 (ro _ _ _) d_Rf_force_1 rfl (Nat.le_of_ble_eq_true rfl) (Nat.zero_le _) (Nat.zero_le _) ?_
  refine ok_Rf_isStage (fun s1 hs1 e => ?_) (fun hs1 => ?_)
  · subst e
    refine wp_if_ne_t (tgt := 10) d_Rf_force_4 (by decide) (by decide) ?_
    refine wp_iload_n (q := 11) d_Rf_force_10 rfl rfl ?_
    refine wp_iconst (q := 12) d_Rf_force_11 rfl ic_m1 ?_
    refine wp_aload_n (q := 13) d_Rf_force_12 rfl rfl ?_
    refine wp_get (q := 16) fl_Rf_211 d_Rf_force_13 rfl rfl rfl ?_
    refine wp_iconst (q := 17) d_Rf_force_16 rfl ic_1 ?_
    refine wp_isub (q := 18) d_Rf_force_17 rfl ?_
    refine wp_cs3 (q := 21) lk_Rf_151 (ro _ _ _) d_Rf_force_18 rfl (Nat.le_of_ble_eq_true rfl) (Nat.zero_le _) (Nat.zero_le _) ?_
    refine ok_Rf_in (fun hk1a hk1b => ?_) (fun hk1 => ?_)
    · refine wp_if_ne_t (tgt := 27) d_Rf_force_21 (by decide) (by decide) ?_
      refine wp_aload_n (q := 28) d_Rf_force_27 rfl rfl ?_
      refine wp_get (q := 31) fl_Rf_43 d_Rf_force_28 rfl rfl rfl ?_
      refine wp_iload_n (q := 32) d_Rf_force_31 rfl rfl ?_
      refine wp_iald (q := 33) d_Rf_force_32 rfl (rfl) (by omega) (by decide) ?_
      refine wp_istore_n (q := 34) (L2 := [(3, _), (0, _), (1, _), (2, _)]) d_Rf_force_33 rfl (by decide) rfl ?_
      refine wp_aload_n (q := 35) d_Rf_force_34 rfl rfl ?_
      refine wp_get (q := 38) fl_Rf_43 d_Rf_force_35 rfl rfl rfl ?_
      refine wp_iload_n (q := 39) d_Rf_force_38 rfl rfl ?_
      refine wp_iload_n (q := 40) d_Rf_force_39 rfl rfl ?_
      refine wp_iast (q := 41) d_Rf_force_40 rfl (rfl) (by omega) (by decide) (fr_12) ?_
      refine wp_iload_n (q := 42) d_Rf_force_41 rfl rfl ?_
      refine wp_iret d_Rf_force_42 rfl (Nat.le_refl _) (Nat.le_refl _) ?_
      simp only [sp_force, inn, inb, inm, btw, inn_t hs1, tnl hs1, hk1a, hk1b, not_true_eq_false, not_false_eq_true, or_false, false_or, or_true, true_or, and_true, true_and, and_false, false_and, or_self, and_self, if_true, if_false, ite_true, ite_false, eq_self] at hK
      first | exact hK | (simp (disch := omega) only [tput_eq, tput2, tput_ne, upd_eq, upd_ne, ne_eq, va_upeq, va_upne, va_up2, not_true_eq_false, not_false_eq_true, or_false, false_or, or_true, true_or, and_true, true_and, and_false, false_and, or_self, and_self, if_true, if_false, ite_true, ite_false, eq_self] at hK ⊢; exact hK) | (simp (disch := omega) only [tput_eq, tput2, tput_ne, upd_eq, upd_ne, ne_eq, va_upeq, va_upne, va_up2, not_true_eq_false, not_false_eq_true, or_false, false_or, or_true, true_or, and_true, true_and, and_false, false_and, or_self, and_self, if_true, if_false, ite_true, ite_false, eq_self]; exact hK) | (simp (disch := omega) only [tput_eq, tput2, tput_ne, upd_eq, upd_ne, ne_eq, va_upeq, va_upne, va_up2, not_true_eq_false, not_false_eq_true, or_false, false_or, or_true, true_or, and_true, true_and, and_false, false_and, or_self, and_self, if_true, if_false, ite_true, ite_false, eq_self] at hK; exact hK)
    · refine wp_if_ne_f (q := 24) (tgt := 27) d_Rf_force_21 (by decide) rfl (by decide) ?_
      refine wp_bipush (q := 26) d_Rf_force_24 rfl bp_m2 ?_
      refine wp_iret d_Rf_force_26 rfl (Nat.le_refl _) (Nat.le_refl _) ?_
      simp only [sp_force, inn, inb, inm, btw, inn_t hs1, tnl hs1, hk1, not_true_eq_false, not_false_eq_true, or_false, false_or, or_true, true_or, and_true, true_and, and_false, false_and, or_self, and_self, if_true, if_false, ite_true, ite_false, eq_self] at hK
      first | exact hK | (simp (disch := omega) only [tput_eq, tput2, tput_ne, upd_eq, upd_ne, ne_eq, va_upeq, va_upne, va_up2, not_true_eq_false, not_false_eq_true, or_false, false_or, or_true, true_or, and_true, true_and, and_false, false_and, or_self, and_self, if_true, if_false, ite_true, ite_false, eq_self] at hK ⊢; exact hK) | (simp (disch := omega) only [tput_eq, tput2, tput_ne, upd_eq, upd_ne, ne_eq, va_upeq, va_upne, va_up2, not_true_eq_false, not_false_eq_true, or_false, false_or, or_true, true_or, and_true, true_and, and_false, false_and, or_self, and_self, if_true, if_false, ite_true, ite_false, eq_self]; exact hK) | (simp (disch := omega) only [tput_eq, tput2, tput_ne, upd_eq, upd_ne, ne_eq, va_upeq, va_upne, va_up2, not_true_eq_false, not_false_eq_true, or_false, false_or, or_true, true_or, and_true, true_and, and_false, false_and, or_self, and_self, if_true, if_false, ite_true, ite_false, eq_self] at hK; exact hK)
  · refine wp_if_ne_f (q := 7) (tgt := 10) d_Rf_force_4 (by decide) rfl (by decide) ?_
    refine wp_bipush (q := 9) d_Rf_force_7 rfl bp_m5 ?_
    refine wp_iret d_Rf_force_9 rfl (Nat.le_refl _) (Nat.le_refl _) ?_
    simp only [sp_force, inn, inb, inm, btw, hs1, not_true_eq_false, not_false_eq_true, or_false, false_or, or_true, true_or, and_true, true_and, and_false, false_and, or_self, and_self, if_true, if_false, ite_true, ite_false, eq_self] at hK
    first | exact hK | (simp (disch := omega) only [tput_eq, tput2, tput_ne, upd_eq, upd_ne, ne_eq, va_upeq, va_upne, va_up2, not_true_eq_false, not_false_eq_true, or_false, false_or, or_true, true_or, and_true, true_and, and_false, false_and, or_self, and_self, if_true, if_false, ite_true, ite_false, eq_self] at hK ⊢; exact hK) | (simp (disch := omega) only [tput_eq, tput2, tput_ne, upd_eq, upd_ne, ne_eq, va_upeq, va_upne, va_up2, not_true_eq_false, not_false_eq_true, or_false, false_or, or_true, true_or, and_true, true_and, and_false, false_and, or_self, and_self, if_true, if_false, ite_true, ite_false, eq_self]; exact hK) | (simp (disch := omega) only [tput_eq, tput2, tput_ne, upd_eq, upd_ne, ne_eq, va_upeq, va_upne, va_up2, not_true_eq_false, not_false_eq_true, or_false, false_or, or_true, true_or, and_true, true_and, and_false, false_and, or_self, and_self, if_true, if_false, ite_true, ite_false, eq_self] at hK; exact hK)
def sp_law (c : T2) (P : Nat → Int32) (nb m : Nat) (b k : Int32) : Int32 := if ¬ inb c b then -1 else if ¬ inn k 2 then -2 else lawv c P nb m (tn (P (84 + tn b))) (tn b) (tn k)
theorem d_FG_law_0 : decode M_FG_law.2.1 0 = .ok (.aload_n 0, 1) := by decide +kernel
theorem d_FG_law_1 : decode M_FG_law.2.1 1 = .ok (.iload_n 1, 1) := by decide +kernel
theorem d_FG_law_2 : decode M_FG_law.2.1 2 = .ok (.invokevirtual 82, 3) := by decide +kernel
theorem d_FG_law_5 : decode M_FG_law.2.1 5 = .ok (.ifCond .ne 5, 3) := by decide +kernel
theorem d_FG_law_8 : decode M_FG_law.2.1 8 = .ok (.iconst (-1), 1) := by decide +kernel
theorem d_FG_law_9 : decode M_FG_law.2.1 9 = .ok (.ireturn, 1) := by decide +kernel
theorem d_FG_law_10 : decode M_FG_law.2.1 10 = .ok (.iload_n 2, 1) := by decide +kernel
theorem d_FG_law_11 : decode M_FG_law.2.1 11 = .ok (.iconst 0, 1) := by decide +kernel
theorem d_FG_law_12 : decode M_FG_law.2.1 12 = .ok (.iconst 2, 1) := by decide +kernel
theorem d_FG_law_13 : decode M_FG_law.2.1 13 = .ok (.invokestatic 61, 3) := by decide +kernel
theorem d_FG_law_16 : decode M_FG_law.2.1 16 = .ok (.ifCond .ne 6, 3) := by decide +kernel
theorem d_FG_law_19 : decode M_FG_law.2.1 19 = .ok (.bipush (-2), 2) := by decide +kernel
theorem d_FG_law_21 : decode M_FG_law.2.1 21 = .ok (.ireturn, 1) := by decide +kernel
theorem d_FG_law_22 : decode M_FG_law.2.1 22 = .ok (.aload_n 0, 1) := by decide +kernel
theorem d_FG_law_23 : decode M_FG_law.2.1 23 = .ok (.getfield 10, 3) := by decide +kernel
theorem d_FG_law_26 : decode M_FG_law.2.1 26 = .ok (.aload_n 0, 1) := by decide +kernel
theorem d_FG_law_27 : decode M_FG_law.2.1 27 = .ok (.getfield 10, 3) := by decide +kernel
theorem d_FG_law_30 : decode M_FG_law.2.1 30 = .ok (.aload_n 0, 1) := by decide +kernel
theorem d_FG_law_31 : decode M_FG_law.2.1 31 = .ok (.getfield 19, 3) := by decide +kernel
theorem d_FG_law_34 : decode M_FG_law.2.1 34 = .ok (.iload_n 1, 1) := by decide +kernel
theorem d_FG_law_35 : decode M_FG_law.2.1 35 = .ok (.invokevirtual 157, 3) := by decide +kernel
theorem d_FG_law_38 : decode M_FG_law.2.1 38 = .ok (.iload_n 2, 1) := by decide +kernel
theorem d_FG_law_39 : decode M_FG_law.2.1 39 = .ok (.invokevirtual 161, 3) := by decide +kernel
theorem d_FG_law_42 : decode M_FG_law.2.1 42 = .ok (.ireturn, 1) := by decide +kernel
set_option maxHeartbeats 4000000 in
set_option maxRecDepth 100000 in
theorem ok_FG_law {D : xD} {N : Nat} {l : Launch} {d : Nat} {c x V : T2} {P : Nat → Int32} {ln df : Nat → Option Nat} {rest : List va_E} {K : Option Value → List va_E → Prop} {b : Int32} {k : Int32} {nb : Nat} (hnb : c 32 1 = nI nb) (h12 : nb ≤ 12) (hst : ∀ b, b < 12 → isN (P (84 + b)) 6) {m : Nat} (em : P 234 = nI m) (hm : m < 14700) (hCI : CI c) (hz : ∀ b, nb ≤ b → b < 12 → P (72 + b) = nI 0) (hLOK : LOK D N c ln rest) (hK : ∀ x2 : T2, K (some (.int (sp_law c P nb m b k))) (encC D N c x2 (va_up V 0 P) ln df ++ rest)) : Ok D N l (d + 5) M_FG_law [.ref (N + 0), .int b, .int k] (encC D N c x (va_up V 0 P) ln df ++ rest) 0 0 K := by
  refine ok_of (L := [(0, _), (1, _), (2, _)]) (by decide) (Nat.le_of_ble_eq_true rfl) rfl ?_
  refine wp_aload_n (q := 1) d_FG_law_0 rfl rfl ?_
  refine wp_iload_n (q := 2) d_FG_law_1 rfl rfl ?_
  refine wp_cv1 (q := 5) lk_FG_82 (ro _ _ _) d_FG_law_2 rfl (Nat.le_of_ble_eq_true rfl) (rfl) rfl (Nat.zero_le _) (Nat.zero_le _) ?_
  refine ok_FG_isBus hnb h12 (fun b1 hb1 e => ?_) (fun hb1 => ?_)
  · subst e
    refine wp_if_ne_t (tgt := 10) d_FG_law_5 (by decide) (by decide) ?_
    refine wp_iload_n (q := 11) d_FG_law_10 rfl rfl ?_
    refine wp_iconst (q := 12) d_FG_law_11 rfl ic_0 ?_
    refine wp_iconst (q := 13) d_FG_law_12 rfl ic_2 ?_
    refine wp_cs3 (q := 16) lk_FG_61 (ro _ _ _) d_FG_law_13 rfl (Nat.le_of_ble_eq_true rfl) (Nat.zero_le _) (Nat.zero_le _) ?_
    refine ok_FG_within0 (b := 2) (by decide) (fun k1 hk1 e => ?_) (fun hk1 => ?_)
    · subst e
      refine wp_if_ne_t (tgt := 22) d_FG_law_16 (by decide) (by decide) ?_
      refine wp_aload_n (q := 23) d_FG_law_22 rfl rfl ?_
      refine wp_get (q := 26) fl_FG_10 d_FG_law_23 rfl rfl rfl ?_
      refine wp_aload_n (q := 27) d_FG_law_26 rfl rfl ?_
      refine wp_get (q := 30) fl_FG_10 d_FG_law_27 rfl rfl rfl ?_
      refine wp_aload_n (q := 31) d_FG_law_30 rfl rfl ?_
      refine wp_get (q := 34) fl_FG_19 d_FG_law_31 rfl rfl rfl ?_
      refine wp_iload_n (q := 35) d_FG_law_34 rfl rfl ?_
      refine wp_cv2 (q := 38) lk_FG_157 (ro _ _ _) d_FG_law_35 rfl (Nat.le_of_ble_eq_true rfl) (rfl) rfl (Nat.zero_le _) (Nat.zero_le _) ?_
      obtain ⟨s, hs, es⟩ := (hst b1 (by omega)).ex
      refine ok_Tn_factsOf (w := 0) h12 hz (by decide) em hm (by omega) hs es ?_
      intro F hF
      refine wp_iload_n (q := 39) d_FG_law_38 rfl rfl ?_
      refine wp_cv2 (q := 42) lk_FG_161 (ro _ _ _) d_FG_law_39 rfl (Nat.le_of_ble_eq_true rfl) (rfl) rfl (Nat.zero_le _) (Nat.zero_le _) ?_
      refine ok_Tn_says (P := P) (nb := nb) (m := m) (s := s) (b := b1) (key := k1) hs (by omega) hCI hLOK (fun f hf => by rw [tput_eq]; exact hF f hf) ?_
      refine wp_iret d_FG_law_42 rfl (Nat.le_refl _) (Nat.le_refl _) ?_
      simp only [sp_law, inn, inb, inm, btw, inb_t hnb h12 hb1, tnt (Nat.lt_of_lt_of_le hb1 h12), inn_t hk1, tnl hk1, es, tnt hs, not_true_eq_false, not_false_eq_true, or_false, false_or, or_true, true_or, and_true, true_and, and_false, false_and, or_self, and_self, if_true, if_false, ite_true, ite_false, eq_self] at hK
      first | exact hK _ | (simp (disch := omega) only [tput_eq, tput2, tput_ne, upd_eq, upd_ne, ne_eq, va_upeq, va_upne, va_up2, not_true_eq_false, not_false_eq_true, or_false, false_or, or_true, true_or, and_true, true_and, and_false, false_and, or_self, and_self, if_true, if_false, ite_true, ite_false, eq_self] at hK ⊢; exact hK _) | (simp (disch := omega) only [tput_eq, tput2, tput_ne, upd_eq, upd_ne, ne_eq, va_upeq, va_upne, va_up2, not_true_eq_false, not_false_eq_true, or_false, false_or, or_true, true_or, and_true, true_and, and_false, false_and, or_self, and_self, if_true, if_false, ite_true, ite_false, eq_self]; exact hK _) | (simp (disch := omega) only [tput_eq, tput2, tput_ne, upd_eq, upd_ne, ne_eq, va_upeq, va_upne, va_up2, not_true_eq_false, not_false_eq_true, or_false, false_or, or_true, true_or, and_true, true_and, and_false, false_and, or_self, and_self, if_true, if_false, ite_true, ite_false, eq_self] at hK; exact hK _)
    · refine wp_if_ne_f (q := 19) (tgt := 22) d_FG_law_16 (by decide) rfl (by decide) ?_
      refine wp_bipush (q := 21) d_FG_law_19 rfl bp_m2 ?_
      refine wp_iret d_FG_law_21 rfl (Nat.le_refl _) (Nat.le_refl _) ?_
      simp only [sp_law, inn, inb, inm, btw, inb_t hnb h12 hb1, tnt (Nat.lt_of_lt_of_le hb1 h12), hk1, not_true_eq_false, not_false_eq_true, or_false, false_or, or_true, true_or, and_true, true_and, and_false, false_and, or_self, and_self, if_true, if_false, ite_true, ite_false, eq_self] at hK
      first | exact hK _ | (simp (disch := omega) only [tput_eq, tput2, tput_ne, upd_eq, upd_ne, ne_eq, va_upeq, va_upne, va_up2, not_true_eq_false, not_false_eq_true, or_false, false_or, or_true, true_or, and_true, true_and, and_false, false_and, or_self, and_self, if_true, if_false, ite_true, ite_false, eq_self] at hK ⊢; exact hK _) | (simp (disch := omega) only [tput_eq, tput2, tput_ne, upd_eq, upd_ne, ne_eq, va_upeq, va_upne, va_up2, not_true_eq_false, not_false_eq_true, or_false, false_or, or_true, true_or, and_true, true_and, and_false, false_and, or_self, and_self, if_true, if_false, ite_true, ite_false, eq_self]; exact hK _) | (simp (disch := omega) only [tput_eq, tput2, tput_ne, upd_eq, upd_ne, ne_eq, va_upeq, va_upne, va_up2, not_true_eq_false, not_false_eq_true, or_false, false_or, or_true, true_or, and_true, true_and, and_false, false_and, or_self, and_self, if_true, if_false, ite_true, ite_false, eq_self] at hK; exact hK _)
  · refine wp_if_ne_f (q := 8) (tgt := 10) d_FG_law_5 (by decide) rfl (by decide) ?_
    refine wp_iconst (q := 9) d_FG_law_8 rfl ic_m1 ?_
    refine wp_iret d_FG_law_9 rfl (Nat.le_refl _) (Nat.le_refl _) ?_
    simp only [sp_law, inn, inb, inm, btw, hb1, not_true_eq_false, not_false_eq_true, or_false, false_or, or_true, true_or, and_true, true_and, and_false, false_and, or_self, and_self, if_true, if_false, ite_true, ite_false, eq_self] at hK
    first | exact hK _ | (simp (disch := omega) only [tput_eq, tput2, tput_ne, upd_eq, upd_ne, ne_eq, va_upeq, va_upne, va_up2, not_true_eq_false, not_false_eq_true, or_false, false_or, or_true, true_or, and_true, true_and, and_false, false_and, or_self, and_self, if_true, if_false, ite_true, ite_false, eq_self] at hK ⊢; exact hK _) | (simp (disch := omega) only [tput_eq, tput2, tput_ne, upd_eq, upd_ne, ne_eq, va_upeq, va_upne, va_up2, not_true_eq_false, not_false_eq_true, or_false, false_or, or_true, true_or, and_true, true_and, and_false, false_and, or_self, and_self, if_true, if_false, ite_true, ite_false, eq_self]; exact hK _) | (simp (disch := omega) only [tput_eq, tput2, tput_ne, upd_eq, upd_ne, ne_eq, va_upeq, va_upne, va_up2, not_true_eq_false, not_false_eq_true, or_false, false_or, or_true, true_or, and_true, true_and, and_false, false_and, or_self, and_self, if_true, if_false, ite_true, ite_false, eq_self] at hK; exact hK _)
theorem d_Rf_law_0 : decode M_Rf_law.2.1 0 = .ok (.aload_n 0, 1) := by decide +kernel
theorem d_Rf_law_1 : decode M_Rf_law.2.1 1 = .ok (.iload_n 1, 1) := by decide +kernel
theorem d_Rf_law_2 : decode M_Rf_law.2.1 2 = .ok (.invokevirtual 167, 3) := by decide +kernel
theorem d_Rf_law_5 : decode M_Rf_law.2.1 5 = .ok (.ifCond .ne 7, 3) := by decide +kernel
theorem d_Rf_law_8 : decode M_Rf_law.2.1 8 = .ok (.iconst (-1), 1) := by decide +kernel
theorem d_Rf_law_9 : decode M_Rf_law.2.1 9 = .ok (.goto 23, 3) := by decide +kernel
theorem d_Rf_law_12 : decode M_Rf_law.2.1 12 = .ok (.iload_n 2, 1) := by decide +kernel
theorem d_Rf_law_13 : decode M_Rf_law.2.1 13 = .ok (.iconst 0, 1) := by decide +kernel
theorem d_Rf_law_14 : decode M_Rf_law.2.1 14 = .ok (.iconst 2, 1) := by decide +kernel
theorem d_Rf_law_15 : decode M_Rf_law.2.1 15 = .ok (.invokestatic 151, 3) := by decide +kernel
theorem d_Rf_law_18 : decode M_Rf_law.2.1 18 = .ok (.ifCond .eq 12, 3) := by decide +kernel
theorem d_Rf_law_21 : decode M_Rf_law.2.1 21 = .ok (.aload_n 0, 1) := by decide +kernel
theorem d_Rf_law_22 : decode M_Rf_law.2.1 22 = .ok (.iload_n 1, 1) := by decide +kernel
theorem d_Rf_law_23 : decode M_Rf_law.2.1 23 = .ok (.iload_n 2, 1) := by decide +kernel
theorem d_Rf_law_24 : decode M_Rf_law.2.1 24 = .ok (.invokevirtual 230, 3) := by decide +kernel
theorem d_Rf_law_27 : decode M_Rf_law.2.1 27 = .ok (.goto 5, 3) := by decide +kernel
theorem d_Rf_law_30 : decode M_Rf_law.2.1 30 = .ok (.bipush (-2), 2) := by decide +kernel
theorem d_Rf_law_32 : decode M_Rf_law.2.1 32 = .ok (.ireturn, 1) := by decide +kernel
set_option maxHeartbeats 4000000 in
set_option maxRecDepth 100000 in
theorem ok_Rf_law {D : xD} {N : Nat} {l : Launch} {d : Nat} {c z : T2} {P Q : Nat → Int32} {rest : List va_E} {K : Option Value → List va_E → Prop} {b : Int32} {k : Int32} {nb : Nat} (hnb : c 32 1 = nI nb) (h12 : nb ≤ 12) (hst : ∀ b, b < 12 → isN (P (84 + b)) 6) {m : Nat} (em : P 234 = nI m) (hm : m < 14700) (hCI : CI c)  (hK : K (some (.int (sp_law c P nb m b k))) (encR D N c z P Q ++ rest)) : Ok D N l (d + 5) M_Rf_law [.ref (N + 0), .int b, .int k] (encR D N c z P Q ++ rest) 0 0 K := by
  refine ok_of (L := [(0, _), (1, _), (2, _)]) (by decide) (Nat.le_of_ble_eq_true rfl) rfl ?_
  refine wp_aload_n (q := 1) d_Rf_law_0 rfl rfl ?_
  refine wp_iload_n (q := 2) d_Rf_law_1 rfl rfl ?_
  refine wp_cv1 (q := 5) lk_Rf_167 (ro _ _ _) d_Rf_law_2 rfl (Nat.le_of_ble_eq_true rfl) (rfl) rfl (Nat.zero_le _) (Nat.zero_le _) ?_
  refine ok_Rf_isBus hnb h12 (fun b1 hb1 e => ?_) (fun hb1 => ?_)
  · subst e
    refine wp_if_ne_t (tgt := 12) d_Rf_law_5 (by decide) (by decide) ?_
    refine wp_iload_n (q := 13) d_Rf_law_12 rfl rfl ?_
    refine wp_iconst (q := 14) d_Rf_law_13 rfl ic_0 ?_
    refine wp_iconst (q := 15) d_Rf_law_14 rfl ic_2 ?_
    refine wp_cs3 (q := 18) lk_Rf_151 (ro _ _ _) d_Rf_law_15 rfl (Nat.le_of_ble_eq_true rfl) (Nat.zero_le _) (Nat.zero_le _) ?_
    refine ok_Rf_in0 (b := 2) (by decide) (fun k1 hk1 e => ?_) (fun hk1 => ?_)
    · subst e
      refine wp_if_eq_f (q := 21) (tgt := 30) d_Rf_law_18 (by decide) rfl (by decide) ?_
      refine wp_aload_n (q := 22) d_Rf_law_21 rfl rfl ?_
      refine wp_iload_n (q := 23) d_Rf_law_22 rfl rfl ?_
      refine wp_iload_n (q := 24) d_Rf_law_23 rfl rfl ?_
      refine wp_cv2 (q := 27) lk_Rf_230 (ro _ _ _) d_Rf_law_24 rfl (Nat.le_of_ble_eq_true rfl) (rfl) rfl (Nat.zero_le _) (Nat.zero_le _) ?_
      obtain ⟨s, hs, es⟩ := (hst b1 (by omega)).ex
      refine ok_Rf_lawOf hnb h12 em hm (by omega) hs es (by omega) hCI ?_
      refine wp_goto (tgt := 32) d_Rf_law_27 (by decide) ?_
      refine wp_iret d_Rf_law_32 rfl (Nat.le_refl _) (Nat.le_refl _) ?_
      simp only [sp_law, inn, inb, inm, btw, inb_t hnb h12 hb1, tnt (Nat.lt_of_lt_of_le hb1 h12), inn_t hk1, tnl hk1, es, tnt hs, not_true_eq_false, not_false_eq_true, or_false, false_or, or_true, true_or, and_true, true_and, and_false, false_and, or_self, and_self, if_true, if_false, ite_true, ite_false, eq_self] at hK
      first | exact hK | (simp (disch := omega) only [tput_eq, tput2, tput_ne, upd_eq, upd_ne, ne_eq, va_upeq, va_upne, va_up2, not_true_eq_false, not_false_eq_true, or_false, false_or, or_true, true_or, and_true, true_and, and_false, false_and, or_self, and_self, if_true, if_false, ite_true, ite_false, eq_self] at hK ⊢; exact hK) | (simp (disch := omega) only [tput_eq, tput2, tput_ne, upd_eq, upd_ne, ne_eq, va_upeq, va_upne, va_up2, not_true_eq_false, not_false_eq_true, or_false, false_or, or_true, true_or, and_true, true_and, and_false, false_and, or_self, and_self, if_true, if_false, ite_true, ite_false, eq_self]; exact hK) | (simp (disch := omega) only [tput_eq, tput2, tput_ne, upd_eq, upd_ne, ne_eq, va_upeq, va_upne, va_up2, not_true_eq_false, not_false_eq_true, or_false, false_or, or_true, true_or, and_true, true_and, and_false, false_and, or_self, and_self, if_true, if_false, ite_true, ite_false, eq_self] at hK; exact hK)
    · refine wp_if_eq_t (tgt := 30) d_Rf_law_18 (by decide) (by decide) ?_
      refine wp_bipush (q := 32) d_Rf_law_30 rfl bp_m2 ?_
      refine wp_iret d_Rf_law_32 rfl (Nat.le_refl _) (Nat.le_refl _) ?_
      simp only [sp_law, inn, inb, inm, btw, inb_t hnb h12 hb1, tnt (Nat.lt_of_lt_of_le hb1 h12), hk1, not_true_eq_false, not_false_eq_true, or_false, false_or, or_true, true_or, and_true, true_and, and_false, false_and, or_self, and_self, if_true, if_false, ite_true, ite_false, eq_self] at hK
      first | exact hK | (simp (disch := omega) only [tput_eq, tput2, tput_ne, upd_eq, upd_ne, ne_eq, va_upeq, va_upne, va_up2, not_true_eq_false, not_false_eq_true, or_false, false_or, or_true, true_or, and_true, true_and, and_false, false_and, or_self, and_self, if_true, if_false, ite_true, ite_false, eq_self] at hK ⊢; exact hK) | (simp (disch := omega) only [tput_eq, tput2, tput_ne, upd_eq, upd_ne, ne_eq, va_upeq, va_upne, va_up2, not_true_eq_false, not_false_eq_true, or_false, false_or, or_true, true_or, and_true, true_and, and_false, false_and, or_self, and_self, if_true, if_false, ite_true, ite_false, eq_self]; exact hK) | (simp (disch := omega) only [tput_eq, tput2, tput_ne, upd_eq, upd_ne, ne_eq, va_upeq, va_upne, va_up2, not_true_eq_false, not_false_eq_true, or_false, false_or, or_true, true_or, and_true, true_and, and_false, false_and, or_self, and_self, if_true, if_false, ite_true, ite_false, eq_self] at hK; exact hK)
  · refine wp_if_ne_f (q := 8) (tgt := 12) d_Rf_law_5 (by decide) rfl (by decide) ?_
    refine wp_iconst (q := 9) d_Rf_law_8 rfl ic_m1 ?_
    refine wp_goto (tgt := 32) d_Rf_law_9 (by decide) ?_
    refine wp_iret d_Rf_law_32 rfl (Nat.le_refl _) (Nat.le_refl _) ?_
    simp only [sp_law, inn, inb, inm, btw, hb1, not_true_eq_false, not_false_eq_true, or_false, false_or, or_true, true_or, and_true, true_and, and_false, false_and, or_self, and_self, if_true, if_false, ite_true, ite_false, eq_self] at hK
    first | exact hK | (simp (disch := omega) only [tput_eq, tput2, tput_ne, upd_eq, upd_ne, ne_eq, va_upeq, va_upne, va_up2, not_true_eq_false, not_false_eq_true, or_false, false_or, or_true, true_or, and_true, true_and, and_false, false_and, or_self, and_self, if_true, if_false, ite_true, ite_false, eq_self] at hK ⊢; exact hK) | (simp (disch := omega) only [tput_eq, tput2, tput_ne, upd_eq, upd_ne, ne_eq, va_upeq, va_upne, va_up2, not_true_eq_false, not_false_eq_true, or_false, false_or, or_true, true_or, and_true, true_and, and_false, false_and, or_self, and_self, if_true, if_false, ite_true, ite_false, eq_self]; exact hK) | (simp (disch := omega) only [tput_eq, tput2, tput_ne, upd_eq, upd_ne, ne_eq, va_upeq, va_upne, va_up2, not_true_eq_false, not_false_eq_true, or_false, false_or, or_true, true_or, and_true, true_and, and_false, false_and, or_self, and_self, if_true, if_false, ite_true, ite_false, eq_self] at hK; exact hK)
def sp_why (c : T2) (P : Nat → Int32) (nb m : Nat) (b k : Int32) : Int32 := if ¬ inb c b then -5 else if ¬ inn k 2 then -2 else ov (lnf c P nb m (tn (P (84 + tn b))) (tn b) k)
theorem d_FG_why_0 : decode M_FG_why.2.1 0 = .ok (.aload_n 0, 1) := by decide +kernel
theorem d_FG_why_1 : decode M_FG_why.2.1 1 = .ok (.iload_n 1, 1) := by decide +kernel
theorem d_FG_why_2 : decode M_FG_why.2.1 2 = .ok (.invokevirtual 82, 3) := by decide +kernel
theorem d_FG_why_5 : decode M_FG_why.2.1 5 = .ok (.ifCond .ne 6, 3) := by decide +kernel
theorem d_FG_why_8 : decode M_FG_why.2.1 8 = .ok (.bipush (-5), 2) := by decide +kernel
theorem d_FG_why_10 : decode M_FG_why.2.1 10 = .ok (.ireturn, 1) := by decide +kernel
theorem d_FG_why_11 : decode M_FG_why.2.1 11 = .ok (.iload_n 2, 1) := by decide +kernel
theorem d_FG_why_12 : decode M_FG_why.2.1 12 = .ok (.iconst 0, 1) := by decide +kernel
theorem d_FG_why_13 : decode M_FG_why.2.1 13 = .ok (.iconst 2, 1) := by decide +kernel
theorem d_FG_why_14 : decode M_FG_why.2.1 14 = .ok (.invokestatic 61, 3) := by decide +kernel
theorem d_FG_why_17 : decode M_FG_why.2.1 17 = .ok (.ifCond .ne 6, 3) := by decide +kernel
theorem d_FG_why_20 : decode M_FG_why.2.1 20 = .ok (.bipush (-2), 2) := by decide +kernel
theorem d_FG_why_22 : decode M_FG_why.2.1 22 = .ok (.ireturn, 1) := by decide +kernel
theorem d_FG_why_23 : decode M_FG_why.2.1 23 = .ok (.aload_n 0, 1) := by decide +kernel
theorem d_FG_why_24 : decode M_FG_why.2.1 24 = .ok (.getfield 10, 3) := by decide +kernel
theorem d_FG_why_27 : decode M_FG_why.2.1 27 = .ok (.aload_n 0, 1) := by decide +kernel
theorem d_FG_why_28 : decode M_FG_why.2.1 28 = .ok (.getfield 10, 3) := by decide +kernel
theorem d_FG_why_31 : decode M_FG_why.2.1 31 = .ok (.aload_n 0, 1) := by decide +kernel
theorem d_FG_why_32 : decode M_FG_why.2.1 32 = .ok (.getfield 19, 3) := by decide +kernel
theorem d_FG_why_35 : decode M_FG_why.2.1 35 = .ok (.iload_n 1, 1) := by decide +kernel
theorem d_FG_why_36 : decode M_FG_why.2.1 36 = .ok (.invokevirtual 157, 3) := by decide +kernel
theorem d_FG_why_39 : decode M_FG_why.2.1 39 = .ok (.iload_n 2, 1) := by decide +kernel
theorem d_FG_why_40 : decode M_FG_why.2.1 40 = .ok (.invokevirtual 165, 3) := by decide +kernel
theorem d_FG_why_43 : decode M_FG_why.2.1 43 = .ok (.istore_n 3, 1) := by decide +kernel
theorem d_FG_why_44 : decode M_FG_why.2.1 44 = .ok (.iload_n 3, 1) := by decide +kernel
theorem d_FG_why_45 : decode M_FG_why.2.1 45 = .ok (.ifCond .ge 7, 3) := by decide +kernel
theorem d_FG_why_48 : decode M_FG_why.2.1 48 = .ok (.iconst (-1), 1) := by decide +kernel
theorem d_FG_why_49 : decode M_FG_why.2.1 49 = .ok (.goto 7, 3) := by decide +kernel
theorem d_FG_why_52 : decode M_FG_why.2.1 52 = .ok (.iload_n 3, 1) := by decide +kernel
theorem d_FG_why_53 : decode M_FG_why.2.1 53 = .ok (.bipush 8, 2) := by decide +kernel
theorem d_FG_why_55 : decode M_FG_why.2.1 55 = .ok (.irem, 1) := by decide +kernel
theorem d_FG_why_56 : decode M_FG_why.2.1 56 = .ok (.ireturn, 1) := by decide +kernel
set_option maxHeartbeats 4000000 in
set_option maxRecDepth 100000 in
theorem ok_FG_why {D : xD} {N : Nat} {l : Launch} {d : Nat} {c x V : T2} {P : Nat → Int32} {ln df : Nat → Option Nat} {rest : List va_E} {K : Option Value → List va_E → Prop} {b : Int32} {k : Int32} {nb : Nat} (hnb : c 32 1 = nI nb) (h12 : nb ≤ 12) (hst : ∀ b, b < 12 → isN (P (84 + b)) 6) {m : Nat} (em : P 234 = nI m) (hm : m < 14700) (hCI : CI c) (hz : ∀ b, nb ≤ b → b < 12 → P (72 + b) = nI 0) (hLOK : LOK D N c ln rest) (hK : ∀ x2 : T2, K (some (.int (sp_why c P nb m b k))) (encC D N c x2 (va_up V 0 P) ln df ++ rest)) : Ok D N l (d + 5) M_FG_why [.ref (N + 0), .int b, .int k] (encC D N c x (va_up V 0 P) ln df ++ rest) 0 0 K := by
  refine ok_of (L := [(0, _), (1, _), (2, _)]) (by decide) (Nat.le_of_ble_eq_true rfl) rfl ?_
  refine wp_aload_n (q := 1) d_FG_why_0 rfl rfl ?_
  refine wp_iload_n (q := 2) d_FG_why_1 rfl rfl ?_
  refine wp_cv1 (q := 5) lk_FG_82 (ro _ _ _) d_FG_why_2 rfl (Nat.le_of_ble_eq_true rfl) (rfl) rfl (Nat.zero_le _) (Nat.zero_le _) ?_
  refine ok_FG_isBus hnb h12 (fun b1 hb1 e => ?_) (fun hb1 => ?_)
  · subst e
    refine wp_if_ne_t (tgt := 11) d_FG_why_5 (by decide) (by decide) ?_
    refine wp_iload_n (q := 12) d_FG_why_11 rfl rfl ?_
    refine wp_iconst (q := 13) d_FG_why_12 rfl ic_0 ?_
    refine wp_iconst (q := 14) d_FG_why_13 rfl ic_2 ?_
    refine wp_cs3 (q := 17) lk_FG_61 (ro _ _ _) d_FG_why_14 rfl (Nat.le_of_ble_eq_true rfl) (Nat.zero_le _) (Nat.zero_le _) ?_
    refine ok_FG_within0 (b := 2) (by decide) (fun k1 hk1 e => ?_) (fun hk1 => ?_)
    · subst e
      refine wp_if_ne_t (tgt := 23) d_FG_why_17 (by decide) (by decide) ?_
      refine wp_aload_n (q := 24) d_FG_why_23 rfl rfl ?_
      refine wp_get (q := 27) fl_FG_10 d_FG_why_24 rfl rfl rfl ?_
      refine wp_aload_n (q := 28) d_FG_why_27 rfl rfl ?_
      refine wp_get (q := 31) fl_FG_10 d_FG_why_28 rfl rfl rfl ?_
      refine wp_aload_n (q := 32) d_FG_why_31 rfl rfl ?_
      refine wp_get (q := 35) fl_FG_19 d_FG_why_32 rfl rfl rfl ?_
      refine wp_iload_n (q := 36) d_FG_why_35 rfl rfl ?_
      refine wp_cv2 (q := 39) lk_FG_157 (ro _ _ _) d_FG_why_36 rfl (Nat.le_of_ble_eq_true rfl) (rfl) rfl (Nat.zero_le _) (Nat.zero_le _) ?_
      obtain ⟨s, hs, es⟩ := (hst b1 (by omega)).ex
      refine ok_Tn_factsOf (w := 0) h12 hz (by decide) em hm (by omega) hs es ?_
      intro F hF
      refine wp_iload_n (q := 40) d_FG_why_39 rfl rfl ?_
      refine wp_cv2 (q := 43) lk_FG_165 (ro _ _ _) d_FG_why_40 rfl (Nat.le_of_ble_eq_true rfl) (rfl) rfl (Nat.zero_le _) (Nat.zero_le _) ?_
      refine ok_Tn_linePlace (P := P) (nb := nb) (m := m) (s := s) (b := b1) (key := nI k1) hs hCI hLOK (fun f hf => by rw [tput_eq]; exact hF f hf) ?_
      rcases hln : lnf c P nb m s b1 (nI k1) with _ | i
      · dsimp only [plv]
        refine wp_istore_n (q := 44) (L2 := [(3, _), (0, _), (1, _), (2, _)]) d_FG_why_43 rfl (by decide) rfl ?_
        refine wp_iload_n (q := 45) d_FG_why_44 rfl rfl ?_
        refine wp_if_ge_f (q := 48) (tgt := 52) d_FG_why_45 (by decide) rfl (by show ¬ (0 : Int32) ≤ -1; decide) ?_
        refine wp_iconst (q := 49) d_FG_why_48 rfl ic_m1 ?_
        refine wp_goto (tgt := 56) d_FG_why_49 (by decide) ?_
        refine wp_iret d_FG_why_56 rfl (Nat.le_refl _) (Nat.le_refl _) ?_
        simp only [sp_why, inn, inb, inm, btw, inb_t hnb h12 hb1, tnt (Nat.lt_of_lt_of_le hb1 h12), inn_t hk1, tnl hk1, es, tnt hs, hln, ov, not_true_eq_false, not_false_eq_true, or_false, false_or, or_true, true_or, and_true, true_and, and_false, false_and, or_self, and_self, if_true, if_false, ite_true, ite_false, eq_self] at hK
        first | exact hK _ | (simp (disch := omega) only [tput_eq, tput2, tput_ne, upd_eq, upd_ne, ne_eq, va_upeq, va_upne, va_up2, not_true_eq_false, not_false_eq_true, or_false, false_or, or_true, true_or, and_true, true_and, and_false, false_and, or_self, and_self, if_true, if_false, ite_true, ite_false, eq_self] at hK ⊢; exact hK _) | (simp (disch := omega) only [tput_eq, tput2, tput_ne, upd_eq, upd_ne, ne_eq, va_upeq, va_upne, va_up2, not_true_eq_false, not_false_eq_true, or_false, false_or, or_true, true_or, and_true, true_and, and_false, false_and, or_self, and_self, if_true, if_false, ite_true, ite_false, eq_self]; exact hK _) | (simp (disch := omega) only [tput_eq, tput2, tput_ne, upd_eq, upd_ne, ne_eq, va_upeq, va_upne, va_up2, not_true_eq_false, not_false_eq_true, or_false, false_or, or_true, true_or, and_true, true_and, and_false, false_and, or_self, and_self, if_true, if_false, ite_true, ite_false, eq_self] at hK; exact hK _)
      · have hi8 := lnf_lt hs hCI hln
        have hc6 : tn (c 10 s) < 6 := by
          have h1 := hCI.1.2
          rcases hCI.2.1 s hs with e | e
          · rw [lnf_none e] at hln; cases hln
          · have := e.2; omega
        dsimp only [plv]
        refine wp_istore_n (q := 44) (L2 := [(3, _), (0, _), (1, _), (2, _)]) d_FG_why_43 rfl (by decide) rfl ?_
        refine wp_iload_n (q := 45) d_FG_why_44 rfl rfl ?_
        refine wp_if_ge_t (tgt := 52) d_FG_why_45 (by decide) (nI_pos' (by omega)) ?_
        refine wp_iload_n (q := 53) d_FG_why_52 rfl rfl ?_
        refine wp_bipush (q := 55) d_FG_why_53 rfl bp_8 ?_
        refine wp_iremN (q := 56) d_FG_why_55 rfl (by omega) (by decide) (by decide) ?_
        rw [show (8 * tn (c 10 s) + i) % 8 = i by omega]
        refine wp_iret d_FG_why_56 rfl (Nat.le_refl _) (Nat.le_refl _) ?_
        simp only [sp_why, inn, inb, inm, btw, inb_t hnb h12 hb1, tnt (Nat.lt_of_lt_of_le hb1 h12), inn_t hk1, tnl hk1, es, tnt hs, hln, ov, not_true_eq_false, not_false_eq_true, or_false, false_or, or_true, true_or, and_true, true_and, and_false, false_and, or_self, and_self, if_true, if_false, ite_true, ite_false, eq_self] at hK
        first | exact hK _ | (simp (disch := omega) only [tput_eq, tput2, tput_ne, upd_eq, upd_ne, ne_eq, va_upeq, va_upne, va_up2, not_true_eq_false, not_false_eq_true, or_false, false_or, or_true, true_or, and_true, true_and, and_false, false_and, or_self, and_self, if_true, if_false, ite_true, ite_false, eq_self] at hK ⊢; exact hK _) | (simp (disch := omega) only [tput_eq, tput2, tput_ne, upd_eq, upd_ne, ne_eq, va_upeq, va_upne, va_up2, not_true_eq_false, not_false_eq_true, or_false, false_or, or_true, true_or, and_true, true_and, and_false, false_and, or_self, and_self, if_true, if_false, ite_true, ite_false, eq_self]; exact hK _) | (simp (disch := omega) only [tput_eq, tput2, tput_ne, upd_eq, upd_ne, ne_eq, va_upeq, va_upne, va_up2, not_true_eq_false, not_false_eq_true, or_false, false_or, or_true, true_or, and_true, true_and, and_false, false_and, or_self, and_self, if_true, if_false, ite_true, ite_false, eq_self] at hK; exact hK _)
    · refine wp_if_ne_f (q := 20) (tgt := 23) d_FG_why_17 (by decide) rfl (by decide) ?_
      refine wp_bipush (q := 22) d_FG_why_20 rfl bp_m2 ?_
      refine wp_iret d_FG_why_22 rfl (Nat.le_refl _) (Nat.le_refl _) ?_
      simp only [sp_why, inn, inb, inm, btw, inb_t hnb h12 hb1, tnt (Nat.lt_of_lt_of_le hb1 h12), hk1, not_true_eq_false, not_false_eq_true, or_false, false_or, or_true, true_or, and_true, true_and, and_false, false_and, or_self, and_self, if_true, if_false, ite_true, ite_false, eq_self] at hK
      first | exact hK _ | (simp (disch := omega) only [tput_eq, tput2, tput_ne, upd_eq, upd_ne, ne_eq, va_upeq, va_upne, va_up2, not_true_eq_false, not_false_eq_true, or_false, false_or, or_true, true_or, and_true, true_and, and_false, false_and, or_self, and_self, if_true, if_false, ite_true, ite_false, eq_self] at hK ⊢; exact hK _) | (simp (disch := omega) only [tput_eq, tput2, tput_ne, upd_eq, upd_ne, ne_eq, va_upeq, va_upne, va_up2, not_true_eq_false, not_false_eq_true, or_false, false_or, or_true, true_or, and_true, true_and, and_false, false_and, or_self, and_self, if_true, if_false, ite_true, ite_false, eq_self]; exact hK _) | (simp (disch := omega) only [tput_eq, tput2, tput_ne, upd_eq, upd_ne, ne_eq, va_upeq, va_upne, va_up2, not_true_eq_false, not_false_eq_true, or_false, false_or, or_true, true_or, and_true, true_and, and_false, false_and, or_self, and_self, if_true, if_false, ite_true, ite_false, eq_self] at hK; exact hK _)
  · refine wp_if_ne_f (q := 8) (tgt := 11) d_FG_why_5 (by decide) rfl (by decide) ?_
    refine wp_bipush (q := 10) d_FG_why_8 rfl bp_m5 ?_
    refine wp_iret d_FG_why_10 rfl (Nat.le_refl _) (Nat.le_refl _) ?_
    simp only [sp_why, inn, inb, inm, btw, hb1, not_true_eq_false, not_false_eq_true, or_false, false_or, or_true, true_or, and_true, true_and, and_false, false_and, or_self, and_self, if_true, if_false, ite_true, ite_false, eq_self] at hK
    first | exact hK _ | (simp (disch := omega) only [tput_eq, tput2, tput_ne, upd_eq, upd_ne, ne_eq, va_upeq, va_upne, va_up2, not_true_eq_false, not_false_eq_true, or_false, false_or, or_true, true_or, and_true, true_and, and_false, false_and, or_self, and_self, if_true, if_false, ite_true, ite_false, eq_self] at hK ⊢; exact hK _) | (simp (disch := omega) only [tput_eq, tput2, tput_ne, upd_eq, upd_ne, ne_eq, va_upeq, va_upne, va_up2, not_true_eq_false, not_false_eq_true, or_false, false_or, or_true, true_or, and_true, true_and, and_false, false_and, or_self, and_self, if_true, if_false, ite_true, ite_false, eq_self]; exact hK _) | (simp (disch := omega) only [tput_eq, tput2, tput_ne, upd_eq, upd_ne, ne_eq, va_upeq, va_upne, va_up2, not_true_eq_false, not_false_eq_true, or_false, false_or, or_true, true_or, and_true, true_and, and_false, false_and, or_self, and_self, if_true, if_false, ite_true, ite_false, eq_self] at hK; exact hK _)
theorem d_Rf_why_0 : decode M_Rf_why.2.1 0 = .ok (.aload_n 0, 1) := by decide +kernel
theorem d_Rf_why_1 : decode M_Rf_why.2.1 1 = .ok (.iload_n 1, 1) := by decide +kernel
theorem d_Rf_why_2 : decode M_Rf_why.2.1 2 = .ok (.invokevirtual 167, 3) := by decide +kernel
theorem d_Rf_why_5 : decode M_Rf_why.2.1 5 = .ok (.ifCond .ne 8, 3) := by decide +kernel
theorem d_Rf_why_8 : decode M_Rf_why.2.1 8 = .ok (.bipush (-5), 2) := by decide +kernel
theorem d_Rf_why_10 : decode M_Rf_why.2.1 10 = .ok (.goto 23, 3) := by decide +kernel
theorem d_Rf_why_13 : decode M_Rf_why.2.1 13 = .ok (.iload_n 2, 1) := by decide +kernel
theorem d_Rf_why_14 : decode M_Rf_why.2.1 14 = .ok (.iconst 0, 1) := by decide +kernel
theorem d_Rf_why_15 : decode M_Rf_why.2.1 15 = .ok (.iconst 2, 1) := by decide +kernel
theorem d_Rf_why_16 : decode M_Rf_why.2.1 16 = .ok (.invokestatic 151, 3) := by decide +kernel
theorem d_Rf_why_19 : decode M_Rf_why.2.1 19 = .ok (.ifCond .eq 12, 3) := by decide +kernel
theorem d_Rf_why_22 : decode M_Rf_why.2.1 22 = .ok (.aload_n 0, 1) := by decide +kernel
theorem d_Rf_why_23 : decode M_Rf_why.2.1 23 = .ok (.iload_n 1, 1) := by decide +kernel
theorem d_Rf_why_24 : decode M_Rf_why.2.1 24 = .ok (.iload_n 2, 1) := by decide +kernel
theorem d_Rf_why_25 : decode M_Rf_why.2.1 25 = .ok (.invokevirtual 227, 3) := by decide +kernel
theorem d_Rf_why_28 : decode M_Rf_why.2.1 28 = .ok (.goto 5, 3) := by decide +kernel
theorem d_Rf_why_31 : decode M_Rf_why.2.1 31 = .ok (.bipush (-2), 2) := by decide +kernel
theorem d_Rf_why_33 : decode M_Rf_why.2.1 33 = .ok (.ireturn, 1) := by decide +kernel
set_option maxHeartbeats 4000000 in
set_option maxRecDepth 100000 in
theorem ok_Rf_why {D : xD} {N : Nat} {l : Launch} {d : Nat} {c z : T2} {P Q : Nat → Int32} {rest : List va_E} {K : Option Value → List va_E → Prop} {b : Int32} {k : Int32} {nb : Nat} (hnb : c 32 1 = nI nb) (h12 : nb ≤ 12) (hst : ∀ b, b < 12 → isN (P (84 + b)) 6) {m : Nat} (em : P 234 = nI m) (hm : m < 14700) (hCI : CI c)  (hK : K (some (.int (sp_why c P nb m b k))) (encR D N c z P Q ++ rest)) : Ok D N l (d + 5) M_Rf_why [.ref (N + 0), .int b, .int k] (encR D N c z P Q ++ rest) 0 0 K := by
  refine ok_of (L := [(0, _), (1, _), (2, _)]) (by decide) (Nat.le_of_ble_eq_true rfl) rfl ?_
  refine wp_aload_n (q := 1) d_Rf_why_0 rfl rfl ?_
  refine wp_iload_n (q := 2) d_Rf_why_1 rfl rfl ?_
  refine wp_cv1 (q := 5) lk_Rf_167 (ro _ _ _) d_Rf_why_2 rfl (Nat.le_of_ble_eq_true rfl) (rfl) rfl (Nat.zero_le _) (Nat.zero_le _) ?_
  refine ok_Rf_isBus hnb h12 (fun b1 hb1 e => ?_) (fun hb1 => ?_)
  · subst e
    refine wp_if_ne_t (tgt := 13) d_Rf_why_5 (by decide) (by decide) ?_
    refine wp_iload_n (q := 14) d_Rf_why_13 rfl rfl ?_
    refine wp_iconst (q := 15) d_Rf_why_14 rfl ic_0 ?_
    refine wp_iconst (q := 16) d_Rf_why_15 rfl ic_2 ?_
    refine wp_cs3 (q := 19) lk_Rf_151 (ro _ _ _) d_Rf_why_16 rfl (Nat.le_of_ble_eq_true rfl) (Nat.zero_le _) (Nat.zero_le _) ?_
    refine ok_Rf_in0 (b := 2) (by decide) (fun k1 hk1 e => ?_) (fun hk1 => ?_)
    · subst e
      refine wp_if_eq_f (q := 22) (tgt := 31) d_Rf_why_19 (by decide) rfl (by decide) ?_
      refine wp_aload_n (q := 23) d_Rf_why_22 rfl rfl ?_
      refine wp_iload_n (q := 24) d_Rf_why_23 rfl rfl ?_
      refine wp_iload_n (q := 25) d_Rf_why_24 rfl rfl ?_
      refine wp_cv2 (q := 28) lk_Rf_227 (ro _ _ _) d_Rf_why_25 rfl (Nat.le_of_ble_eq_true rfl) (rfl) rfl (Nat.zero_le _) (Nat.zero_le _) ?_
      obtain ⟨s, hs, es⟩ := (hst b1 (by omega)).ex
      refine ok_Rf_lineFor hnb h12 em hm (by omega) hs es hCI ?_
      refine wp_goto (tgt := 33) d_Rf_why_28 (by decide) ?_
      refine wp_iret d_Rf_why_33 rfl (Nat.le_refl _) (Nat.le_refl _) ?_
      simp only [sp_why, inn, inb, inm, btw, inb_t hnb h12 hb1, tnt (Nat.lt_of_lt_of_le hb1 h12), inn_t hk1, tnl hk1, es, tnt hs, not_true_eq_false, not_false_eq_true, or_false, false_or, or_true, true_or, and_true, true_and, and_false, false_and, or_self, and_self, if_true, if_false, ite_true, ite_false, eq_self] at hK
      first | exact hK | (simp (disch := omega) only [tput_eq, tput2, tput_ne, upd_eq, upd_ne, ne_eq, va_upeq, va_upne, va_up2, not_true_eq_false, not_false_eq_true, or_false, false_or, or_true, true_or, and_true, true_and, and_false, false_and, or_self, and_self, if_true, if_false, ite_true, ite_false, eq_self] at hK ⊢; exact hK) | (simp (disch := omega) only [tput_eq, tput2, tput_ne, upd_eq, upd_ne, ne_eq, va_upeq, va_upne, va_up2, not_true_eq_false, not_false_eq_true, or_false, false_or, or_true, true_or, and_true, true_and, and_false, false_and, or_self, and_self, if_true, if_false, ite_true, ite_false, eq_self]; exact hK) | (simp (disch := omega) only [tput_eq, tput2, tput_ne, upd_eq, upd_ne, ne_eq, va_upeq, va_upne, va_up2, not_true_eq_false, not_false_eq_true, or_false, false_or, or_true, true_or, and_true, true_and, and_false, false_and, or_self, and_self, if_true, if_false, ite_true, ite_false, eq_self] at hK; exact hK)
    · refine wp_if_eq_t (tgt := 31) d_Rf_why_19 (by decide) (by decide) ?_
      refine wp_bipush (q := 33) d_Rf_why_31 rfl bp_m2 ?_
      refine wp_iret d_Rf_why_33 rfl (Nat.le_refl _) (Nat.le_refl _) ?_
      simp only [sp_why, inn, inb, inm, btw, inb_t hnb h12 hb1, tnt (Nat.lt_of_lt_of_le hb1 h12), hk1, not_true_eq_false, not_false_eq_true, or_false, false_or, or_true, true_or, and_true, true_and, and_false, false_and, or_self, and_self, if_true, if_false, ite_true, ite_false, eq_self] at hK
      first | exact hK | (simp (disch := omega) only [tput_eq, tput2, tput_ne, upd_eq, upd_ne, ne_eq, va_upeq, va_upne, va_up2, not_true_eq_false, not_false_eq_true, or_false, false_or, or_true, true_or, and_true, true_and, and_false, false_and, or_self, and_self, if_true, if_false, ite_true, ite_false, eq_self] at hK ⊢; exact hK) | (simp (disch := omega) only [tput_eq, tput2, tput_ne, upd_eq, upd_ne, ne_eq, va_upeq, va_upne, va_up2, not_true_eq_false, not_false_eq_true, or_false, false_or, or_true, true_or, and_true, true_and, and_false, false_and, or_self, and_self, if_true, if_false, ite_true, ite_false, eq_self]; exact hK) | (simp (disch := omega) only [tput_eq, tput2, tput_ne, upd_eq, upd_ne, ne_eq, va_upeq, va_upne, va_up2, not_true_eq_false, not_false_eq_true, or_false, false_or, or_true, true_or, and_true, true_and, and_false, false_and, or_self, and_self, if_true, if_false, ite_true, ite_false, eq_self] at hK; exact hK)
  · refine wp_if_ne_f (q := 8) (tgt := 13) d_Rf_why_5 (by decide) rfl (by decide) ?_
    refine wp_bipush (q := 10) d_Rf_why_8 rfl bp_m5 ?_
    refine wp_goto (tgt := 33) d_Rf_why_10 (by decide) ?_
    refine wp_iret d_Rf_why_33 rfl (Nat.le_refl _) (Nat.le_refl _) ?_
    simp only [sp_why, inn, inb, inm, btw, hb1, not_true_eq_false, not_false_eq_true, or_false, false_or, or_true, true_or, and_true, true_and, and_false, false_and, or_self, and_self, if_true, if_false, ite_true, ite_false, eq_self] at hK
    first | exact hK | (simp (disch := omega) only [tput_eq, tput2, tput_ne, upd_eq, upd_ne, ne_eq, va_upeq, va_upne, va_up2, not_true_eq_false, not_false_eq_true, or_false, false_or, or_true, true_or, and_true, true_and, and_false, false_and, or_self, and_self, if_true, if_false, ite_true, ite_false, eq_self] at hK ⊢; exact hK) | (simp (disch := omega) only [tput_eq, tput2, tput_ne, upd_eq, upd_ne, ne_eq, va_upeq, va_upne, va_up2, not_true_eq_false, not_false_eq_true, or_false, false_or, or_true, true_or, and_true, true_and, and_false, false_and, or_self, and_self, if_true, if_false, ite_true, ite_false, eq_self]; exact hK) | (simp (disch := omega) only [tput_eq, tput2, tput_ne, upd_eq, upd_ne, ne_eq, va_upeq, va_upne, va_up2, not_true_eq_false, not_false_eq_true, or_false, false_or, or_true, true_or, and_true, true_and, and_false, false_and, or_self, and_self, if_true, if_false, ite_true, ite_false, eq_self] at hK; exact hK)
theorem d_Rf_isUnder_0 : decode M_Rf_isUnder.2.1 0 = .ok (.iload_n 1, 1) := by decide +kernel
theorem d_Rf_isUnder_1 : decode M_Rf_isUnder.2.1 1 = .ok (.ifCond .eq 28, 3) := by decide +kernel
theorem d_Rf_isUnder_4 : decode M_Rf_isUnder.2.1 4 = .ok (.iload_n 0, 1) := by decide +kernel
theorem d_Rf_isUnder_5 : decode M_Rf_isUnder.2.1 5 = .ok (.iload_n 1, 1) := by decide +kernel
theorem d_Rf_isUnder_6 : decode M_Rf_isUnder.2.1 6 = .ok (.if_icmp .eq 23, 3) := by decide +kernel
theorem d_Rf_isUnder_9 : decode M_Rf_isUnder.2.1 9 = .ok (.iload_n 1, 1) := by decide +kernel
theorem d_Rf_isUnder_10 : decode M_Rf_isUnder.2.1 10 = .ok (.iconst 2, 1) := by decide +kernel
theorem d_Rf_isUnder_11 : decode M_Rf_isUnder.2.1 11 = .ok (.if_icmp .ne 8, 3) := by decide +kernel
theorem d_Rf_isUnder_14 : decode M_Rf_isUnder.2.1 14 = .ok (.iload_n 0, 1) := by decide +kernel
theorem d_Rf_isUnder_15 : decode M_Rf_isUnder.2.1 15 = .ok (.iconst 5, 1) := by decide +kernel
theorem d_Rf_isUnder_16 : decode M_Rf_isUnder.2.1 16 = .ok (.if_icmp .eq 13, 3) := by decide +kernel
theorem d_Rf_isUnder_19 : decode M_Rf_isUnder.2.1 19 = .ok (.iload_n 1, 1) := by decide +kernel
theorem d_Rf_isUnder_20 : decode M_Rf_isUnder.2.1 20 = .ok (.iconst 3, 1) := by decide +kernel
theorem d_Rf_isUnder_21 : decode M_Rf_isUnder.2.1 21 = .ok (.if_icmp .ne 12, 3) := by decide +kernel
theorem d_Rf_isUnder_24 : decode M_Rf_isUnder.2.1 24 = .ok (.iload_n 0, 1) := by decide +kernel
theorem d_Rf_isUnder_25 : decode M_Rf_isUnder.2.1 25 = .ok (.iconst 4, 1) := by decide +kernel
theorem d_Rf_isUnder_26 : decode M_Rf_isUnder.2.1 26 = .ok (.if_icmp .ne 7, 3) := by decide +kernel
theorem d_Rf_isUnder_29 : decode M_Rf_isUnder.2.1 29 = .ok (.iconst 1, 1) := by decide +kernel
theorem d_Rf_isUnder_30 : decode M_Rf_isUnder.2.1 30 = .ok (.goto 4, 3) := by decide +kernel
theorem d_Rf_isUnder_33 : decode M_Rf_isUnder.2.1 33 = .ok (.iconst 0, 1) := by decide +kernel
theorem d_Rf_isUnder_34 : decode M_Rf_isUnder.2.1 34 = .ok (.ireturn, 1) := by decide +kernel
set_option maxHeartbeats 4000000 in
set_option maxRecDepth 100000 in
theorem ok_Rf_isUnder {D : xD} {N : Nat} {l : Launch} {d : Nat} {g : List va_E} {K : Option Value → List va_E → Prop} {kd k : Nat} (hkd : kd < 6) (hk : k ≤ 5) (hK : K (some (.int (kIs kd (nI k)))) g) : Ok D N l d M_Rf_isUnder [.int (nI kd), .int (nI k)] g 0 0 K := by
  refine ok_of (L := [(0, _), (1, _)]) (by decide) (Nat.le_of_ble_eq_true rfl) rfl ?_
  rcases (show kd = 0 ∨ kd = 1 ∨ kd = 2 ∨ kd = 3 ∨ kd = 4 ∨ kd = 5 by omega) with rfl | rfl | rfl | rfl | rfl | rfl
  · rcases (show k = 0 ∨ k = 1 ∨ k = 2 ∨ k = 3 ∨ k = 4 ∨ k = 5 by omega) with rfl | rfl | rfl | rfl | rfl | rfl
    · skip
      refine wp_iload_n (q := 1) d_Rf_isUnder_0 rfl rfl ?_
      refine wp_if_eq_t (tgt := 29) d_Rf_isUnder_1 (by decide) (by decide) ?_
      refine wp_iconst (q := 30) d_Rf_isUnder_29 rfl ic_1 ?_
      refine wp_goto (tgt := 34) d_Rf_isUnder_30 (by decide) ?_
      refine wp_zret d_Rf_isUnder_34 rfl (rfl) (Nat.le_refl _) (Nat.le_refl _) ?_
      exact (show kIs 0 (nI 0) = nI 1 by decide) ▸ hK
    · skip
      refine wp_iload_n (q := 1) d_Rf_isUnder_0 rfl rfl ?_
      refine wp_if_eq_f (q := 4) (tgt := 29) d_Rf_isUnder_1 (by decide) rfl (by decide) ?_
      refine wp_iload_n (q := 5) d_Rf_isUnder_4 rfl rfl ?_
      refine wp_iload_n (q := 6) d_Rf_isUnder_5 rfl rfl ?_
      refine wp_icmp_eq_f (q := 9) (tgt := 29) d_Rf_isUnder_6 (by decide) rfl (by decide) ?_
      refine wp_iload_n (q := 10) d_Rf_isUnder_9 rfl rfl ?_
      refine wp_iconst (q := 11) d_Rf_isUnder_10 rfl ic_2 ?_
      refine wp_icmp_ne_t (tgt := 19) d_Rf_isUnder_11 (by decide) (by decide) ?_
      refine wp_iload_n (q := 20) d_Rf_isUnder_19 rfl rfl ?_
      refine wp_iconst (q := 21) d_Rf_isUnder_20 rfl ic_3 ?_
      refine wp_icmp_ne_t (tgt := 33) d_Rf_isUnder_21 (by decide) (by decide) ?_
      refine wp_iconst (q := 34) d_Rf_isUnder_33 rfl ic_0 ?_
      refine wp_zret d_Rf_isUnder_34 rfl (rfl) (Nat.le_refl _) (Nat.le_refl _) ?_
      exact (show kIs 0 (nI 1) = nI 0 by decide) ▸ hK
    · skip
      refine wp_iload_n (q := 1) d_Rf_isUnder_0 rfl rfl ?_
      refine wp_if_eq_f (q := 4) (tgt := 29) d_Rf_isUnder_1 (by decide) rfl (by decide) ?_
      refine wp_iload_n (q := 5) d_Rf_isUnder_4 rfl rfl ?_
      refine wp_iload_n (q := 6) d_Rf_isUnder_5 rfl rfl ?_
      refine wp_icmp_eq_f (q := 9) (tgt := 29) d_Rf_isUnder_6 (by decide) rfl (by decide) ?_
      refine wp_iload_n (q := 10) d_Rf_isUnder_9 rfl rfl ?_
      refine wp_iconst (q := 11) d_Rf_isUnder_10 rfl ic_2 ?_
      refine wp_icmp_ne_f (q := 14) (tgt := 19) d_Rf_isUnder_11 (by decide) rfl (by decide) ?_
      refine wp_iload_n (q := 15) d_Rf_isUnder_14 rfl rfl ?_
      refine wp_iconst (q := 16) d_Rf_isUnder_15 rfl ic_5 ?_
      refine wp_icmp_eq_f (q := 19) (tgt := 29) d_Rf_isUnder_16 (by decide) rfl (by decide) ?_
      refine wp_iload_n (q := 20) d_Rf_isUnder_19 rfl rfl ?_
      refine wp_iconst (q := 21) d_Rf_isUnder_20 rfl ic_3 ?_
      refine wp_icmp_ne_t (tgt := 33) d_Rf_isUnder_21 (by decide) (by decide) ?_
      refine wp_iconst (q := 34) d_Rf_isUnder_33 rfl ic_0 ?_
      refine wp_zret d_Rf_isUnder_34 rfl (rfl) (Nat.le_refl _) (Nat.le_refl _) ?_
      exact (show kIs 0 (nI 2) = nI 0 by decide) ▸ hK
    · skip
      refine wp_iload_n (q := 1) d_Rf_isUnder_0 rfl rfl ?_
      refine wp_if_eq_f (q := 4) (tgt := 29) d_Rf_isUnder_1 (by decide) rfl (by decide) ?_
      refine wp_iload_n (q := 5) d_Rf_isUnder_4 rfl rfl ?_
      refine wp_iload_n (q := 6) d_Rf_isUnder_5 rfl rfl ?_
      refine wp_icmp_eq_f (q := 9) (tgt := 29) d_Rf_isUnder_6 (by decide) rfl (by decide) ?_
      refine wp_iload_n (q := 10) d_Rf_isUnder_9 rfl rfl ?_
      refine wp_iconst (q := 11) d_Rf_isUnder_10 rfl ic_2 ?_
      refine wp_icmp_ne_t (tgt := 19) d_Rf_isUnder_11 (by decide) (by decide) ?_
      refine wp_iload_n (q := 20) d_Rf_isUnder_19 rfl rfl ?_
      refine wp_iconst (q := 21) d_Rf_isUnder_20 rfl ic_3 ?_
      refine wp_icmp_ne_f (q := 24) (tgt := 33) d_Rf_isUnder_21 (by decide) rfl (by decide) ?_
      refine wp_iload_n (q := 25) d_Rf_isUnder_24 rfl rfl ?_
      refine wp_iconst (q := 26) d_Rf_isUnder_25 rfl ic_4 ?_
      refine wp_icmp_ne_t (tgt := 33) d_Rf_isUnder_26 (by decide) (by decide) ?_
      refine wp_iconst (q := 34) d_Rf_isUnder_33 rfl ic_0 ?_
      refine wp_zret d_Rf_isUnder_34 rfl (rfl) (Nat.le_refl _) (Nat.le_refl _) ?_
      exact (show kIs 0 (nI 3) = nI 0 by decide) ▸ hK
    · skip
      refine wp_iload_n (q := 1) d_Rf_isUnder_0 rfl rfl ?_
      refine wp_if_eq_f (q := 4) (tgt := 29) d_Rf_isUnder_1 (by decide) rfl (by decide) ?_
      refine wp_iload_n (q := 5) d_Rf_isUnder_4 rfl rfl ?_
      refine wp_iload_n (q := 6) d_Rf_isUnder_5 rfl rfl ?_
      refine wp_icmp_eq_f (q := 9) (tgt := 29) d_Rf_isUnder_6 (by decide) rfl (by decide) ?_
      refine wp_iload_n (q := 10) d_Rf_isUnder_9 rfl rfl ?_
      refine wp_iconst (q := 11) d_Rf_isUnder_10 rfl ic_2 ?_
      refine wp_icmp_ne_t (tgt := 19) d_Rf_isUnder_11 (by decide) (by decide) ?_
      refine wp_iload_n (q := 20) d_Rf_isUnder_19 rfl rfl ?_
      refine wp_iconst (q := 21) d_Rf_isUnder_20 rfl ic_3 ?_
      refine wp_icmp_ne_t (tgt := 33) d_Rf_isUnder_21 (by decide) (by decide) ?_
      refine wp_iconst (q := 34) d_Rf_isUnder_33 rfl ic_0 ?_
      refine wp_zret d_Rf_isUnder_34 rfl (rfl) (Nat.le_refl _) (Nat.le_refl _) ?_
      exact (show kIs 0 (nI 4) = nI 0 by decide) ▸ hK
    · skip
      refine wp_iload_n (q := 1) d_Rf_isUnder_0 rfl rfl ?_
      refine wp_if_eq_f (q := 4) (tgt := 29) d_Rf_isUnder_1 (by decide) rfl (by decide) ?_
      refine wp_iload_n (q := 5) d_Rf_isUnder_4 rfl rfl ?_
      refine wp_iload_n (q := 6) d_Rf_isUnder_5 rfl rfl ?_
      refine wp_icmp_eq_f (q := 9) (tgt := 29) d_Rf_isUnder_6 (by decide) rfl (by decide) ?_
      refine wp_iload_n (q := 10) d_Rf_isUnder_9 rfl rfl ?_
      refine wp_iconst (q := 11) d_Rf_isUnder_10 rfl ic_2 ?_
      refine wp_icmp_ne_t (tgt := 19) d_Rf_isUnder_11 (by decide) (by decide) ?_
      refine wp_iload_n (q := 20) d_Rf_isUnder_19 rfl rfl ?_
      refine wp_iconst (q := 21) d_Rf_isUnder_20 rfl ic_3 ?_
      refine wp_icmp_ne_t (tgt := 33) d_Rf_isUnder_21 (by decide) (by decide) ?_
      refine wp_iconst (q := 34) d_Rf_isUnder_33 rfl ic_0 ?_
      refine wp_zret d_Rf_isUnder_34 rfl (rfl) (Nat.le_refl _) (Nat.le_refl _) ?_
      exact (show kIs 0 (nI 5) = nI 0 by decide) ▸ hK
  · rcases (show k = 0 ∨ k = 1 ∨ k = 2 ∨ k = 3 ∨ k = 4 ∨ k = 5 by omega) with rfl | rfl | rfl | rfl | rfl | rfl
    · skip
      refine wp_iload_n (q := 1) d_Rf_isUnder_0 rfl rfl ?_
      refine wp_if_eq_t (tgt := 29) d_Rf_isUnder_1 (by decide) (by decide) ?_
      refine wp_iconst (q := 30) d_Rf_isUnder_29 rfl ic_1 ?_
      refine wp_goto (tgt := 34) d_Rf_isUnder_30 (by decide) ?_
      refine wp_zret d_Rf_isUnder_34 rfl (rfl) (Nat.le_refl _) (Nat.le_refl _) ?_
      exact (show kIs 1 (nI 0) = nI 1 by decide) ▸ hK
    · skip
      refine wp_iload_n (q := 1) d_Rf_isUnder_0 rfl rfl ?_
      refine wp_if_eq_f (q := 4) (tgt := 29) d_Rf_isUnder_1 (by decide) rfl (by decide) ?_
      refine wp_iload_n (q := 5) d_Rf_isUnder_4 rfl rfl ?_
      refine wp_iload_n (q := 6) d_Rf_isUnder_5 rfl rfl ?_
      refine wp_icmp_eq_t (tgt := 29) d_Rf_isUnder_6 (by decide) (by decide) ?_
      refine wp_iconst (q := 30) d_Rf_isUnder_29 rfl ic_1 ?_
      refine wp_goto (tgt := 34) d_Rf_isUnder_30 (by decide) ?_
      refine wp_zret d_Rf_isUnder_34 rfl (rfl) (Nat.le_refl _) (Nat.le_refl _) ?_
      exact (show kIs 1 (nI 1) = nI 1 by decide) ▸ hK
    · skip
      refine wp_iload_n (q := 1) d_Rf_isUnder_0 rfl rfl ?_
      refine wp_if_eq_f (q := 4) (tgt := 29) d_Rf_isUnder_1 (by decide) rfl (by decide) ?_
      refine wp_iload_n (q := 5) d_Rf_isUnder_4 rfl rfl ?_
      refine wp_iload_n (q := 6) d_Rf_isUnder_5 rfl rfl ?_
      refine wp_icmp_eq_f (q := 9) (tgt := 29) d_Rf_isUnder_6 (by decide) rfl (by decide) ?_
      refine wp_iload_n (q := 10) d_Rf_isUnder_9 rfl rfl ?_
      refine wp_iconst (q := 11) d_Rf_isUnder_10 rfl ic_2 ?_
      refine wp_icmp_ne_f (q := 14) (tgt := 19) d_Rf_isUnder_11 (by decide) rfl (by decide) ?_
      refine wp_iload_n (q := 15) d_Rf_isUnder_14 rfl rfl ?_
      refine wp_iconst (q := 16) d_Rf_isUnder_15 rfl ic_5 ?_
      refine wp_icmp_eq_f (q := 19) (tgt := 29) d_Rf_isUnder_16 (by decide) rfl (by decide) ?_
      refine wp_iload_n (q := 20) d_Rf_isUnder_19 rfl rfl ?_
      refine wp_iconst (q := 21) d_Rf_isUnder_20 rfl ic_3 ?_
      refine wp_icmp_ne_t (tgt := 33) d_Rf_isUnder_21 (by decide) (by decide) ?_
      refine wp_iconst (q := 34) d_Rf_isUnder_33 rfl ic_0 ?_
      refine wp_zret d_Rf_isUnder_34 rfl (rfl) (Nat.le_refl _) (Nat.le_refl _) ?_
      exact (show kIs 1 (nI 2) = nI 0 by decide) ▸ hK
    · skip
      refine wp_iload_n (q := 1) d_Rf_isUnder_0 rfl rfl ?_
      refine wp_if_eq_f (q := 4) (tgt := 29) d_Rf_isUnder_1 (by decide) rfl (by decide) ?_
      refine wp_iload_n (q := 5) d_Rf_isUnder_4 rfl rfl ?_
      refine wp_iload_n (q := 6) d_Rf_isUnder_5 rfl rfl ?_
      refine wp_icmp_eq_f (q := 9) (tgt := 29) d_Rf_isUnder_6 (by decide) rfl (by decide) ?_
      refine wp_iload_n (q := 10) d_Rf_isUnder_9 rfl rfl ?_
      refine wp_iconst (q := 11) d_Rf_isUnder_10 rfl ic_2 ?_
      refine wp_icmp_ne_t (tgt := 19) d_Rf_isUnder_11 (by decide) (by decide) ?_
      refine wp_iload_n (q := 20) d_Rf_isUnder_19 rfl rfl ?_
      refine wp_iconst (q := 21) d_Rf_isUnder_20 rfl ic_3 ?_
      refine wp_icmp_ne_f (q := 24) (tgt := 33) d_Rf_isUnder_21 (by decide) rfl (by decide) ?_
      refine wp_iload_n (q := 25) d_Rf_isUnder_24 rfl rfl ?_
      refine wp_iconst (q := 26) d_Rf_isUnder_25 rfl ic_4 ?_
      refine wp_icmp_ne_t (tgt := 33) d_Rf_isUnder_26 (by decide) (by decide) ?_
      refine wp_iconst (q := 34) d_Rf_isUnder_33 rfl ic_0 ?_
      refine wp_zret d_Rf_isUnder_34 rfl (rfl) (Nat.le_refl _) (Nat.le_refl _) ?_
      exact (show kIs 1 (nI 3) = nI 0 by decide) ▸ hK
    · skip
      refine wp_iload_n (q := 1) d_Rf_isUnder_0 rfl rfl ?_
      refine wp_if_eq_f (q := 4) (tgt := 29) d_Rf_isUnder_1 (by decide) rfl (by decide) ?_
      refine wp_iload_n (q := 5) d_Rf_isUnder_4 rfl rfl ?_
      refine wp_iload_n (q := 6) d_Rf_isUnder_5 rfl rfl ?_
      refine wp_icmp_eq_f (q := 9) (tgt := 29) d_Rf_isUnder_6 (by decide) rfl (by decide) ?_
      refine wp_iload_n (q := 10) d_Rf_isUnder_9 rfl rfl ?_
      refine wp_iconst (q := 11) d_Rf_isUnder_10 rfl ic_2 ?_
      refine wp_icmp_ne_t (tgt := 19) d_Rf_isUnder_11 (by decide) (by decide) ?_
      refine wp_iload_n (q := 20) d_Rf_isUnder_19 rfl rfl ?_
      refine wp_iconst (q := 21) d_Rf_isUnder_20 rfl ic_3 ?_
      refine wp_icmp_ne_t (tgt := 33) d_Rf_isUnder_21 (by decide) (by decide) ?_
      refine wp_iconst (q := 34) d_Rf_isUnder_33 rfl ic_0 ?_
      refine wp_zret d_Rf_isUnder_34 rfl (rfl) (Nat.le_refl _) (Nat.le_refl _) ?_
      exact (show kIs 1 (nI 4) = nI 0 by decide) ▸ hK
    · skip
      refine wp_iload_n (q := 1) d_Rf_isUnder_0 rfl rfl ?_
      refine wp_if_eq_f (q := 4) (tgt := 29) d_Rf_isUnder_1 (by decide) rfl (by decide) ?_
      refine wp_iload_n (q := 5) d_Rf_isUnder_4 rfl rfl ?_
      refine wp_iload_n (q := 6) d_Rf_isUnder_5 rfl rfl ?_
      refine wp_icmp_eq_f (q := 9) (tgt := 29) d_Rf_isUnder_6 (by decide) rfl (by decide) ?_
      refine wp_iload_n (q := 10) d_Rf_isUnder_9 rfl rfl ?_
      refine wp_iconst (q := 11) d_Rf_isUnder_10 rfl ic_2 ?_
      refine wp_icmp_ne_t (tgt := 19) d_Rf_isUnder_11 (by decide) (by decide) ?_
      refine wp_iload_n (q := 20) d_Rf_isUnder_19 rfl rfl ?_
      refine wp_iconst (q := 21) d_Rf_isUnder_20 rfl ic_3 ?_
      refine wp_icmp_ne_t (tgt := 33) d_Rf_isUnder_21 (by decide) (by decide) ?_
      refine wp_iconst (q := 34) d_Rf_isUnder_33 rfl ic_0 ?_
      refine wp_zret d_Rf_isUnder_34 rfl (rfl) (Nat.le_refl _) (Nat.le_refl _) ?_
      exact (show kIs 1 (nI 5) = nI 0 by decide) ▸ hK
  · rcases (show k = 0 ∨ k = 1 ∨ k = 2 ∨ k = 3 ∨ k = 4 ∨ k = 5 by omega) with rfl | rfl | rfl | rfl | rfl | rfl
    · skip
      refine wp_iload_n (q := 1) d_Rf_isUnder_0 rfl rfl ?_
      refine wp_if_eq_t (tgt := 29) d_Rf_isUnder_1 (by decide) (by decide) ?_
      refine wp_iconst (q := 30) d_Rf_isUnder_29 rfl ic_1 ?_
      refine wp_goto (tgt := 34) d_Rf_isUnder_30 (by decide) ?_
      refine wp_zret d_Rf_isUnder_34 rfl (rfl) (Nat.le_refl _) (Nat.le_refl _) ?_
      exact (show kIs 2 (nI 0) = nI 1 by decide) ▸ hK
    · skip
      refine wp_iload_n (q := 1) d_Rf_isUnder_0 rfl rfl ?_
      refine wp_if_eq_f (q := 4) (tgt := 29) d_Rf_isUnder_1 (by decide) rfl (by decide) ?_
      refine wp_iload_n (q := 5) d_Rf_isUnder_4 rfl rfl ?_
      refine wp_iload_n (q := 6) d_Rf_isUnder_5 rfl rfl ?_
      refine wp_icmp_eq_f (q := 9) (tgt := 29) d_Rf_isUnder_6 (by decide) rfl (by decide) ?_
      refine wp_iload_n (q := 10) d_Rf_isUnder_9 rfl rfl ?_
      refine wp_iconst (q := 11) d_Rf_isUnder_10 rfl ic_2 ?_
      refine wp_icmp_ne_t (tgt := 19) d_Rf_isUnder_11 (by decide) (by decide) ?_
      refine wp_iload_n (q := 20) d_Rf_isUnder_19 rfl rfl ?_
      refine wp_iconst (q := 21) d_Rf_isUnder_20 rfl ic_3 ?_
      refine wp_icmp_ne_t (tgt := 33) d_Rf_isUnder_21 (by decide) (by decide) ?_
      refine wp_iconst (q := 34) d_Rf_isUnder_33 rfl ic_0 ?_
      refine wp_zret d_Rf_isUnder_34 rfl (rfl) (Nat.le_refl _) (Nat.le_refl _) ?_
      exact (show kIs 2 (nI 1) = nI 0 by decide) ▸ hK
    · skip
      refine wp_iload_n (q := 1) d_Rf_isUnder_0 rfl rfl ?_
      refine wp_if_eq_f (q := 4) (tgt := 29) d_Rf_isUnder_1 (by decide) rfl (by decide) ?_
      refine wp_iload_n (q := 5) d_Rf_isUnder_4 rfl rfl ?_
      refine wp_iload_n (q := 6) d_Rf_isUnder_5 rfl rfl ?_
      refine wp_icmp_eq_t (tgt := 29) d_Rf_isUnder_6 (by decide) (by decide) ?_
      refine wp_iconst (q := 30) d_Rf_isUnder_29 rfl ic_1 ?_
      refine wp_goto (tgt := 34) d_Rf_isUnder_30 (by decide) ?_
      refine wp_zret d_Rf_isUnder_34 rfl (rfl) (Nat.le_refl _) (Nat.le_refl _) ?_
      exact (show kIs 2 (nI 2) = nI 1 by decide) ▸ hK
    · skip
      refine wp_iload_n (q := 1) d_Rf_isUnder_0 rfl rfl ?_
      refine wp_if_eq_f (q := 4) (tgt := 29) d_Rf_isUnder_1 (by decide) rfl (by decide) ?_
      refine wp_iload_n (q := 5) d_Rf_isUnder_4 rfl rfl ?_
      refine wp_iload_n (q := 6) d_Rf_isUnder_5 rfl rfl ?_
      refine wp_icmp_eq_f (q := 9) (tgt := 29) d_Rf_isUnder_6 (by decide) rfl (by decide) ?_
      refine wp_iload_n (q := 10) d_Rf_isUnder_9 rfl rfl ?_
      refine wp_iconst (q := 11) d_Rf_isUnder_10 rfl ic_2 ?_
      refine wp_icmp_ne_t (tgt := 19) d_Rf_isUnder_11 (by decide) (by decide) ?_
      refine wp_iload_n (q := 20) d_Rf_isUnder_19 rfl rfl ?_
      refine wp_iconst (q := 21) d_Rf_isUnder_20 rfl ic_3 ?_
      refine wp_icmp_ne_f (q := 24) (tgt := 33) d_Rf_isUnder_21 (by decide) rfl (by decide) ?_
      refine wp_iload_n (q := 25) d_Rf_isUnder_24 rfl rfl ?_
      refine wp_iconst (q := 26) d_Rf_isUnder_25 rfl ic_4 ?_
      refine wp_icmp_ne_t (tgt := 33) d_Rf_isUnder_26 (by decide) (by decide) ?_
      refine wp_iconst (q := 34) d_Rf_isUnder_33 rfl ic_0 ?_
      refine wp_zret d_Rf_isUnder_34 rfl (rfl) (Nat.le_refl _) (Nat.le_refl _) ?_
      exact (show kIs 2 (nI 3) = nI 0 by decide) ▸ hK
    · skip
      refine wp_iload_n (q := 1) d_Rf_isUnder_0 rfl rfl ?_
      refine wp_if_eq_f (q := 4) (tgt := 29) d_Rf_isUnder_1 (by decide) rfl (by decide) ?_
      refine wp_iload_n (q := 5) d_Rf_isUnder_4 rfl rfl ?_
      refine wp_iload_n (q := 6) d_Rf_isUnder_5 rfl rfl ?_
      refine wp_icmp_eq_f (q := 9) (tgt := 29) d_Rf_isUnder_6 (by decide) rfl (by decide) ?_
      refine wp_iload_n (q := 10) d_Rf_isUnder_9 rfl rfl ?_
      refine wp_iconst (q := 11) d_Rf_isUnder_10 rfl ic_2 ?_
      refine wp_icmp_ne_t (tgt := 19) d_Rf_isUnder_11 (by decide) (by decide) ?_
      refine wp_iload_n (q := 20) d_Rf_isUnder_19 rfl rfl ?_
      refine wp_iconst (q := 21) d_Rf_isUnder_20 rfl ic_3 ?_
      refine wp_icmp_ne_t (tgt := 33) d_Rf_isUnder_21 (by decide) (by decide) ?_
      refine wp_iconst (q := 34) d_Rf_isUnder_33 rfl ic_0 ?_
      refine wp_zret d_Rf_isUnder_34 rfl (rfl) (Nat.le_refl _) (Nat.le_refl _) ?_
      exact (show kIs 2 (nI 4) = nI 0 by decide) ▸ hK
    · skip
      refine wp_iload_n (q := 1) d_Rf_isUnder_0 rfl rfl ?_
      refine wp_if_eq_f (q := 4) (tgt := 29) d_Rf_isUnder_1 (by decide) rfl (by decide) ?_
      refine wp_iload_n (q := 5) d_Rf_isUnder_4 rfl rfl ?_
      refine wp_iload_n (q := 6) d_Rf_isUnder_5 rfl rfl ?_
      refine wp_icmp_eq_f (q := 9) (tgt := 29) d_Rf_isUnder_6 (by decide) rfl (by decide) ?_
      refine wp_iload_n (q := 10) d_Rf_isUnder_9 rfl rfl ?_
      refine wp_iconst (q := 11) d_Rf_isUnder_10 rfl ic_2 ?_
      refine wp_icmp_ne_t (tgt := 19) d_Rf_isUnder_11 (by decide) (by decide) ?_
      refine wp_iload_n (q := 20) d_Rf_isUnder_19 rfl rfl ?_
      refine wp_iconst (q := 21) d_Rf_isUnder_20 rfl ic_3 ?_
      refine wp_icmp_ne_t (tgt := 33) d_Rf_isUnder_21 (by decide) (by decide) ?_
      refine wp_iconst (q := 34) d_Rf_isUnder_33 rfl ic_0 ?_
      refine wp_zret d_Rf_isUnder_34 rfl (rfl) (Nat.le_refl _) (Nat.le_refl _) ?_
      exact (show kIs 2 (nI 5) = nI 0 by decide) ▸ hK
  · rcases (show k = 0 ∨ k = 1 ∨ k = 2 ∨ k = 3 ∨ k = 4 ∨ k = 5 by omega) with rfl | rfl | rfl | rfl | rfl | rfl
    · skip
      refine wp_iload_n (q := 1) d_Rf_isUnder_0 rfl rfl ?_
      refine wp_if_eq_t (tgt := 29) d_Rf_isUnder_1 (by decide) (by decide) ?_
      refine wp_iconst (q := 30) d_Rf_isUnder_29 rfl ic_1 ?_
      refine wp_goto (tgt := 34) d_Rf_isUnder_30 (by decide) ?_
      refine wp_zret d_Rf_isUnder_34 rfl (rfl) (Nat.le_refl _) (Nat.le_refl _) ?_
      exact (show kIs 3 (nI 0) = nI 1 by decide) ▸ hK
    · skip
      refine wp_iload_n (q := 1) d_Rf_isUnder_0 rfl rfl ?_
      refine wp_if_eq_f (q := 4) (tgt := 29) d_Rf_isUnder_1 (by decide) rfl (by decide) ?_
      refine wp_iload_n (q := 5) d_Rf_isUnder_4 rfl rfl ?_
      refine wp_iload_n (q := 6) d_Rf_isUnder_5 rfl rfl ?_
      refine wp_icmp_eq_f (q := 9) (tgt := 29) d_Rf_isUnder_6 (by decide) rfl (by decide) ?_
      refine wp_iload_n (q := 10) d_Rf_isUnder_9 rfl rfl ?_
      refine wp_iconst (q := 11) d_Rf_isUnder_10 rfl ic_2 ?_
      refine wp_icmp_ne_t (tgt := 19) d_Rf_isUnder_11 (by decide) (by decide) ?_
      refine wp_iload_n (q := 20) d_Rf_isUnder_19 rfl rfl ?_
      refine wp_iconst (q := 21) d_Rf_isUnder_20 rfl ic_3 ?_
      refine wp_icmp_ne_t (tgt := 33) d_Rf_isUnder_21 (by decide) (by decide) ?_
      refine wp_iconst (q := 34) d_Rf_isUnder_33 rfl ic_0 ?_
      refine wp_zret d_Rf_isUnder_34 rfl (rfl) (Nat.le_refl _) (Nat.le_refl _) ?_
      exact (show kIs 3 (nI 1) = nI 0 by decide) ▸ hK
    · skip
      refine wp_iload_n (q := 1) d_Rf_isUnder_0 rfl rfl ?_
      refine wp_if_eq_f (q := 4) (tgt := 29) d_Rf_isUnder_1 (by decide) rfl (by decide) ?_
      refine wp_iload_n (q := 5) d_Rf_isUnder_4 rfl rfl ?_
      refine wp_iload_n (q := 6) d_Rf_isUnder_5 rfl rfl ?_
      refine wp_icmp_eq_f (q := 9) (tgt := 29) d_Rf_isUnder_6 (by decide) rfl (by decide) ?_
      refine wp_iload_n (q := 10) d_Rf_isUnder_9 rfl rfl ?_
      refine wp_iconst (q := 11) d_Rf_isUnder_10 rfl ic_2 ?_
      refine wp_icmp_ne_f (q := 14) (tgt := 19) d_Rf_isUnder_11 (by decide) rfl (by decide) ?_
      refine wp_iload_n (q := 15) d_Rf_isUnder_14 rfl rfl ?_
      refine wp_iconst (q := 16) d_Rf_isUnder_15 rfl ic_5 ?_
      refine wp_icmp_eq_f (q := 19) (tgt := 29) d_Rf_isUnder_16 (by decide) rfl (by decide) ?_
      refine wp_iload_n (q := 20) d_Rf_isUnder_19 rfl rfl ?_
      refine wp_iconst (q := 21) d_Rf_isUnder_20 rfl ic_3 ?_
      refine wp_icmp_ne_t (tgt := 33) d_Rf_isUnder_21 (by decide) (by decide) ?_
      refine wp_iconst (q := 34) d_Rf_isUnder_33 rfl ic_0 ?_
      refine wp_zret d_Rf_isUnder_34 rfl (rfl) (Nat.le_refl _) (Nat.le_refl _) ?_
      exact (show kIs 3 (nI 2) = nI 0 by decide) ▸ hK
    · skip
      refine wp_iload_n (q := 1) d_Rf_isUnder_0 rfl rfl ?_
      refine wp_if_eq_f (q := 4) (tgt := 29) d_Rf_isUnder_1 (by decide) rfl (by decide) ?_
      refine wp_iload_n (q := 5) d_Rf_isUnder_4 rfl rfl ?_
      refine wp_iload_n (q := 6) d_Rf_isUnder_5 rfl rfl ?_
      refine wp_icmp_eq_t (tgt := 29) d_Rf_isUnder_6 (by decide) (by decide) ?_
      refine wp_iconst (q := 30) d_Rf_isUnder_29 rfl ic_1 ?_
      refine wp_goto (tgt := 34) d_Rf_isUnder_30 (by decide) ?_
      refine wp_zret d_Rf_isUnder_34 rfl (rfl) (Nat.le_refl _) (Nat.le_refl _) ?_
      exact (show kIs 3 (nI 3) = nI 1 by decide) ▸ hK
    · skip
      refine wp_iload_n (q := 1) d_Rf_isUnder_0 rfl rfl ?_
      refine wp_if_eq_f (q := 4) (tgt := 29) d_Rf_isUnder_1 (by decide) rfl (by decide) ?_
      refine wp_iload_n (q := 5) d_Rf_isUnder_4 rfl rfl ?_
      refine wp_iload_n (q := 6) d_Rf_isUnder_5 rfl rfl ?_
      refine wp_icmp_eq_f (q := 9) (tgt := 29) d_Rf_isUnder_6 (by decide) rfl (by decide) ?_
      refine wp_iload_n (q := 10) d_Rf_isUnder_9 rfl rfl ?_
      refine wp_iconst (q := 11) d_Rf_isUnder_10 rfl ic_2 ?_
      refine wp_icmp_ne_t (tgt := 19) d_Rf_isUnder_11 (by decide) (by decide) ?_
      refine wp_iload_n (q := 20) d_Rf_isUnder_19 rfl rfl ?_
      refine wp_iconst (q := 21) d_Rf_isUnder_20 rfl ic_3 ?_
      refine wp_icmp_ne_t (tgt := 33) d_Rf_isUnder_21 (by decide) (by decide) ?_
      refine wp_iconst (q := 34) d_Rf_isUnder_33 rfl ic_0 ?_
      refine wp_zret d_Rf_isUnder_34 rfl (rfl) (Nat.le_refl _) (Nat.le_refl _) ?_
      exact (show kIs 3 (nI 4) = nI 0 by decide) ▸ hK
    · skip
      refine wp_iload_n (q := 1) d_Rf_isUnder_0 rfl rfl ?_
      refine wp_if_eq_f (q := 4) (tgt := 29) d_Rf_isUnder_1 (by decide) rfl (by decide) ?_
      refine wp_iload_n (q := 5) d_Rf_isUnder_4 rfl rfl ?_
      refine wp_iload_n (q := 6) d_Rf_isUnder_5 rfl rfl ?_
      refine wp_icmp_eq_f (q := 9) (tgt := 29) d_Rf_isUnder_6 (by decide) rfl (by decide) ?_
      refine wp_iload_n (q := 10) d_Rf_isUnder_9 rfl rfl ?_
      refine wp_iconst (q := 11) d_Rf_isUnder_10 rfl ic_2 ?_
      refine wp_icmp_ne_t (tgt := 19) d_Rf_isUnder_11 (by decide) (by decide) ?_
      refine wp_iload_n (q := 20) d_Rf_isUnder_19 rfl rfl ?_
      refine wp_iconst (q := 21) d_Rf_isUnder_20 rfl ic_3 ?_
      refine wp_icmp_ne_t (tgt := 33) d_Rf_isUnder_21 (by decide) (by decide) ?_
      refine wp_iconst (q := 34) d_Rf_isUnder_33 rfl ic_0 ?_
      refine wp_zret d_Rf_isUnder_34 rfl (rfl) (Nat.le_refl _) (Nat.le_refl _) ?_
      exact (show kIs 3 (nI 5) = nI 0 by decide) ▸ hK
  · rcases (show k = 0 ∨ k = 1 ∨ k = 2 ∨ k = 3 ∨ k = 4 ∨ k = 5 by omega) with rfl | rfl | rfl | rfl | rfl | rfl
    · skip
      refine wp_iload_n (q := 1) d_Rf_isUnder_0 rfl rfl ?_
      refine wp_if_eq_t (tgt := 29) d_Rf_isUnder_1 (by decide) (by decide) ?_
      refine wp_iconst (q := 30) d_Rf_isUnder_29 rfl ic_1 ?_
      refine wp_goto (tgt := 34) d_Rf_isUnder_30 (by decide) ?_
      refine wp_zret d_Rf_isUnder_34 rfl (rfl) (Nat.le_refl _) (Nat.le_refl _) ?_
      exact (show kIs 4 (nI 0) = nI 1 by decide) ▸ hK
    · skip
      refine wp_iload_n (q := 1) d_Rf_isUnder_0 rfl rfl ?_
      refine wp_if_eq_f (q := 4) (tgt := 29) d_Rf_isUnder_1 (by decide) rfl (by decide) ?_
      refine wp_iload_n (q := 5) d_Rf_isUnder_4 rfl rfl ?_
      refine wp_iload_n (q := 6) d_Rf_isUnder_5 rfl rfl ?_
      refine wp_icmp_eq_f (q := 9) (tgt := 29) d_Rf_isUnder_6 (by decide) rfl (by decide) ?_
      refine wp_iload_n (q := 10) d_Rf_isUnder_9 rfl rfl ?_
      refine wp_iconst (q := 11) d_Rf_isUnder_10 rfl ic_2 ?_
      refine wp_icmp_ne_t (tgt := 19) d_Rf_isUnder_11 (by decide) (by decide) ?_
      refine wp_iload_n (q := 20) d_Rf_isUnder_19 rfl rfl ?_
      refine wp_iconst (q := 21) d_Rf_isUnder_20 rfl ic_3 ?_
      refine wp_icmp_ne_t (tgt := 33) d_Rf_isUnder_21 (by decide) (by decide) ?_
      refine wp_iconst (q := 34) d_Rf_isUnder_33 rfl ic_0 ?_
      refine wp_zret d_Rf_isUnder_34 rfl (rfl) (Nat.le_refl _) (Nat.le_refl _) ?_
      exact (show kIs 4 (nI 1) = nI 0 by decide) ▸ hK
    · skip
      refine wp_iload_n (q := 1) d_Rf_isUnder_0 rfl rfl ?_
      refine wp_if_eq_f (q := 4) (tgt := 29) d_Rf_isUnder_1 (by decide) rfl (by decide) ?_
      refine wp_iload_n (q := 5) d_Rf_isUnder_4 rfl rfl ?_
      refine wp_iload_n (q := 6) d_Rf_isUnder_5 rfl rfl ?_
      refine wp_icmp_eq_f (q := 9) (tgt := 29) d_Rf_isUnder_6 (by decide) rfl (by decide) ?_
      refine wp_iload_n (q := 10) d_Rf_isUnder_9 rfl rfl ?_
      refine wp_iconst (q := 11) d_Rf_isUnder_10 rfl ic_2 ?_
      refine wp_icmp_ne_f (q := 14) (tgt := 19) d_Rf_isUnder_11 (by decide) rfl (by decide) ?_
      refine wp_iload_n (q := 15) d_Rf_isUnder_14 rfl rfl ?_
      refine wp_iconst (q := 16) d_Rf_isUnder_15 rfl ic_5 ?_
      refine wp_icmp_eq_f (q := 19) (tgt := 29) d_Rf_isUnder_16 (by decide) rfl (by decide) ?_
      refine wp_iload_n (q := 20) d_Rf_isUnder_19 rfl rfl ?_
      refine wp_iconst (q := 21) d_Rf_isUnder_20 rfl ic_3 ?_
      refine wp_icmp_ne_t (tgt := 33) d_Rf_isUnder_21 (by decide) (by decide) ?_
      refine wp_iconst (q := 34) d_Rf_isUnder_33 rfl ic_0 ?_
      refine wp_zret d_Rf_isUnder_34 rfl (rfl) (Nat.le_refl _) (Nat.le_refl _) ?_
      exact (show kIs 4 (nI 2) = nI 0 by decide) ▸ hK
    · skip
      refine wp_iload_n (q := 1) d_Rf_isUnder_0 rfl rfl ?_
      refine wp_if_eq_f (q := 4) (tgt := 29) d_Rf_isUnder_1 (by decide) rfl (by decide) ?_
      refine wp_iload_n (q := 5) d_Rf_isUnder_4 rfl rfl ?_
      refine wp_iload_n (q := 6) d_Rf_isUnder_5 rfl rfl ?_
      refine wp_icmp_eq_f (q := 9) (tgt := 29) d_Rf_isUnder_6 (by decide) rfl (by decide) ?_
      refine wp_iload_n (q := 10) d_Rf_isUnder_9 rfl rfl ?_
      refine wp_iconst (q := 11) d_Rf_isUnder_10 rfl ic_2 ?_
      refine wp_icmp_ne_t (tgt := 19) d_Rf_isUnder_11 (by decide) (by decide) ?_
      refine wp_iload_n (q := 20) d_Rf_isUnder_19 rfl rfl ?_
      refine wp_iconst (q := 21) d_Rf_isUnder_20 rfl ic_3 ?_
      refine wp_icmp_ne_f (q := 24) (tgt := 33) d_Rf_isUnder_21 (by decide) rfl (by decide) ?_
      refine wp_iload_n (q := 25) d_Rf_isUnder_24 rfl rfl ?_
      refine wp_iconst (q := 26) d_Rf_isUnder_25 rfl ic_4 ?_
      refine wp_icmp_ne_f (q := 29) (tgt := 33) d_Rf_isUnder_26 (by decide) rfl (by decide) ?_
      refine wp_iconst (q := 30) d_Rf_isUnder_29 rfl ic_1 ?_
      refine wp_goto (tgt := 34) d_Rf_isUnder_30 (by decide) ?_
      refine wp_zret d_Rf_isUnder_34 rfl (rfl) (Nat.le_refl _) (Nat.le_refl _) ?_
      exact (show kIs 4 (nI 3) = nI 1 by decide) ▸ hK
    · skip
      refine wp_iload_n (q := 1) d_Rf_isUnder_0 rfl rfl ?_
      refine wp_if_eq_f (q := 4) (tgt := 29) d_Rf_isUnder_1 (by decide) rfl (by decide) ?_
      refine wp_iload_n (q := 5) d_Rf_isUnder_4 rfl rfl ?_
      refine wp_iload_n (q := 6) d_Rf_isUnder_5 rfl rfl ?_
      refine wp_icmp_eq_t (tgt := 29) d_Rf_isUnder_6 (by decide) (by decide) ?_
      refine wp_iconst (q := 30) d_Rf_isUnder_29 rfl ic_1 ?_
      refine wp_goto (tgt := 34) d_Rf_isUnder_30 (by decide) ?_
      refine wp_zret d_Rf_isUnder_34 rfl (rfl) (Nat.le_refl _) (Nat.le_refl _) ?_
      exact (show kIs 4 (nI 4) = nI 1 by decide) ▸ hK
    · skip
      refine wp_iload_n (q := 1) d_Rf_isUnder_0 rfl rfl ?_
      refine wp_if_eq_f (q := 4) (tgt := 29) d_Rf_isUnder_1 (by decide) rfl (by decide) ?_
      refine wp_iload_n (q := 5) d_Rf_isUnder_4 rfl rfl ?_
      refine wp_iload_n (q := 6) d_Rf_isUnder_5 rfl rfl ?_
      refine wp_icmp_eq_f (q := 9) (tgt := 29) d_Rf_isUnder_6 (by decide) rfl (by decide) ?_
      refine wp_iload_n (q := 10) d_Rf_isUnder_9 rfl rfl ?_
      refine wp_iconst (q := 11) d_Rf_isUnder_10 rfl ic_2 ?_
      refine wp_icmp_ne_t (tgt := 19) d_Rf_isUnder_11 (by decide) (by decide) ?_
      refine wp_iload_n (q := 20) d_Rf_isUnder_19 rfl rfl ?_
      refine wp_iconst (q := 21) d_Rf_isUnder_20 rfl ic_3 ?_
      refine wp_icmp_ne_t (tgt := 33) d_Rf_isUnder_21 (by decide) (by decide) ?_
      refine wp_iconst (q := 34) d_Rf_isUnder_33 rfl ic_0 ?_
      refine wp_zret d_Rf_isUnder_34 rfl (rfl) (Nat.le_refl _) (Nat.le_refl _) ?_
      exact (show kIs 4 (nI 5) = nI 0 by decide) ▸ hK
  · rcases (show k = 0 ∨ k = 1 ∨ k = 2 ∨ k = 3 ∨ k = 4 ∨ k = 5 by omega) with rfl | rfl | rfl | rfl | rfl | rfl
    · skip
      refine wp_iload_n (q := 1) d_Rf_isUnder_0 rfl rfl ?_
      refine wp_if_eq_t (tgt := 29) d_Rf_isUnder_1 (by decide) (by decide) ?_
      refine wp_iconst (q := 30) d_Rf_isUnder_29 rfl ic_1 ?_
      refine wp_goto (tgt := 34) d_Rf_isUnder_30 (by decide) ?_
      refine wp_zret d_Rf_isUnder_34 rfl (rfl) (Nat.le_refl _) (Nat.le_refl _) ?_
      exact (show kIs 5 (nI 0) = nI 1 by decide) ▸ hK
    · skip
      refine wp_iload_n (q := 1) d_Rf_isUnder_0 rfl rfl ?_
      refine wp_if_eq_f (q := 4) (tgt := 29) d_Rf_isUnder_1 (by decide) rfl (by decide) ?_
      refine wp_iload_n (q := 5) d_Rf_isUnder_4 rfl rfl ?_
      refine wp_iload_n (q := 6) d_Rf_isUnder_5 rfl rfl ?_
      refine wp_icmp_eq_f (q := 9) (tgt := 29) d_Rf_isUnder_6 (by decide) rfl (by decide) ?_
      refine wp_iload_n (q := 10) d_Rf_isUnder_9 rfl rfl ?_
      refine wp_iconst (q := 11) d_Rf_isUnder_10 rfl ic_2 ?_
      refine wp_icmp_ne_t (tgt := 19) d_Rf_isUnder_11 (by decide) (by decide) ?_
      refine wp_iload_n (q := 20) d_Rf_isUnder_19 rfl rfl ?_
      refine wp_iconst (q := 21) d_Rf_isUnder_20 rfl ic_3 ?_
      refine wp_icmp_ne_t (tgt := 33) d_Rf_isUnder_21 (by decide) (by decide) ?_
      refine wp_iconst (q := 34) d_Rf_isUnder_33 rfl ic_0 ?_
      refine wp_zret d_Rf_isUnder_34 rfl (rfl) (Nat.le_refl _) (Nat.le_refl _) ?_
      exact (show kIs 5 (nI 1) = nI 0 by decide) ▸ hK
    · skip
      refine wp_iload_n (q := 1) d_Rf_isUnder_0 rfl rfl ?_
      refine wp_if_eq_f (q := 4) (tgt := 29) d_Rf_isUnder_1 (by decide) rfl (by decide) ?_
      refine wp_iload_n (q := 5) d_Rf_isUnder_4 rfl rfl ?_
      refine wp_iload_n (q := 6) d_Rf_isUnder_5 rfl rfl ?_
      refine wp_icmp_eq_f (q := 9) (tgt := 29) d_Rf_isUnder_6 (by decide) rfl (by decide) ?_
      refine wp_iload_n (q := 10) d_Rf_isUnder_9 rfl rfl ?_
      refine wp_iconst (q := 11) d_Rf_isUnder_10 rfl ic_2 ?_
      refine wp_icmp_ne_f (q := 14) (tgt := 19) d_Rf_isUnder_11 (by decide) rfl (by decide) ?_
      refine wp_iload_n (q := 15) d_Rf_isUnder_14 rfl rfl ?_
      refine wp_iconst (q := 16) d_Rf_isUnder_15 rfl ic_5 ?_
      refine wp_icmp_eq_t (tgt := 29) d_Rf_isUnder_16 (by decide) (by decide) ?_
      refine wp_iconst (q := 30) d_Rf_isUnder_29 rfl ic_1 ?_
      refine wp_goto (tgt := 34) d_Rf_isUnder_30 (by decide) ?_
      refine wp_zret d_Rf_isUnder_34 rfl (rfl) (Nat.le_refl _) (Nat.le_refl _) ?_
      exact (show kIs 5 (nI 2) = nI 1 by decide) ▸ hK
    · skip
      refine wp_iload_n (q := 1) d_Rf_isUnder_0 rfl rfl ?_
      refine wp_if_eq_f (q := 4) (tgt := 29) d_Rf_isUnder_1 (by decide) rfl (by decide) ?_
      refine wp_iload_n (q := 5) d_Rf_isUnder_4 rfl rfl ?_
      refine wp_iload_n (q := 6) d_Rf_isUnder_5 rfl rfl ?_
      refine wp_icmp_eq_f (q := 9) (tgt := 29) d_Rf_isUnder_6 (by decide) rfl (by decide) ?_
      refine wp_iload_n (q := 10) d_Rf_isUnder_9 rfl rfl ?_
      refine wp_iconst (q := 11) d_Rf_isUnder_10 rfl ic_2 ?_
      refine wp_icmp_ne_t (tgt := 19) d_Rf_isUnder_11 (by decide) (by decide) ?_
      refine wp_iload_n (q := 20) d_Rf_isUnder_19 rfl rfl ?_
      refine wp_iconst (q := 21) d_Rf_isUnder_20 rfl ic_3 ?_
      refine wp_icmp_ne_f (q := 24) (tgt := 33) d_Rf_isUnder_21 (by decide) rfl (by decide) ?_
      refine wp_iload_n (q := 25) d_Rf_isUnder_24 rfl rfl ?_
      refine wp_iconst (q := 26) d_Rf_isUnder_25 rfl ic_4 ?_
      refine wp_icmp_ne_t (tgt := 33) d_Rf_isUnder_26 (by decide) (by decide) ?_
      refine wp_iconst (q := 34) d_Rf_isUnder_33 rfl ic_0 ?_
      refine wp_zret d_Rf_isUnder_34 rfl (rfl) (Nat.le_refl _) (Nat.le_refl _) ?_
      exact (show kIs 5 (nI 3) = nI 0 by decide) ▸ hK
    · skip
      refine wp_iload_n (q := 1) d_Rf_isUnder_0 rfl rfl ?_
      refine wp_if_eq_f (q := 4) (tgt := 29) d_Rf_isUnder_1 (by decide) rfl (by decide) ?_
      refine wp_iload_n (q := 5) d_Rf_isUnder_4 rfl rfl ?_
      refine wp_iload_n (q := 6) d_Rf_isUnder_5 rfl rfl ?_
      refine wp_icmp_eq_f (q := 9) (tgt := 29) d_Rf_isUnder_6 (by decide) rfl (by decide) ?_
      refine wp_iload_n (q := 10) d_Rf_isUnder_9 rfl rfl ?_
      refine wp_iconst (q := 11) d_Rf_isUnder_10 rfl ic_2 ?_
      refine wp_icmp_ne_t (tgt := 19) d_Rf_isUnder_11 (by decide) (by decide) ?_
      refine wp_iload_n (q := 20) d_Rf_isUnder_19 rfl rfl ?_
      refine wp_iconst (q := 21) d_Rf_isUnder_20 rfl ic_3 ?_
      refine wp_icmp_ne_t (tgt := 33) d_Rf_isUnder_21 (by decide) (by decide) ?_
      refine wp_iconst (q := 34) d_Rf_isUnder_33 rfl ic_0 ?_
      refine wp_zret d_Rf_isUnder_34 rfl (rfl) (Nat.le_refl _) (Nat.le_refl _) ?_
      exact (show kIs 5 (nI 4) = nI 0 by decide) ▸ hK
    · skip
      refine wp_iload_n (q := 1) d_Rf_isUnder_0 rfl rfl ?_
      refine wp_if_eq_f (q := 4) (tgt := 29) d_Rf_isUnder_1 (by decide) rfl (by decide) ?_
      refine wp_iload_n (q := 5) d_Rf_isUnder_4 rfl rfl ?_
      refine wp_iload_n (q := 6) d_Rf_isUnder_5 rfl rfl ?_
      refine wp_icmp_eq_t (tgt := 29) d_Rf_isUnder_6 (by decide) (by decide) ?_
      refine wp_iconst (q := 30) d_Rf_isUnder_29 rfl ic_1 ?_
      refine wp_goto (tgt := 34) d_Rf_isUnder_30 (by decide) ?_
      refine wp_zret d_Rf_isUnder_34 rfl (rfl) (Nat.le_refl _) (Nat.le_refl _) ?_
      exact (show kIs 5 (nI 5) = nI 1 by decide) ▸ hK
theorem kIs_01 (kd : Nat) (v : Int32) : kIs kd v = nI 1 ∨ kIs kd v = nI 0 := by
  unfold kIs
  split
  · exact Or.inl rfl
  · exact Or.inr rfl
theorem lt2 {x : Int32} (h : isN x 5) : x < nI 2 ↔ (x = 0 ∨ x = nI 1) := by
  obtain ⟨a, ha, rfl⟩ := h.ex
  rcases (show a = 0 ∨ a = 1 ∨ a = 2 ∨ a = 3 ∨ a = 4 by omega) with rfl | rfl | rfl | rfl | rfl <;> decide
def sp_taken (c : T2) (P : Nat → Int32) (b k : Int32) : Int32 := if ¬ inn k 5 then -2 else if ¬ inb c b then -11 else if P (72 + tn b) < nI 2 then -13 else if kIs (tn (P (156 + tn b))) k = nI 1 then P (156 + tn b) else -13
theorem d_FG_taken_0 : decode M_FG_taken.2.1 0 = .ok (.iload_n 2, 1) := by decide +kernel
theorem d_FG_taken_1 : decode M_FG_taken.2.1 1 = .ok (.invokestatic 120, 3) := by decide +kernel
theorem d_FG_taken_4 : decode M_FG_taken.2.1 4 = .ok (.ifCond .ne 6, 3) := by decide +kernel
theorem d_FG_taken_7 : decode M_FG_taken.2.1 7 = .ok (.bipush (-2), 2) := by decide +kernel
theorem d_FG_taken_9 : decode M_FG_taken.2.1 9 = .ok (.ireturn, 1) := by decide +kernel
theorem d_FG_taken_10 : decode M_FG_taken.2.1 10 = .ok (.aload_n 0, 1) := by decide +kernel
theorem d_FG_taken_11 : decode M_FG_taken.2.1 11 = .ok (.iload_n 1, 1) := by decide +kernel
theorem d_FG_taken_12 : decode M_FG_taken.2.1 12 = .ok (.invokevirtual 82, 3) := by decide +kernel
theorem d_FG_taken_15 : decode M_FG_taken.2.1 15 = .ok (.ifCond .ne 6, 3) := by decide +kernel
theorem d_FG_taken_18 : decode M_FG_taken.2.1 18 = .ok (.bipush (-11), 2) := by decide +kernel
theorem d_FG_taken_20 : decode M_FG_taken.2.1 20 = .ok (.ireturn, 1) := by decide +kernel
theorem d_FG_taken_21 : decode M_FG_taken.2.1 21 = .ok (.aload_n 0, 1) := by decide +kernel
theorem d_FG_taken_22 : decode M_FG_taken.2.1 22 = .ok (.getfield 19, 3) := by decide +kernel
theorem d_FG_taken_25 : decode M_FG_taken.2.1 25 = .ok (.getfield 85, 3) := by decide +kernel
theorem d_FG_taken_28 : decode M_FG_taken.2.1 28 = .ok (.iload_n 1, 1) := by decide +kernel
theorem d_FG_taken_29 : decode M_FG_taken.2.1 29 = .ok (.aaload, 1) := by decide +kernel
theorem d_FG_taken_30 : decode M_FG_taken.2.1 30 = .ok (.astore_n 3, 1) := by decide +kernel
theorem d_FG_taken_31 : decode M_FG_taken.2.1 31 = .ok (.aload_n 3, 1) := by decide +kernel
theorem d_FG_taken_32 : decode M_FG_taken.2.1 32 = .ok (.getfield 89, 3) := by decide +kernel
theorem d_FG_taken_35 : decode M_FG_taken.2.1 35 = .ok (.ifCond .eq 11, 3) := by decide +kernel
theorem d_FG_taken_38 : decode M_FG_taken.2.1 38 = .ok (.aload_n 3, 1) := by decide +kernel
theorem d_FG_taken_39 : decode M_FG_taken.2.1 39 = .ok (.getfield 89, 3) := by decide +kernel
theorem d_FG_taken_42 : decode M_FG_taken.2.1 42 = .ok (.iconst 1, 1) := by decide +kernel
theorem d_FG_taken_43 : decode M_FG_taken.2.1 43 = .ok (.if_icmp .ne 6, 3) := by decide +kernel
theorem d_FG_taken_46 : decode M_FG_taken.2.1 46 = .ok (.bipush (-13), 2) := by decide +kernel
theorem d_FG_taken_48 : decode M_FG_taken.2.1 48 = .ok (.ireturn, 1) := by decide +kernel
theorem d_FG_taken_49 : decode M_FG_taken.2.1 49 = .ok (.aload_n 0, 1) := by decide +kernel
theorem d_FG_taken_50 : decode M_FG_taken.2.1 50 = .ok (.getfield 10, 3) := by decide +kernel
theorem d_FG_taken_53 : decode M_FG_taken.2.1 53 = .ok (.getfield 206, 3) := by decide +kernel
theorem d_FG_taken_56 : decode M_FG_taken.2.1 56 = .ok (.aload_n 3, 1) := by decide +kernel
theorem d_FG_taken_57 : decode M_FG_taken.2.1 57 = .ok (.getfield 190, 3) := by decide +kernel
theorem d_FG_taken_60 : decode M_FG_taken.2.1 60 = .ok (.aaload, 1) := by decide +kernel
theorem d_FG_taken_61 : decode M_FG_taken.2.1 61 = .ok (.iload_n 2, 1) := by decide +kernel
theorem d_FG_taken_62 : decode M_FG_taken.2.1 62 = .ok (.invokevirtual 313, 3) := by decide +kernel
theorem d_FG_taken_65 : decode M_FG_taken.2.1 65 = .ok (.ifCond .eq 10, 3) := by decide +kernel
theorem d_FG_taken_68 : decode M_FG_taken.2.1 68 = .ok (.aload_n 3, 1) := by decide +kernel
theorem d_FG_taken_69 : decode M_FG_taken.2.1 69 = .ok (.getfield 190, 3) := by decide +kernel
theorem d_FG_taken_72 : decode M_FG_taken.2.1 72 = .ok (.goto 5, 3) := by decide +kernel
theorem d_FG_taken_75 : decode M_FG_taken.2.1 75 = .ok (.bipush (-13), 2) := by decide +kernel
theorem d_FG_taken_77 : decode M_FG_taken.2.1 77 = .ok (.ireturn, 1) := by decide +kernel
set_option maxHeartbeats 4000000 in
set_option maxRecDepth 100000 in
theorem ok_FG_taken {D : xD} {N : Nat} {l : Launch} {d : Nat} {c x V : T2} {P : Nat → Int32} {ln df : Nat → Option Nat} {rest : List va_E} {K : Option Value → List va_E → Prop} {b : Int32} {k : Int32} {nb : Nat} (hnb : c 32 1 = nI nb) (h12 : nb ≤ 12) (hs5 : ∀ b, b < 12 → isN (P (72 + b)) 5) (hkk : ∀ b, b < 12 → isN (P (156 + b)) 6)  (hK : K (some (.int (sp_taken c P b k))) (encC D N c x (va_up V 0 P) ln df ++ rest)) : Ok D N l (d + 4) M_FG_taken [.ref (N + 0), .int b, .int k] (encC D N c x (va_up V 0 P) ln df ++ rest) 0 0 K := by
  refine ok_of (L := [(0, _), (1, _), (2, _)]) (by decide) (Nat.le_of_ble_eq_true rfl) rfl ?_
  refine wp_iload_n (q := 1) d_FG_taken_0 rfl rfl ?_
  refine wp_cs1 (q := 4) lk_FG_120 (ro _ _ _) d_FG_taken_1 rfl (Nat.le_of_ble_eq_true rfl) (Nat.zero_le _) (Nat.zero_le _) ?_
  refine ok_FG_isKind (fun k1 hk1 e => ?_) (fun hk1 => ?_)
  · subst e
    refine wp_if_ne_t (tgt := 10) d_FG_taken_4 (by decide) (by decide) ?_
    refine wp_aload_n (q := 11) d_FG_taken_10 rfl rfl ?_
    refine wp_iload_n (q := 12) d_FG_taken_11 rfl rfl ?_
    refine wp_cv1 (q := 15) lk_FG_82 (ro _ _ _) d_FG_taken_12 rfl (Nat.le_of_ble_eq_true rfl) (rfl) rfl (Nat.zero_le _) (Nat.zero_le _) ?_
    refine ok_FG_isBus hnb h12 (fun b1 hb1 e => ?_) (fun hb1 => ?_)
    · subst e
      refine wp_if_ne_t (tgt := 21) d_FG_taken_15 (by decide) (by decide) ?_
      refine wp_aload_n (q := 22) d_FG_taken_21 rfl rfl ?_
      refine wp_get (q := 25) fl_FG_19 d_FG_taken_22 rfl rfl rfl ?_
      refine wp_get (q := 28) fl_FG_85 d_FG_taken_25 rfl (rdO (w := 0) (by decide)) rfl ?_
      refine wp_iload_n (q := 29) d_FG_taken_28 rfl rfl ?_
      refine wp_aldR (q := 30) d_FG_taken_29 rfl (rd4 (w := 0) (by decide)) (by omega) (by decide) (rowsW_at (by omega)) ?_
      refine wp_astore_n (q := 31) (L2 := [(3, _), (0, _), (1, _), (2, _)]) d_FG_taken_30 rfl (by decide) rfl ?_
      refine wp_aload_n (q := 32) d_FG_taken_31 rfl rfl ?_
      refine wp_get (q := 35) fl_FG_89 d_FG_taken_32 rfl (rdR (w := 0) (by decide) (by omega)) rfl ?_
      refine wp_if_eq (q := 38) (tgt := 46) d_FG_taken_35 (by decide) rfl (fun hc_35 => ?_) (fun hc_35 => ?_)
      · refine wp_bipush (q := 48) d_FG_taken_46 rfl bp_m13 ?_
        refine wp_iret d_FG_taken_48 rfl (Nat.le_refl _) (Nat.le_refl _) ?_
        simp only [sp_taken, inn, inb, inm, btw, inn_t hk1, tnl hk1, inb_t hnb h12 hb1, tnt (Nat.lt_of_lt_of_le hb1 h12), lt2 (hs5 b1 (by omega)), hc_35, not_true_eq_false, not_false_eq_true, or_false, false_or, or_true, true_or, and_true, true_and, and_false, false_and, or_self, and_self, if_true, if_false, ite_true, ite_false, eq_self] at hK
        first | exact hK | (simp (disch := omega) only [tput_eq, tput2, tput_ne, upd_eq, upd_ne, ne_eq, va_upeq, va_upne, va_up2, not_true_eq_false, not_false_eq_true, or_false, false_or, or_true, true_or, and_true, true_and, and_false, false_and, or_self, and_self, if_true, if_false, ite_true, ite_false, eq_self] at hK ⊢; exact hK) | (simp (disch := omega) only [tput_eq, tput2, tput_ne, upd_eq, upd_ne, ne_eq, va_upeq, va_upne, va_up2, not_true_eq_false, not_false_eq_true, or_false, false_or, or_true, true_or, and_true, true_and, and_false, false_and, or_self, and_self, if_true, if_false, ite_true, ite_false, eq_self]; exact hK) | (simp (disch := omega) only [tput_eq, tput2, tput_ne, upd_eq, upd_ne, ne_eq, va_upeq, va_upne, va_up2, not_true_eq_false, not_false_eq_true, or_false, false_or, or_true, true_or, and_true, true_and, and_false, false_and, or_self, and_self, if_true, if_false, ite_true, ite_false, eq_self] at hK; exact hK)
      · refine wp_aload_n (q := 39) d_FG_taken_38 rfl rfl ?_
        refine wp_get (q := 42) fl_FG_89 d_FG_taken_39 rfl (rdR (w := 0) (by decide) (by omega)) rfl ?_
        refine wp_iconst (q := 43) d_FG_taken_42 rfl ic_1 ?_
        refine wp_icmp_ne (q := 46) (tgt := 49) d_FG_taken_43 (by decide) rfl (fun hc_43 => ?_) (fun hc_43 => ?_)
        · refine wp_aload_n (q := 50) d_FG_taken_49 rfl rfl ?_
          refine wp_get (q := 53) fl_FG_10 d_FG_taken_50 rfl rfl rfl ?_
          refine wp_get (q := 56) fl_FG_206 d_FG_taken_53 rfl rfl rfl ?_
          refine wp_aload_n (q := 57) d_FG_taken_56 rfl rfl ?_
          refine wp_get (q := 60) fl_FG_190 d_FG_taken_57 rfl (rdR (w := 0) (by decide) (by omega)) rfl ?_
          obtain ⟨kd, hkd, ek⟩ := (hkk b1 (by omega)).ex
          rw [ek]
          refine wp_aldK (q := 61) d_FG_taken_60 rfl (rfl) (by omega) (by decide) (rows_at (by omega)) ?_
          refine wp_iload_n (q := 62) d_FG_taken_61 rfl rfl ?_
          refine wp_v_isOf (q := 65) (k := kd) (v := nI k1) lm_FG_313 (ro _ _ _) d_FG_taken_62 rfl (Nat.le_of_ble_eq_true rfl) hkd (rdK hkd) (Nat.zero_le _) (Nat.zero_le _) ?_
          rcases kIs_01 kd (nI k1) with hi | hi <;> rw [hi]
          · refine wp_if_eq_f (q := 68) (tgt := 75) d_FG_taken_65 (by decide) rfl (by decide) ?_
            refine wp_aload_n (q := 69) d_FG_taken_68 rfl rfl ?_
            refine wp_get (q := 72) fl_FG_190 d_FG_taken_69 rfl (rdR (w := 0) (by decide) (by omega)) rfl ?_
            refine wp_goto (tgt := 77) d_FG_taken_72 (by decide) ?_
            rw [ek]
            refine wp_iret d_FG_taken_77 rfl (Nat.le_refl _) (Nat.le_refl _) ?_
            simp only [sp_taken, inn, inb, inm, btw, inn_t hk1, tnl hk1, inb_t hnb h12 hb1, tnt (Nat.lt_of_lt_of_le hb1 h12), lt2 (hs5 b1 (by omega)), hc_35, hc_43, ek, tnt hkd, hi, (show ¬ nI 0 = nI 1 by decide), not_true_eq_false, not_false_eq_true, or_false, false_or, or_true, true_or, and_true, true_and, and_false, false_and, or_self, and_self, if_true, if_false, ite_true, ite_false, eq_self] at hK
            first | exact hK | (simp (disch := omega) only [tput_eq, tput2, tput_ne, upd_eq, upd_ne, ne_eq, va_upeq, va_upne, va_up2, not_true_eq_false, not_false_eq_true, or_false, false_or, or_true, true_or, and_true, true_and, and_false, false_and, or_self, and_self, if_true, if_false, ite_true, ite_false, eq_self] at hK ⊢; exact hK) | (simp (disch := omega) only [tput_eq, tput2, tput_ne, upd_eq, upd_ne, ne_eq, va_upeq, va_upne, va_up2, not_true_eq_false, not_false_eq_true, or_false, false_or, or_true, true_or, and_true, true_and, and_false, false_and, or_self, and_self, if_true, if_false, ite_true, ite_false, eq_self]; exact hK) | (simp (disch := omega) only [tput_eq, tput2, tput_ne, upd_eq, upd_ne, ne_eq, va_upeq, va_upne, va_up2, not_true_eq_false, not_false_eq_true, or_false, false_or, or_true, true_or, and_true, true_and, and_false, false_and, or_self, and_self, if_true, if_false, ite_true, ite_false, eq_self] at hK; exact hK)
          · refine wp_if_eq_t (tgt := 75) d_FG_taken_65 (by decide) (by decide) ?_
            refine wp_bipush (q := 77) d_FG_taken_75 rfl bp_m13 ?_
            refine wp_iret d_FG_taken_77 rfl (Nat.le_refl _) (Nat.le_refl _) ?_
            simp only [sp_taken, inn, inb, inm, btw, inn_t hk1, tnl hk1, inb_t hnb h12 hb1, tnt (Nat.lt_of_lt_of_le hb1 h12), lt2 (hs5 b1 (by omega)), hc_35, hc_43, ek, tnt hkd, hi, (show ¬ nI 0 = nI 1 by decide), not_true_eq_false, not_false_eq_true, or_false, false_or, or_true, true_or, and_true, true_and, and_false, false_and, or_self, and_self, if_true, if_false, ite_true, ite_false, eq_self] at hK
            first | exact hK | (simp (disch := omega) only [tput_eq, tput2, tput_ne, upd_eq, upd_ne, ne_eq, va_upeq, va_upne, va_up2, not_true_eq_false, not_false_eq_true, or_false, false_or, or_true, true_or, and_true, true_and, and_false, false_and, or_self, and_self, if_true, if_false, ite_true, ite_false, eq_self] at hK ⊢; exact hK) | (simp (disch := omega) only [tput_eq, tput2, tput_ne, upd_eq, upd_ne, ne_eq, va_upeq, va_upne, va_up2, not_true_eq_false, not_false_eq_true, or_false, false_or, or_true, true_or, and_true, true_and, and_false, false_and, or_self, and_self, if_true, if_false, ite_true, ite_false, eq_self]; exact hK) | (simp (disch := omega) only [tput_eq, tput2, tput_ne, upd_eq, upd_ne, ne_eq, va_upeq, va_upne, va_up2, not_true_eq_false, not_false_eq_true, or_false, false_or, or_true, true_or, and_true, true_and, and_false, false_and, or_self, and_self, if_true, if_false, ite_true, ite_false, eq_self] at hK; exact hK)
        · refine wp_bipush (q := 48) d_FG_taken_46 rfl bp_m13 ?_
          refine wp_iret d_FG_taken_48 rfl (Nat.le_refl _) (Nat.le_refl _) ?_
          simp only [sp_taken, inn, inb, inm, btw, inn_t hk1, tnl hk1, inb_t hnb h12 hb1, tnt (Nat.lt_of_lt_of_le hb1 h12), lt2 (hs5 b1 (by omega)), hc_35, hc_43, not_true_eq_false, not_false_eq_true, or_false, false_or, or_true, true_or, and_true, true_and, and_false, false_and, or_self, and_self, if_true, if_false, ite_true, ite_false, eq_self] at hK
          first | exact hK | (simp (disch := omega) only [tput_eq, tput2, tput_ne, upd_eq, upd_ne, ne_eq, va_upeq, va_upne, va_up2, not_true_eq_false, not_false_eq_true, or_false, false_or, or_true, true_or, and_true, true_and, and_false, false_and, or_self, and_self, if_true, if_false, ite_true, ite_false, eq_self] at hK ⊢; exact hK) | (simp (disch := omega) only [tput_eq, tput2, tput_ne, upd_eq, upd_ne, ne_eq, va_upeq, va_upne, va_up2, not_true_eq_false, not_false_eq_true, or_false, false_or, or_true, true_or, and_true, true_and, and_false, false_and, or_self, and_self, if_true, if_false, ite_true, ite_false, eq_self]; exact hK) | (simp (disch := omega) only [tput_eq, tput2, tput_ne, upd_eq, upd_ne, ne_eq, va_upeq, va_upne, va_up2, not_true_eq_false, not_false_eq_true, or_false, false_or, or_true, true_or, and_true, true_and, and_false, false_and, or_self, and_self, if_true, if_false, ite_true, ite_false, eq_self] at hK; exact hK)
    · refine wp_if_ne_f (q := 18) (tgt := 21) d_FG_taken_15 (by decide) rfl (by decide) ?_
      refine wp_bipush (q := 20) d_FG_taken_18 rfl bp_m11 ?_
      refine wp_iret d_FG_taken_20 rfl (Nat.le_refl _) (Nat.le_refl _) ?_
      simp only [sp_taken, inn, inb, inm, btw, inn_t hk1, tnl hk1, hb1, not_true_eq_false, not_false_eq_true, or_false, false_or, or_true, true_or, and_true, true_and, and_false, false_and, or_self, and_self, if_true, if_false, ite_true, ite_false, eq_self] at hK
      first | exact hK | (simp (disch := omega) only [tput_eq, tput2, tput_ne, upd_eq, upd_ne, ne_eq, va_upeq, va_upne, va_up2, not_true_eq_false, not_false_eq_true, or_false, false_or, or_true, true_or, and_true, true_and, and_false, false_and, or_self, and_self, if_true, if_false, ite_true, ite_false, eq_self] at hK ⊢; exact hK) | (simp (disch := omega) only [tput_eq, tput2, tput_ne, upd_eq, upd_ne, ne_eq, va_upeq, va_upne, va_up2, not_true_eq_false, not_false_eq_true, or_false, false_or, or_true, true_or, and_true, true_and, and_false, false_and, or_self, and_self, if_true, if_false, ite_true, ite_false, eq_self]; exact hK) | (simp (disch := omega) only [tput_eq, tput2, tput_ne, upd_eq, upd_ne, ne_eq, va_upeq, va_upne, va_up2, not_true_eq_false, not_false_eq_true, or_false, false_or, or_true, true_or, and_true, true_and, and_false, false_and, or_self, and_self, if_true, if_false, ite_true, ite_false, eq_self] at hK; exact hK)
  · refine wp_if_ne_f (q := 7) (tgt := 10) d_FG_taken_4 (by decide) rfl (by decide) ?_
    refine wp_bipush (q := 9) d_FG_taken_7 rfl bp_m2 ?_
    refine wp_iret d_FG_taken_9 rfl (Nat.le_refl _) (Nat.le_refl _) ?_
    simp only [sp_taken, inn, inb, inm, btw, hk1, not_true_eq_false, not_false_eq_true, or_false, false_or, or_true, true_or, and_true, true_and, and_false, false_and, or_self, and_self, if_true, if_false, ite_true, ite_false, eq_self] at hK
    first | exact hK | (simp (disch := omega) only [tput_eq, tput2, tput_ne, upd_eq, upd_ne, ne_eq, va_upeq, va_upne, va_up2, not_true_eq_false, not_false_eq_true, or_false, false_or, or_true, true_or, and_true, true_and, and_false, false_and, or_self, and_self, if_true, if_false, ite_true, ite_false, eq_self] at hK ⊢; exact hK) | (simp (disch := omega) only [tput_eq, tput2, tput_ne, upd_eq, upd_ne, ne_eq, va_upeq, va_upne, va_up2, not_true_eq_false, not_false_eq_true, or_false, false_or, or_true, true_or, and_true, true_and, and_false, false_and, or_self, and_self, if_true, if_false, ite_true, ite_false, eq_self]; exact hK) | (simp (disch := omega) only [tput_eq, tput2, tput_ne, upd_eq, upd_ne, ne_eq, va_upeq, va_upne, va_up2, not_true_eq_false, not_false_eq_true, or_false, false_or, or_true, true_or, and_true, true_and, and_false, false_and, or_self, and_self, if_true, if_false, ite_true, ite_false, eq_self] at hK; exact hK)
theorem d_Rf_taken_0 : decode M_Rf_taken.2.1 0 = .ok (.iload_n 2, 1) := by decide +kernel
theorem d_Rf_taken_1 : decode M_Rf_taken.2.1 1 = .ok (.iconst 0, 1) := by decide +kernel
theorem d_Rf_taken_2 : decode M_Rf_taken.2.1 2 = .ok (.iconst 5, 1) := by decide +kernel
theorem d_Rf_taken_3 : decode M_Rf_taken.2.1 3 = .ok (.invokestatic 151, 3) := by decide +kernel
theorem d_Rf_taken_6 : decode M_Rf_taken.2.1 6 = .ok (.ifCond .ne 6, 3) := by decide +kernel
theorem d_Rf_taken_9 : decode M_Rf_taken.2.1 9 = .ok (.bipush (-2), 2) := by decide +kernel
theorem d_Rf_taken_11 : decode M_Rf_taken.2.1 11 = .ok (.ireturn, 1) := by decide +kernel
theorem d_Rf_taken_12 : decode M_Rf_taken.2.1 12 = .ok (.aload_n 0, 1) := by decide +kernel
theorem d_Rf_taken_13 : decode M_Rf_taken.2.1 13 = .ok (.iload_n 1, 1) := by decide +kernel
theorem d_Rf_taken_14 : decode M_Rf_taken.2.1 14 = .ok (.invokevirtual 167, 3) := by decide +kernel
theorem d_Rf_taken_17 : decode M_Rf_taken.2.1 17 = .ok (.ifCond .ne 6, 3) := by decide +kernel
theorem d_Rf_taken_20 : decode M_Rf_taken.2.1 20 = .ok (.bipush (-11), 2) := by decide +kernel
theorem d_Rf_taken_22 : decode M_Rf_taken.2.1 22 = .ok (.ireturn, 1) := by decide +kernel
theorem d_Rf_taken_23 : decode M_Rf_taken.2.1 23 = .ok (.aload_n 0, 1) := by decide +kernel
theorem d_Rf_taken_24 : decode M_Rf_taken.2.1 24 = .ok (.getfield 7, 3) := by decide +kernel
theorem d_Rf_taken_27 : decode M_Rf_taken.2.1 27 = .ok (.bipush 72, 2) := by decide +kernel
theorem d_Rf_taken_29 : decode M_Rf_taken.2.1 29 = .ok (.iload_n 1, 1) := by decide +kernel
theorem d_Rf_taken_30 : decode M_Rf_taken.2.1 30 = .ok (.iadd, 1) := by decide +kernel
theorem d_Rf_taken_31 : decode M_Rf_taken.2.1 31 = .ok (.iaload, 1) := by decide +kernel
theorem d_Rf_taken_32 : decode M_Rf_taken.2.1 32 = .ok (.iconst 2, 1) := by decide +kernel
theorem d_Rf_taken_33 : decode M_Rf_taken.2.1 33 = .ok (.if_icmp .lt 33, 3) := by decide +kernel
theorem d_Rf_taken_36 : decode M_Rf_taken.2.1 36 = .ok (.aload_n 0, 1) := by decide +kernel
theorem d_Rf_taken_37 : decode M_Rf_taken.2.1 37 = .ok (.getfield 7, 3) := by decide +kernel
theorem d_Rf_taken_40 : decode M_Rf_taken.2.1 40 = .ok (.sipush 156, 3) := by decide +kernel
theorem d_Rf_taken_43 : decode M_Rf_taken.2.1 43 = .ok (.iload_n 1, 1) := by decide +kernel
theorem d_Rf_taken_44 : decode M_Rf_taken.2.1 44 = .ok (.iadd, 1) := by decide +kernel
theorem d_Rf_taken_45 : decode M_Rf_taken.2.1 45 = .ok (.iaload, 1) := by decide +kernel
theorem d_Rf_taken_46 : decode M_Rf_taken.2.1 46 = .ok (.iload_n 2, 1) := by decide +kernel
theorem d_Rf_taken_47 : decode M_Rf_taken.2.1 47 = .ok (.invokestatic 314, 3) := by decide +kernel
theorem d_Rf_taken_50 : decode M_Rf_taken.2.1 50 = .ok (.ifCond .eq 16, 3) := by decide +kernel
theorem d_Rf_taken_53 : decode M_Rf_taken.2.1 53 = .ok (.aload_n 0, 1) := by decide +kernel
theorem d_Rf_taken_54 : decode M_Rf_taken.2.1 54 = .ok (.getfield 7, 3) := by decide +kernel
theorem d_Rf_taken_57 : decode M_Rf_taken.2.1 57 = .ok (.sipush 156, 3) := by decide +kernel
theorem d_Rf_taken_60 : decode M_Rf_taken.2.1 60 = .ok (.iload_n 1, 1) := by decide +kernel
theorem d_Rf_taken_61 : decode M_Rf_taken.2.1 61 = .ok (.iadd, 1) := by decide +kernel
theorem d_Rf_taken_62 : decode M_Rf_taken.2.1 62 = .ok (.iaload, 1) := by decide +kernel
theorem d_Rf_taken_63 : decode M_Rf_taken.2.1 63 = .ok (.goto 5, 3) := by decide +kernel
theorem d_Rf_taken_66 : decode M_Rf_taken.2.1 66 = .ok (.bipush (-13), 2) := by decide +kernel
theorem d_Rf_taken_68 : decode M_Rf_taken.2.1 68 = .ok (.ireturn, 1) := by decide +kernel
set_option maxHeartbeats 4000000 in
set_option maxRecDepth 100000 in
theorem ok_Rf_taken {D : xD} {N : Nat} {l : Launch} {d : Nat} {c z : T2} {P Q : Nat → Int32} {rest : List va_E} {K : Option Value → List va_E → Prop} {b : Int32} {k : Int32} {nb : Nat} (hnb : c 32 1 = nI nb) (h12 : nb ≤ 12) (hs5 : ∀ b, b < 12 → isN (P (72 + b)) 5) (hkk : ∀ b, b < 12 → isN (P (156 + b)) 6)  (hK : K (some (.int (sp_taken c P b k))) (encR D N c z P Q ++ rest)) : Ok D N l (d + 4) M_Rf_taken [.ref (N + 0), .int b, .int k] (encR D N c z P Q ++ rest) 0 0 K := by
  refine ok_of (L := [(0, _), (1, _), (2, _)]) (by decide) (Nat.le_of_ble_eq_true rfl) rfl ?_
  refine wp_iload_n (q := 1) d_Rf_taken_0 rfl rfl ?_
  refine wp_iconst (q := 2) d_Rf_taken_1 rfl ic_0 ?_
  refine wp_iconst (q := 3) d_Rf_taken_2 rfl ic_5 ?_
  refine wp_cs3 (q := 6) lk_Rf_151 (ro _ _ _) d_Rf_taken_3 rfl (Nat.le_of_ble_eq_true rfl) (Nat.zero_le _) (Nat.zero_le _) ?_
  refine ok_Rf_in0 (b := 5) (by decide) (fun k1 hk1 e => ?_) (fun hk1 => ?_)
  · subst e
    refine wp_if_ne_t (tgt := 12) d_Rf_taken_6 (by decide) (by decide) ?_
    refine wp_aload_n (q := 13) d_Rf_taken_12 rfl rfl ?_
    refine wp_iload_n (q := 14) d_Rf_taken_13 rfl rfl ?_
    refine wp_cv1 (q := 17) lk_Rf_167 (ro _ _ _) d_Rf_taken_14 rfl (Nat.le_of_ble_eq_true rfl) (rfl) rfl (Nat.zero_le _) (Nat.zero_le _) ?_
    refine ok_Rf_isBus hnb h12 (fun b1 hb1 e => ?_) (fun hb1 => ?_)
    · subst e
      refine wp_if_ne_t (tgt := 23) d_Rf_taken_17 (by decide) (by decide) ?_
      refine wp_aload_n (q := 24) d_Rf_taken_23 rfl rfl ?_
      refine wp_get (q := 27) fl_Rf_7 d_Rf_taken_24 rfl rfl rfl ?_
      refine wp_bipush (q := 29) d_Rf_taken_27 rfl bp_72 ?_
      refine wp_iload_n (q := 30) d_Rf_taken_29 rfl rfl ?_
      first | refine wp_iaddN (q := 31) d_Rf_taken_30 rfl ?_ | refine wp_iadd (q := 31) d_Rf_taken_30 rfl ?_
      refine wp_iald (q := 32) d_Rf_taken_31 rfl (rfl) (by omega) (by decide) ?_
      refine wp_iconst (q := 33) d_Rf_taken_32 rfl ic_2 ?_
      refine wp_icmp_lt (q := 36) (tgt := 66) d_Rf_taken_33 (by decide) rfl (fun hc_33 => ?_) (fun hc_33 => ?_)
      · refine wp_bipush (q := 68) d_Rf_taken_66 rfl bp_m13 ?_
        refine wp_iret d_Rf_taken_68 rfl (Nat.le_refl _) (Nat.le_refl _) ?_
        simp only [sp_taken, inn, inb, inm, btw, inn_t hk1, tnl hk1, inb_t hnb h12 hb1, tnt (Nat.lt_of_lt_of_le hb1 h12), hc_33, not_true_eq_false, not_false_eq_true, or_false, false_or, or_true, true_or, and_true, true_and, and_false, false_and, or_self, and_self, if_true, if_false, ite_true, ite_false, eq_self] at hK
        first | exact hK | (simp (disch := omega) only [tput_eq, tput2, tput_ne, upd_eq, upd_ne, ne_eq, va_upeq, va_upne, va_up2, not_true_eq_false, not_false_eq_true, or_false, false_or, or_true, true_or, and_true, true_and, and_false, false_and, or_self, and_self, if_true, if_false, ite_true, ite_false, eq_self] at hK ⊢; exact hK) | (simp (disch := omega) only [tput_eq, tput2, tput_ne, upd_eq, upd_ne, ne_eq, va_upeq, va_upne, va_up2, not_true_eq_false, not_false_eq_true, or_false, false_or, or_true, true_or, and_true, true_and, and_false, false_and, or_self, and_self, if_true, if_false, ite_true, ite_false, eq_self]; exact hK) | (simp (disch := omega) only [tput_eq, tput2, tput_ne, upd_eq, upd_ne, ne_eq, va_upeq, va_upne, va_up2, not_true_eq_false, not_false_eq_true, or_false, false_or, or_true, true_or, and_true, true_and, and_false, false_and, or_self, and_self, if_true, if_false, ite_true, ite_false, eq_self] at hK; exact hK)
      · refine wp_aload_n (q := 37) d_Rf_taken_36 rfl rfl ?_
        refine wp_get (q := 40) fl_Rf_7 d_Rf_taken_37 rfl rfl rfl ?_
        refine wp_sipush (q := 43) d_Rf_taken_40 rfl sp_156 ?_
        refine wp_iload_n (q := 44) d_Rf_taken_43 rfl rfl ?_
        first | refine wp_iaddN (q := 45) d_Rf_taken_44 rfl ?_ | refine wp_iadd (q := 45) d_Rf_taken_44 rfl ?_
        refine wp_iald (q := 46) d_Rf_taken_45 rfl (rfl) (by omega) (by decide) ?_
        refine wp_iload_n (q := 47) d_Rf_taken_46 rfl rfl ?_
        obtain ⟨kd, hkd, ek⟩ := (hkk b1 (by omega)).ex
        rw [ek]
        refine wp_cs2 (q := 50) lk_Rf_314 (ro _ _ _) d_Rf_taken_47 rfl (Nat.le_of_ble_eq_true rfl) (Nat.zero_le _) (Nat.zero_le _) ?_
        refine ok_Rf_isUnder hkd hk1 ?_
        rcases kIs_01 kd (nI k1) with hi | hi <;> rw [hi]
        · refine wp_if_eq_f (q := 53) (tgt := 66) d_Rf_taken_50 (by decide) rfl (by decide) ?_
          refine wp_aload_n (q := 54) d_Rf_taken_53 rfl rfl ?_
          refine wp_get (q := 57) fl_Rf_7 d_Rf_taken_54 rfl rfl rfl ?_
          refine wp_sipush (q := 60) d_Rf_taken_57 rfl sp_156 ?_
          refine wp_iload_n (q := 61) d_Rf_taken_60 rfl rfl ?_
          first | refine wp_iaddN (q := 62) d_Rf_taken_61 rfl ?_ | refine wp_iadd (q := 62) d_Rf_taken_61 rfl ?_
          refine wp_iald (q := 63) d_Rf_taken_62 rfl (rfl) (by omega) (by decide) ?_
          refine wp_goto (tgt := 68) d_Rf_taken_63 (by decide) ?_
          rw [ek]
          refine wp_iret d_Rf_taken_68 rfl (Nat.le_refl _) (Nat.le_refl _) ?_
          simp only [sp_taken, inn, inb, inm, btw, inn_t hk1, tnl hk1, inb_t hnb h12 hb1, tnt (Nat.lt_of_lt_of_le hb1 h12), hc_33, ek, tnt hkd, hi, (show ¬ nI 0 = nI 1 by decide), not_true_eq_false, not_false_eq_true, or_false, false_or, or_true, true_or, and_true, true_and, and_false, false_and, or_self, and_self, if_true, if_false, ite_true, ite_false, eq_self] at hK
          first | exact hK | (simp (disch := omega) only [tput_eq, tput2, tput_ne, upd_eq, upd_ne, ne_eq, va_upeq, va_upne, va_up2, not_true_eq_false, not_false_eq_true, or_false, false_or, or_true, true_or, and_true, true_and, and_false, false_and, or_self, and_self, if_true, if_false, ite_true, ite_false, eq_self] at hK ⊢; exact hK) | (simp (disch := omega) only [tput_eq, tput2, tput_ne, upd_eq, upd_ne, ne_eq, va_upeq, va_upne, va_up2, not_true_eq_false, not_false_eq_true, or_false, false_or, or_true, true_or, and_true, true_and, and_false, false_and, or_self, and_self, if_true, if_false, ite_true, ite_false, eq_self]; exact hK) | (simp (disch := omega) only [tput_eq, tput2, tput_ne, upd_eq, upd_ne, ne_eq, va_upeq, va_upne, va_up2, not_true_eq_false, not_false_eq_true, or_false, false_or, or_true, true_or, and_true, true_and, and_false, false_and, or_self, and_self, if_true, if_false, ite_true, ite_false, eq_self] at hK; exact hK)
        · refine wp_if_eq_t (tgt := 66) d_Rf_taken_50 (by decide) (by decide) ?_
          refine wp_bipush (q := 68) d_Rf_taken_66 rfl bp_m13 ?_
          refine wp_iret d_Rf_taken_68 rfl (Nat.le_refl _) (Nat.le_refl _) ?_
          simp only [sp_taken, inn, inb, inm, btw, inn_t hk1, tnl hk1, inb_t hnb h12 hb1, tnt (Nat.lt_of_lt_of_le hb1 h12), hc_33, ek, tnt hkd, hi, (show ¬ nI 0 = nI 1 by decide), not_true_eq_false, not_false_eq_true, or_false, false_or, or_true, true_or, and_true, true_and, and_false, false_and, or_self, and_self, if_true, if_false, ite_true, ite_false, eq_self] at hK
          first | exact hK | (simp (disch := omega) only [tput_eq, tput2, tput_ne, upd_eq, upd_ne, ne_eq, va_upeq, va_upne, va_up2, not_true_eq_false, not_false_eq_true, or_false, false_or, or_true, true_or, and_true, true_and, and_false, false_and, or_self, and_self, if_true, if_false, ite_true, ite_false, eq_self] at hK ⊢; exact hK) | (simp (disch := omega) only [tput_eq, tput2, tput_ne, upd_eq, upd_ne, ne_eq, va_upeq, va_upne, va_up2, not_true_eq_false, not_false_eq_true, or_false, false_or, or_true, true_or, and_true, true_and, and_false, false_and, or_self, and_self, if_true, if_false, ite_true, ite_false, eq_self]; exact hK) | (simp (disch := omega) only [tput_eq, tput2, tput_ne, upd_eq, upd_ne, ne_eq, va_upeq, va_upne, va_up2, not_true_eq_false, not_false_eq_true, or_false, false_or, or_true, true_or, and_true, true_and, and_false, false_and, or_self, and_self, if_true, if_false, ite_true, ite_false, eq_self] at hK; exact hK)
    · refine wp_if_ne_f (q := 20) (tgt := 23) d_Rf_taken_17 (by decide) rfl (by decide) ?_
      refine wp_bipush (q := 22) d_Rf_taken_20 rfl bp_m11 ?_
      refine wp_iret d_Rf_taken_22 rfl (Nat.le_refl _) (Nat.le_refl _) ?_
      simp only [sp_taken, inn, inb, inm, btw, inn_t hk1, tnl hk1, hb1, not_true_eq_false, not_false_eq_true, or_false, false_or, or_true, true_or, and_true, true_and, and_false, false_and, or_self, and_self, if_true, if_false, ite_true, ite_false, eq_self] at hK
      first | exact hK | (simp (disch := omega) only [tput_eq, tput2, tput_ne, upd_eq, upd_ne, ne_eq, va_upeq, va_upne, va_up2, not_true_eq_false, not_false_eq_true, or_false, false_or, or_true, true_or, and_true, true_and, and_false, false_and, or_self, and_self, if_true, if_false, ite_true, ite_false, eq_self] at hK ⊢; exact hK) | (simp (disch := omega) only [tput_eq, tput2, tput_ne, upd_eq, upd_ne, ne_eq, va_upeq, va_upne, va_up2, not_true_eq_false, not_false_eq_true, or_false, false_or, or_true, true_or, and_true, true_and, and_false, false_and, or_self, and_self, if_true, if_false, ite_true, ite_false, eq_self]; exact hK) | (simp (disch := omega) only [tput_eq, tput2, tput_ne, upd_eq, upd_ne, ne_eq, va_upeq, va_upne, va_up2, not_true_eq_false, not_false_eq_true, or_false, false_or, or_true, true_or, and_true, true_and, and_false, false_and, or_self, and_self, if_true, if_false, ite_true, ite_false, eq_self] at hK; exact hK)
  · refine wp_if_ne_f (q := 9) (tgt := 12) d_Rf_taken_6 (by decide) rfl (by decide) ?_
    refine wp_bipush (q := 11) d_Rf_taken_9 rfl bp_m2 ?_
    refine wp_iret d_Rf_taken_11 rfl (Nat.le_refl _) (Nat.le_refl _) ?_
    simp only [sp_taken, inn, inb, inm, btw, hk1, not_true_eq_false, not_false_eq_true, or_false, false_or, or_true, true_or, and_true, true_and, and_false, false_and, or_self, and_self, if_true, if_false, ite_true, ite_false, eq_self] at hK
    first | exact hK | (simp (disch := omega) only [tput_eq, tput2, tput_ne, upd_eq, upd_ne, ne_eq, va_upeq, va_upne, va_up2, not_true_eq_false, not_false_eq_true, or_false, false_or, or_true, true_or, and_true, true_and, and_false, false_and, or_self, and_self, if_true, if_false, ite_true, ite_false, eq_self] at hK ⊢; exact hK) | (simp (disch := omega) only [tput_eq, tput2, tput_ne, upd_eq, upd_ne, ne_eq, va_upeq, va_upne, va_up2, not_true_eq_false, not_false_eq_true, or_false, false_or, or_true, true_or, and_true, true_and, and_false, false_and, or_self, and_self, if_true, if_false, ite_true, ite_false, eq_self]; exact hK) | (simp (disch := omega) only [tput_eq, tput2, tput_ne, upd_eq, upd_ne, ne_eq, va_upeq, va_upne, va_up2, not_true_eq_false, not_false_eq_true, or_false, false_or, or_true, true_or, and_true, true_and, and_false, false_and, or_self, and_self, if_true, if_false, ite_true, ite_false, eq_self] at hK; exact hK)
def sp_saved (c : T2) (m w : Int32) : Int32 := if ¬ inm c m then -5 else if ¬ inn w 2 then -2 else c (12 + tn w) (tn m)
theorem d_FG_saved_0 : decode M_FG_saved.2.1 0 = .ok (.aload_n 0, 1) := by decide +kernel
theorem d_FG_saved_1 : decode M_FG_saved.2.1 1 = .ok (.iload_n 1, 1) := by decide +kernel
theorem d_FG_saved_2 : decode M_FG_saved.2.1 2 = .ok (.invokevirtual 287, 3) := by decide +kernel
theorem d_FG_saved_5 : decode M_FG_saved.2.1 5 = .ok (.ifCond .ne 6, 3) := by decide +kernel
theorem d_FG_saved_8 : decode M_FG_saved.2.1 8 = .ok (.bipush (-5), 2) := by decide +kernel
theorem d_FG_saved_10 : decode M_FG_saved.2.1 10 = .ok (.ireturn, 1) := by decide +kernel
theorem d_FG_saved_11 : decode M_FG_saved.2.1 11 = .ok (.iload_n 2, 1) := by decide +kernel
theorem d_FG_saved_12 : decode M_FG_saved.2.1 12 = .ok (.iconst 0, 1) := by decide +kernel
theorem d_FG_saved_13 : decode M_FG_saved.2.1 13 = .ok (.iconst 2, 1) := by decide +kernel
theorem d_FG_saved_14 : decode M_FG_saved.2.1 14 = .ok (.invokestatic 61, 3) := by decide +kernel
theorem d_FG_saved_17 : decode M_FG_saved.2.1 17 = .ok (.ifCond .ne 6, 3) := by decide +kernel
theorem d_FG_saved_20 : decode M_FG_saved.2.1 20 = .ok (.bipush (-2), 2) := by decide +kernel
theorem d_FG_saved_22 : decode M_FG_saved.2.1 22 = .ok (.ireturn, 1) := by decide +kernel
theorem d_FG_saved_23 : decode M_FG_saved.2.1 23 = .ok (.aload_n 0, 1) := by decide +kernel
theorem d_FG_saved_24 : decode M_FG_saved.2.1 24 = .ok (.getfield 41, 3) := by decide +kernel
theorem d_FG_saved_27 : decode M_FG_saved.2.1 27 = .ok (.iload_n 2, 1) := by decide +kernel
theorem d_FG_saved_28 : decode M_FG_saved.2.1 28 = .ok (.aaload, 1) := by decide +kernel
theorem d_FG_saved_29 : decode M_FG_saved.2.1 29 = .ok (.iload_n 1, 1) := by decide +kernel
theorem d_FG_saved_30 : decode M_FG_saved.2.1 30 = .ok (.iaload, 1) := by decide +kernel
theorem d_FG_saved_31 : decode M_FG_saved.2.1 31 = .ok (.ireturn, 1) := by decide +kernel
set_option maxHeartbeats 4000000 in
set_option maxRecDepth 100000 in
theorem ok_FG_saved {D : xD} {N : Nat} {l : Launch} {d : Nat} {c x V : T2} {P : Nat → Int32} {ln df : Nat → Option Nat} {rest : List va_E} {K : Option Value → List va_E → Prop} {m : Int32} {w : Int32} {nb : Nat} (hnm : c 32 4 = nI nb) (hm6 : nb ≤ 6)  (hK : K (some (.int (sp_saved c m w))) (encC D N c x (va_up V 0 P) ln df ++ rest)) : Ok D N l (d + 2) M_FG_saved [.ref (N + 0), .int m, .int w] (encC D N c x (va_up V 0 P) ln df ++ rest) 0 0 K := by
  refine ok_of (L := [(0, _), (1, _), (2, _)]) (by decide) (Nat.le_of_ble_eq_true rfl) rfl ?_
  refine wp_aload_n (q := 1) d_FG_saved_0 rfl rfl ?_
  refine wp_iload_n (q := 2) d_FG_saved_1 rfl rfl ?_
  refine wp_cv1 (q := 5) lk_FG_287 (ro _ _ _) d_FG_saved_2 rfl (Nat.le_of_ble_eq_true rfl) (rfl) rfl (Nat.zero_le _) (Nat.zero_le _) ?_
  refine ok_FG_isMember hnm hm6 (fun m1 hm1 e => ?_) (fun hm1 => ?_)
  · subst e
    refine wp_if_ne_t (tgt := 11) d_FG_saved_5 (by decide) (by decide) ?_
    refine wp_iload_n (q := 12) d_FG_saved_11 rfl rfl ?_
    refine wp_iconst (q := 13) d_FG_saved_12 rfl ic_0 ?_
    refine wp_iconst (q := 14) d_FG_saved_13 rfl ic_2 ?_
    refine wp_cs3 (q := 17) lk_FG_61 (ro _ _ _) d_FG_saved_14 rfl (Nat.le_of_ble_eq_true rfl) (Nat.zero_le _) (Nat.zero_le _) ?_
    refine ok_FG_within0 (b := 2) (by decide) (fun w1 hw1 e => ?_) (fun hw1 => ?_)
    · subst e
      refine wp_if_ne_t (tgt := 23) d_FG_saved_17 (by decide) (by decide) ?_
      refine wp_aload_n (q := 24) d_FG_saved_23 rfl rfl ?_
      refine wp_get (q := 27) fl_FG_41 d_FG_saved_24 rfl rfl rfl ?_
      refine wp_iload_n (q := 28) d_FG_saved_27 rfl rfl ?_
      refine wp_aldA (q := 29) d_FG_saved_28 rfl (rfl) (by omega) (by decide) (rows_at (by omega)) ?_
      refine wp_iload_n (q := 30) d_FG_saved_29 rfl rfl ?_
      refine wp_iald (q := 31) d_FG_saved_30 rfl (rd_purse (by omega)) (by omega) (by decide) ?_
      refine wp_iret d_FG_saved_31 rfl (Nat.le_refl _) (Nat.le_refl _) ?_
      simp only [sp_saved, inn, inb, inm, btw, inm_t hnm hm6 hm1, tnt (Nat.lt_of_lt_of_le hm1 hm6), inn_t hw1, tnl hw1, not_true_eq_false, not_false_eq_true, or_false, false_or, or_true, true_or, and_true, true_and, and_false, false_and, or_self, and_self, if_true, if_false, ite_true, ite_false, eq_self] at hK
      first | exact hK | (simp (disch := omega) only [tput_eq, tput2, tput_ne, upd_eq, upd_ne, ne_eq, va_upeq, va_upne, va_up2, not_true_eq_false, not_false_eq_true, or_false, false_or, or_true, true_or, and_true, true_and, and_false, false_and, or_self, and_self, if_true, if_false, ite_true, ite_false, eq_self] at hK ⊢; exact hK) | (simp (disch := omega) only [tput_eq, tput2, tput_ne, upd_eq, upd_ne, ne_eq, va_upeq, va_upne, va_up2, not_true_eq_false, not_false_eq_true, or_false, false_or, or_true, true_or, and_true, true_and, and_false, false_and, or_self, and_self, if_true, if_false, ite_true, ite_false, eq_self]; exact hK) | (simp (disch := omega) only [tput_eq, tput2, tput_ne, upd_eq, upd_ne, ne_eq, va_upeq, va_upne, va_up2, not_true_eq_false, not_false_eq_true, or_false, false_or, or_true, true_or, and_true, true_and, and_false, false_and, or_self, and_self, if_true, if_false, ite_true, ite_false, eq_self] at hK; exact hK)
    · refine wp_if_ne_f (q := 20) (tgt := 23) d_FG_saved_17 (by decide) rfl (by decide) ?_
      refine wp_bipush (q := 22) d_FG_saved_20 rfl bp_m2 ?_
      refine wp_iret d_FG_saved_22 rfl (Nat.le_refl _) (Nat.le_refl _) ?_
      simp only [sp_saved, inn, inb, inm, btw, inm_t hnm hm6 hm1, tnt (Nat.lt_of_lt_of_le hm1 hm6), hw1, not_true_eq_false, not_false_eq_true, or_false, false_or, or_true, true_or, and_true, true_and, and_false, false_and, or_self, and_self, if_true, if_false, ite_true, ite_false, eq_self] at hK
      first | exact hK | (simp (disch := omega) only [tput_eq, tput2, tput_ne, upd_eq, upd_ne, ne_eq, va_upeq, va_upne, va_up2, not_true_eq_false, not_false_eq_true, or_false, false_or, or_true, true_or, and_true, true_and, and_false, false_and, or_self, and_self, if_true, if_false, ite_true, ite_false, eq_self] at hK ⊢; exact hK) | (simp (disch := omega) only [tput_eq, tput2, tput_ne, upd_eq, upd_ne, ne_eq, va_upeq, va_upne, va_up2, not_true_eq_false, not_false_eq_true, or_false, false_or, or_true, true_or, and_true, true_and, and_false, false_and, or_self, and_self, if_true, if_false, ite_true, ite_false, eq_self]; exact hK) | (simp (disch := omega) only [tput_eq, tput2, tput_ne, upd_eq, upd_ne, ne_eq, va_upeq, va_upne, va_up2, not_true_eq_false, not_false_eq_true, or_false, false_or, or_true, true_or, and_true, true_and, and_false, false_and, or_self, and_self, if_true, if_false, ite_true, ite_false, eq_self] at hK; exact hK)
  · refine wp_if_ne_f (q := 8) (tgt := 11) d_FG_saved_5 (by decide) rfl (by decide) ?_
    refine wp_bipush (q := 10) d_FG_saved_8 rfl bp_m5 ?_
    refine wp_iret d_FG_saved_10 rfl (Nat.le_refl _) (Nat.le_refl _) ?_
    simp only [sp_saved, inn, inb, inm, btw, hm1, not_true_eq_false, not_false_eq_true, or_false, false_or, or_true, true_or, and_true, true_and, and_false, false_and, or_self, and_self, if_true, if_false, ite_true, ite_false, eq_self] at hK
    first | exact hK | (simp (disch := omega) only [tput_eq, tput2, tput_ne, upd_eq, upd_ne, ne_eq, va_upeq, va_upne, va_up2, not_true_eq_false, not_false_eq_true, or_false, false_or, or_true, true_or, and_true, true_and, and_false, false_and, or_self, and_self, if_true, if_false, ite_true, ite_false, eq_self] at hK ⊢; exact hK) | (simp (disch := omega) only [tput_eq, tput2, tput_ne, upd_eq, upd_ne, ne_eq, va_upeq, va_upne, va_up2, not_true_eq_false, not_false_eq_true, or_false, false_or, or_true, true_or, and_true, true_and, and_false, false_and, or_self, and_self, if_true, if_false, ite_true, ite_false, eq_self]; exact hK) | (simp (disch := omega) only [tput_eq, tput2, tput_ne, upd_eq, upd_ne, ne_eq, va_upeq, va_upne, va_up2, not_true_eq_false, not_false_eq_true, or_false, false_or, or_true, true_or, and_true, true_and, and_false, false_and, or_self, and_self, if_true, if_false, ite_true, ite_false, eq_self] at hK; exact hK)
theorem d_Rf_saved_0 : decode M_Rf_saved.2.1 0 = .ok (.aload_n 0, 1) := by decide +kernel
theorem d_Rf_saved_1 : decode M_Rf_saved.2.1 1 = .ok (.iload_n 1, 1) := by decide +kernel
theorem d_Rf_saved_2 : decode M_Rf_saved.2.1 2 = .ok (.invokevirtual 300, 3) := by decide +kernel
theorem d_Rf_saved_5 : decode M_Rf_saved.2.1 5 = .ok (.ifCond .ne 6, 3) := by decide +kernel
theorem d_Rf_saved_8 : decode M_Rf_saved.2.1 8 = .ok (.bipush (-5), 2) := by decide +kernel
theorem d_Rf_saved_10 : decode M_Rf_saved.2.1 10 = .ok (.ireturn, 1) := by decide +kernel
theorem d_Rf_saved_11 : decode M_Rf_saved.2.1 11 = .ok (.iload_n 2, 1) := by decide +kernel
theorem d_Rf_saved_12 : decode M_Rf_saved.2.1 12 = .ok (.ifCond .ne 12, 3) := by decide +kernel
theorem d_Rf_saved_15 : decode M_Rf_saved.2.1 15 = .ok (.aload_n 0, 1) := by decide +kernel
theorem d_Rf_saved_16 : decode M_Rf_saved.2.1 16 = .ok (.getfield 49, 3) := by decide +kernel
theorem d_Rf_saved_19 : decode M_Rf_saved.2.1 19 = .ok (.iload_n 1, 1) := by decide +kernel
theorem d_Rf_saved_20 : decode M_Rf_saved.2.1 20 = .ok (.iaload, 1) := by decide +kernel
theorem d_Rf_saved_21 : decode M_Rf_saved.2.1 21 = .ok (.goto 41, 3) := by decide +kernel
theorem d_Rf_saved_24 : decode M_Rf_saved.2.1 24 = .ok (.iload_n 2, 1) := by decide +kernel
theorem d_Rf_saved_25 : decode M_Rf_saved.2.1 25 = .ok (.iconst 1, 1) := by decide +kernel
theorem d_Rf_saved_26 : decode M_Rf_saved.2.1 26 = .ok (.if_icmp .ne 12, 3) := by decide +kernel
theorem d_Rf_saved_29 : decode M_Rf_saved.2.1 29 = .ok (.aload_n 0, 1) := by decide +kernel
theorem d_Rf_saved_30 : decode M_Rf_saved.2.1 30 = .ok (.getfield 52, 3) := by decide +kernel
theorem d_Rf_saved_33 : decode M_Rf_saved.2.1 33 = .ok (.iload_n 1, 1) := by decide +kernel
theorem d_Rf_saved_34 : decode M_Rf_saved.2.1 34 = .ok (.iaload, 1) := by decide +kernel
theorem d_Rf_saved_35 : decode M_Rf_saved.2.1 35 = .ok (.goto 27, 3) := by decide +kernel
theorem d_Rf_saved_38 : decode M_Rf_saved.2.1 38 = .ok (.iload_n 2, 1) := by decide +kernel
theorem d_Rf_saved_39 : decode M_Rf_saved.2.1 39 = .ok (.iconst 2, 1) := by decide +kernel
theorem d_Rf_saved_40 : decode M_Rf_saved.2.1 40 = .ok (.if_icmp .ne 20, 3) := by decide +kernel
theorem d_Rf_saved_43 : decode M_Rf_saved.2.1 43 = .ok (.aload_n 0, 1) := by decide +kernel
theorem d_Rf_saved_44 : decode M_Rf_saved.2.1 44 = .ok (.getfield 55, 3) := by decide +kernel
theorem d_Rf_saved_47 : decode M_Rf_saved.2.1 47 = .ok (.iload_n 1, 1) := by decide +kernel
theorem d_Rf_saved_48 : decode M_Rf_saved.2.1 48 = .ok (.baload, 1) := by decide +kernel
theorem d_Rf_saved_49 : decode M_Rf_saved.2.1 49 = .ok (.ifCond .eq 7, 3) := by decide +kernel
theorem d_Rf_saved_52 : decode M_Rf_saved.2.1 52 = .ok (.iconst 1, 1) := by decide +kernel
theorem d_Rf_saved_53 : decode M_Rf_saved.2.1 53 = .ok (.goto 9, 3) := by decide +kernel
theorem d_Rf_saved_56 : decode M_Rf_saved.2.1 56 = .ok (.iconst 0, 1) := by decide +kernel
theorem d_Rf_saved_57 : decode M_Rf_saved.2.1 57 = .ok (.goto 5, 3) := by decide +kernel
theorem d_Rf_saved_60 : decode M_Rf_saved.2.1 60 = .ok (.bipush (-2), 2) := by decide +kernel
theorem d_Rf_saved_62 : decode M_Rf_saved.2.1 62 = .ok (.ireturn, 1) := by decide +kernel
set_option maxHeartbeats 4000000 in
set_option maxRecDepth 100000 in
theorem ok_Rf_saved {D : xD} {N : Nat} {l : Launch} {d : Nat} {c z : T2} {P Q : Nat → Int32} {rest : List va_E} {K : Option Value → List va_E → Prop} {m : Int32} {w : Int32} {nb : Nat} (hnm : c 32 4 = nI nb) (hm6 : nb ≤ 6) (h14 : ∀ m, m < 6 → c 14 m = nI 0 ∨ c 14 m = nI 1) (hK : K (some (.int (sp_saved c m w))) (encR D N c z P Q ++ rest)) : Ok D N l (d + 2) M_Rf_saved [.ref (N + 0), .int m, .int w] (encR D N c z P Q ++ rest) 0 0 K := by
  refine ok_of (L := [(0, _), (1, _), (2, _)]) (by decide) (Nat.le_of_ble_eq_true rfl) rfl ?_
  rcases sw w 2 (by decide) with ⟨k_sw, hk_sw, rfl⟩ | ⟨hn_sw, ho_sw⟩
  · rcases (show k_sw = 0 ∨ k_sw = 1 ∨ k_sw = 2 by omega) with rfl | rfl | rfl
    · skip
      refine wp_aload_n (q := 1) d_Rf_saved_0 rfl rfl ?_
      refine wp_iload_n (q := 2) d_Rf_saved_1 rfl rfl ?_
      refine wp_cv1 (q := 5) lk_Rf_300 (ro _ _ _) d_Rf_saved_2 rfl (Nat.le_of_ble_eq_true rfl) (rfl) rfl (Nat.zero_le _) (Nat.zero_le _) ?_
      refine ok_Rf_isMember hnm hm6 (fun m1 hm1 e => ?_) (fun hm1 => ?_)
      · subst e
        refine wp_if_ne_t (tgt := 11) d_Rf_saved_5 (by decide) (by decide) ?_
        refine wp_iload_n (q := 12) d_Rf_saved_11 rfl rfl ?_
        refine wp_if_ne_f (q := 15) (tgt := 24) d_Rf_saved_12 (by decide) rfl (by decide) ?_
        refine wp_aload_n (q := 16) d_Rf_saved_15 rfl rfl ?_
        refine wp_get (q := 19) fl_Rf_49 d_Rf_saved_16 rfl rfl rfl ?_
        refine wp_iload_n (q := 20) d_Rf_saved_19 rfl rfl ?_
        refine wp_iald (q := 21) d_Rf_saved_20 rfl (rfl) (by omega) (by decide) ?_
        refine wp_goto (tgt := 62) d_Rf_saved_21 (by decide) ?_
        refine wp_iret d_Rf_saved_62 rfl (Nat.le_refl _) (Nat.le_refl _) ?_
        simp only [sp_saved, inn, inb, inm, btw, inn_t (show 0 ≤ 2 by decide), tnl (show 0 ≤ 2 by decide), (show ¬ nI 0 = nI 1 by decide), (show ¬ nI 0 = nI 2 by decide), inm_t hnm hm6 hm1, tnt (Nat.lt_of_lt_of_le hm1 hm6), not_true_eq_false, not_false_eq_true, or_false, false_or, or_true, true_or, and_true, true_and, and_false, false_and, or_self, and_self, if_true, if_false, ite_true, ite_false, eq_self] at hK
        first | exact hK | (simp (disch := omega) only [tput_eq, tput2, tput_ne, upd_eq, upd_ne, ne_eq, va_upeq, va_upne, va_up2, not_true_eq_false, not_false_eq_true, or_false, false_or, or_true, true_or, and_true, true_and, and_false, false_and, or_self, and_self, if_true, if_false, ite_true, ite_false, eq_self] at hK ⊢; exact hK) | (simp (disch := omega) only [tput_eq, tput2, tput_ne, upd_eq, upd_ne, ne_eq, va_upeq, va_upne, va_up2, not_true_eq_false, not_false_eq_true, or_false, false_or, or_true, true_or, and_true, true_and, and_false, false_and, or_self, and_self, if_true, if_false, ite_true, ite_false, eq_self]; exact hK) | (simp (disch := omega) only [tput_eq, tput2, tput_ne, upd_eq, upd_ne, ne_eq, va_upeq, va_upne, va_up2, not_true_eq_false, not_false_eq_true, or_false, false_or, or_true, true_or, and_true, true_and, and_false, false_and, or_self, and_self, if_true, if_false, ite_true, ite_false, eq_self] at hK; exact hK)
      · refine wp_if_ne_f (q := 8) (tgt := 11) d_Rf_saved_5 (by decide) rfl (by decide) ?_
        refine wp_bipush (q := 10) d_Rf_saved_8 rfl bp_m5 ?_
        refine wp_iret d_Rf_saved_10 rfl (Nat.le_refl _) (Nat.le_refl _) ?_
        simp only [sp_saved, inn, inb, inm, btw, inn_t (show 0 ≤ 2 by decide), tnl (show 0 ≤ 2 by decide), (show ¬ nI 0 = nI 1 by decide), (show ¬ nI 0 = nI 2 by decide), hm1, not_true_eq_false, not_false_eq_true, or_false, false_or, or_true, true_or, and_true, true_and, and_false, false_and, or_self, and_self, if_true, if_false, ite_true, ite_false, eq_self] at hK
        first | exact hK | (simp (disch := omega) only [tput_eq, tput2, tput_ne, upd_eq, upd_ne, ne_eq, va_upeq, va_upne, va_up2, not_true_eq_false, not_false_eq_true, or_false, false_or, or_true, true_or, and_true, true_and, and_false, false_and, or_self, and_self, if_true, if_false, ite_true, ite_false, eq_self] at hK ⊢; exact hK) | (simp (disch := omega) only [tput_eq, tput2, tput_ne, upd_eq, upd_ne, ne_eq, va_upeq, va_upne, va_up2, not_true_eq_false, not_false_eq_true, or_false, false_or, or_true, true_or, and_true, true_and, and_false, false_and, or_self, and_self, if_true, if_false, ite_true, ite_false, eq_self]; exact hK) | (simp (disch := omega) only [tput_eq, tput2, tput_ne, upd_eq, upd_ne, ne_eq, va_upeq, va_upne, va_up2, not_true_eq_false, not_false_eq_true, or_false, false_or, or_true, true_or, and_true, true_and, and_false, false_and, or_self, and_self, if_true, if_false, ite_true, ite_false, eq_self] at hK; exact hK)
    · skip
      refine wp_aload_n (q := 1) d_Rf_saved_0 rfl rfl ?_
      refine wp_iload_n (q := 2) d_Rf_saved_1 rfl rfl ?_
      refine wp_cv1 (q := 5) lk_Rf_300 (ro _ _ _) d_Rf_saved_2 rfl (Nat.le_of_ble_eq_true rfl) (rfl) rfl (Nat.zero_le _) (Nat.zero_le _) ?_
      refine ok_Rf_isMember hnm hm6 (fun m1 hm1 e => ?_) (fun hm1 => ?_)
      · subst e
        refine wp_if_ne_t (tgt := 11) d_Rf_saved_5 (by decide) (by decide) ?_
        refine wp_iload_n (q := 12) d_Rf_saved_11 rfl rfl ?_
        refine wp_if_ne_t (tgt := 24) d_Rf_saved_12 (by decide) (by decide) ?_
        refine wp_iload_n (q := 25) d_Rf_saved_24 rfl rfl ?_
        refine wp_iconst (q := 26) d_Rf_saved_25 rfl ic_1 ?_
        refine wp_icmp_ne_f (q := 29) (tgt := 38) d_Rf_saved_26 (by decide) rfl (by decide) ?_
        refine wp_aload_n (q := 30) d_Rf_saved_29 rfl rfl ?_
        refine wp_get (q := 33) fl_Rf_52 d_Rf_saved_30 rfl rfl rfl ?_
        refine wp_iload_n (q := 34) d_Rf_saved_33 rfl rfl ?_
        refine wp_iald (q := 35) d_Rf_saved_34 rfl (rfl) (by omega) (by decide) ?_
        refine wp_goto (tgt := 62) d_Rf_saved_35 (by decide) ?_
        refine wp_iret d_Rf_saved_62 rfl (Nat.le_refl _) (Nat.le_refl _) ?_
        simp only [sp_saved, inn, inb, inm, btw, inn_t (show 1 ≤ 2 by decide), tnl (show 1 ≤ 2 by decide), (show ¬ nI 1 = nI 0 by decide), (show ¬ nI 1 = nI 2 by decide), inm_t hnm hm6 hm1, tnt (Nat.lt_of_lt_of_le hm1 hm6), not_true_eq_false, not_false_eq_true, or_false, false_or, or_true, true_or, and_true, true_and, and_false, false_and, or_self, and_self, if_true, if_false, ite_true, ite_false, eq_self] at hK
        first | exact hK | (simp (disch := omega) only [tput_eq, tput2, tput_ne, upd_eq, upd_ne, ne_eq, va_upeq, va_upne, va_up2, not_true_eq_false, not_false_eq_true, or_false, false_or, or_true, true_or, and_true, true_and, and_false, false_and, or_self, and_self, if_true, if_false, ite_true, ite_false, eq_self] at hK ⊢; exact hK) | (simp (disch := omega) only [tput_eq, tput2, tput_ne, upd_eq, upd_ne, ne_eq, va_upeq, va_upne, va_up2, not_true_eq_false, not_false_eq_true, or_false, false_or, or_true, true_or, and_true, true_and, and_false, false_and, or_self, and_self, if_true, if_false, ite_true, ite_false, eq_self]; exact hK) | (simp (disch := omega) only [tput_eq, tput2, tput_ne, upd_eq, upd_ne, ne_eq, va_upeq, va_upne, va_up2, not_true_eq_false, not_false_eq_true, or_false, false_or, or_true, true_or, and_true, true_and, and_false, false_and, or_self, and_self, if_true, if_false, ite_true, ite_false, eq_self] at hK; exact hK)
      · refine wp_if_ne_f (q := 8) (tgt := 11) d_Rf_saved_5 (by decide) rfl (by decide) ?_
        refine wp_bipush (q := 10) d_Rf_saved_8 rfl bp_m5 ?_
        refine wp_iret d_Rf_saved_10 rfl (Nat.le_refl _) (Nat.le_refl _) ?_
        simp only [sp_saved, inn, inb, inm, btw, inn_t (show 1 ≤ 2 by decide), tnl (show 1 ≤ 2 by decide), (show ¬ nI 1 = nI 0 by decide), (show ¬ nI 1 = nI 2 by decide), hm1, not_true_eq_false, not_false_eq_true, or_false, false_or, or_true, true_or, and_true, true_and, and_false, false_and, or_self, and_self, if_true, if_false, ite_true, ite_false, eq_self] at hK
        first | exact hK | (simp (disch := omega) only [tput_eq, tput2, tput_ne, upd_eq, upd_ne, ne_eq, va_upeq, va_upne, va_up2, not_true_eq_false, not_false_eq_true, or_false, false_or, or_true, true_or, and_true, true_and, and_false, false_and, or_self, and_self, if_true, if_false, ite_true, ite_false, eq_self] at hK ⊢; exact hK) | (simp (disch := omega) only [tput_eq, tput2, tput_ne, upd_eq, upd_ne, ne_eq, va_upeq, va_upne, va_up2, not_true_eq_false, not_false_eq_true, or_false, false_or, or_true, true_or, and_true, true_and, and_false, false_and, or_self, and_self, if_true, if_false, ite_true, ite_false, eq_self]; exact hK) | (simp (disch := omega) only [tput_eq, tput2, tput_ne, upd_eq, upd_ne, ne_eq, va_upeq, va_upne, va_up2, not_true_eq_false, not_false_eq_true, or_false, false_or, or_true, true_or, and_true, true_and, and_false, false_and, or_self, and_self, if_true, if_false, ite_true, ite_false, eq_self] at hK; exact hK)
    · skip
      refine wp_aload_n (q := 1) d_Rf_saved_0 rfl rfl ?_
      refine wp_iload_n (q := 2) d_Rf_saved_1 rfl rfl ?_
      refine wp_cv1 (q := 5) lk_Rf_300 (ro _ _ _) d_Rf_saved_2 rfl (Nat.le_of_ble_eq_true rfl) (rfl) rfl (Nat.zero_le _) (Nat.zero_le _) ?_
      refine ok_Rf_isMember hnm hm6 (fun m1 hm1 e => ?_) (fun hm1 => ?_)
      · subst e
        refine wp_if_ne_t (tgt := 11) d_Rf_saved_5 (by decide) (by decide) ?_
        refine wp_iload_n (q := 12) d_Rf_saved_11 rfl rfl ?_
        refine wp_if_ne_t (tgt := 24) d_Rf_saved_12 (by decide) (by decide) ?_
        refine wp_iload_n (q := 25) d_Rf_saved_24 rfl rfl ?_
        refine wp_iconst (q := 26) d_Rf_saved_25 rfl ic_1 ?_
        refine wp_icmp_ne_t (tgt := 38) d_Rf_saved_26 (by decide) (by decide) ?_
        refine wp_iload_n (q := 39) d_Rf_saved_38 rfl rfl ?_
        refine wp_iconst (q := 40) d_Rf_saved_39 rfl ic_2 ?_
        refine wp_icmp_ne_f (q := 43) (tgt := 60) d_Rf_saved_40 (by decide) rfl (by decide) ?_
        refine wp_aload_n (q := 44) d_Rf_saved_43 rfl rfl ?_
        refine wp_get (q := 47) fl_Rf_55 d_Rf_saved_44 rfl rfl rfl ?_
        refine wp_iload_n (q := 48) d_Rf_saved_47 rfl rfl ?_
        refine wp_zald (q := 49) d_Rf_saved_48 rfl (rfl) (by omega) (by decide) ?_
        refine wp_if_eq (q := 52) (tgt := 56) d_Rf_saved_49 (by decide) rfl (fun hc_49 => ?_) (fun hc_49 => ?_)
        · have e14 : c 14 m1 = nI 0 := hc_49.trans nI_0.symm
          refine wp_iconst (q := 57) d_Rf_saved_56 rfl ic_0 ?_
          refine wp_goto (tgt := 62) d_Rf_saved_57 (by decide) ?_
          refine wp_iret d_Rf_saved_62 rfl (Nat.le_refl _) (Nat.le_refl _) ?_
          simp only [sp_saved, inn, inb, inm, btw, inn_t (show 2 ≤ 2 by decide), tnl (show 2 ≤ 2 by decide), (show ¬ nI 2 = nI 0 by decide), (show ¬ nI 2 = nI 1 by decide), inm_t hnm hm6 hm1, tnt (Nat.lt_of_lt_of_le hm1 hm6), (show 12 + 2 = 14 from rfl), e14, not_true_eq_false, not_false_eq_true, or_false, false_or, or_true, true_or, and_true, true_and, and_false, false_and, or_self, and_self, if_true, if_false, ite_true, ite_false, eq_self] at hK
          first | exact hK | (simp (disch := omega) only [tput_eq, tput2, tput_ne, upd_eq, upd_ne, ne_eq, va_upeq, va_upne, va_up2, not_true_eq_false, not_false_eq_true, or_false, false_or, or_true, true_or, and_true, true_and, and_false, false_and, or_self, and_self, if_true, if_false, ite_true, ite_false, eq_self] at hK ⊢; exact hK) | (simp (disch := omega) only [tput_eq, tput2, tput_ne, upd_eq, upd_ne, ne_eq, va_upeq, va_upne, va_up2, not_true_eq_false, not_false_eq_true, or_false, false_or, or_true, true_or, and_true, true_and, and_false, false_and, or_self, and_self, if_true, if_false, ite_true, ite_false, eq_self]; exact hK) | (simp (disch := omega) only [tput_eq, tput2, tput_ne, upd_eq, upd_ne, ne_eq, va_upeq, va_upne, va_up2, not_true_eq_false, not_false_eq_true, or_false, false_or, or_true, true_or, and_true, true_and, and_false, false_and, or_self, and_self, if_true, if_false, ite_true, ite_false, eq_self] at hK; exact hK)
        · have e14 : c 14 m1 = nI 1 := (h14 m1 (by omega)).resolve_left (fun e => hc_49 (e.trans nI_0))
          refine wp_iconst (q := 53) d_Rf_saved_52 rfl ic_1 ?_
          refine wp_goto (tgt := 62) d_Rf_saved_53 (by decide) ?_
          refine wp_iret d_Rf_saved_62 rfl (Nat.le_refl _) (Nat.le_refl _) ?_
          simp only [sp_saved, inn, inb, inm, btw, inn_t (show 2 ≤ 2 by decide), tnl (show 2 ≤ 2 by decide), (show ¬ nI 2 = nI 0 by decide), (show ¬ nI 2 = nI 1 by decide), inm_t hnm hm6 hm1, tnt (Nat.lt_of_lt_of_le hm1 hm6), (show 12 + 2 = 14 from rfl), e14, not_true_eq_false, not_false_eq_true, or_false, false_or, or_true, true_or, and_true, true_and, and_false, false_and, or_self, and_self, if_true, if_false, ite_true, ite_false, eq_self] at hK
          first | exact hK | (simp (disch := omega) only [tput_eq, tput2, tput_ne, upd_eq, upd_ne, ne_eq, va_upeq, va_upne, va_up2, not_true_eq_false, not_false_eq_true, or_false, false_or, or_true, true_or, and_true, true_and, and_false, false_and, or_self, and_self, if_true, if_false, ite_true, ite_false, eq_self] at hK ⊢; exact hK) | (simp (disch := omega) only [tput_eq, tput2, tput_ne, upd_eq, upd_ne, ne_eq, va_upeq, va_upne, va_up2, not_true_eq_false, not_false_eq_true, or_false, false_or, or_true, true_or, and_true, true_and, and_false, false_and, or_self, and_self, if_true, if_false, ite_true, ite_false, eq_self]; exact hK) | (simp (disch := omega) only [tput_eq, tput2, tput_ne, upd_eq, upd_ne, ne_eq, va_upeq, va_upne, va_up2, not_true_eq_false, not_false_eq_true, or_false, false_or, or_true, true_or, and_true, true_and, and_false, false_and, or_self, and_self, if_true, if_false, ite_true, ite_false, eq_self] at hK; exact hK)
      · refine wp_if_ne_f (q := 8) (tgt := 11) d_Rf_saved_5 (by decide) rfl (by decide) ?_
        refine wp_bipush (q := 10) d_Rf_saved_8 rfl bp_m5 ?_
        refine wp_iret d_Rf_saved_10 rfl (Nat.le_refl _) (Nat.le_refl _) ?_
        simp only [sp_saved, inn, inb, inm, btw, inn_t (show 2 ≤ 2 by decide), tnl (show 2 ≤ 2 by decide), (show ¬ nI 2 = nI 0 by decide), (show ¬ nI 2 = nI 1 by decide), hm1, not_true_eq_false, not_false_eq_true, or_false, false_or, or_true, true_or, and_true, true_and, and_false, false_and, or_self, and_self, if_true, if_false, ite_true, ite_false, eq_self] at hK
        first | exact hK | (simp (disch := omega) only [tput_eq, tput2, tput_ne, upd_eq, upd_ne, ne_eq, va_upeq, va_upne, va_up2, not_true_eq_false, not_false_eq_true, or_false, false_or, or_true, true_or, and_true, true_and, and_false, false_and, or_self, and_self, if_true, if_false, ite_true, ite_false, eq_self] at hK ⊢; exact hK) | (simp (disch := omega) only [tput_eq, tput2, tput_ne, upd_eq, upd_ne, ne_eq, va_upeq, va_upne, va_up2, not_true_eq_false, not_false_eq_true, or_false, false_or, or_true, true_or, and_true, true_and, and_false, false_and, or_self, and_self, if_true, if_false, ite_true, ite_false, eq_self]; exact hK) | (simp (disch := omega) only [tput_eq, tput2, tput_ne, upd_eq, upd_ne, ne_eq, va_upeq, va_upne, va_up2, not_true_eq_false, not_false_eq_true, or_false, false_or, or_true, true_or, and_true, true_and, and_false, false_and, or_self, and_self, if_true, if_false, ite_true, ite_false, eq_self] at hK; exact hK)
  · skip
    refine wp_aload_n (q := 1) d_Rf_saved_0 rfl rfl ?_
    refine wp_iload_n (q := 2) d_Rf_saved_1 rfl rfl ?_
    refine wp_cv1 (q := 5) lk_Rf_300 (ro _ _ _) d_Rf_saved_2 rfl (Nat.le_of_ble_eq_true rfl) (rfl) rfl (Nat.zero_le _) (Nat.zero_le _) ?_
    refine ok_Rf_isMember hnm hm6 (fun m1 hm1 e => ?_) (fun hm1 => ?_)
    · subst e
      refine wp_if_ne_t (tgt := 11) d_Rf_saved_5 (by decide) (by decide) ?_
      refine wp_iload_n (q := 12) d_Rf_saved_11 rfl rfl ?_
      refine wp_if_ne_t (tgt := 24) d_Rf_saved_12 (by decide) (fun e => hn_sw (by rw [e]; decide)) ?_
      refine wp_iload_n (q := 25) d_Rf_saved_24 rfl rfl ?_
      refine wp_iconst (q := 26) d_Rf_saved_25 rfl ic_1 ?_
      refine wp_icmp_ne_t (tgt := 38) d_Rf_saved_26 (by decide) (fun e => hn_sw (by rw [e]; decide)) ?_
      refine wp_iload_n (q := 39) d_Rf_saved_38 rfl rfl ?_
      refine wp_iconst (q := 40) d_Rf_saved_39 rfl ic_2 ?_
      refine wp_icmp_ne_t (tgt := 60) d_Rf_saved_40 (by decide) (fun e => hn_sw (by rw [e]; decide)) ?_
      refine wp_bipush (q := 62) d_Rf_saved_60 rfl bp_m2 ?_
      refine wp_iret d_Rf_saved_62 rfl (Nat.le_refl _) (Nat.le_refl _) ?_
      simp only [sp_saved, inn, inb, inm, btw, hn_sw, inm_t hnm hm6 hm1, tnt (Nat.lt_of_lt_of_le hm1 hm6), not_true_eq_false, not_false_eq_true, or_false, false_or, or_true, true_or, and_true, true_and, and_false, false_and, or_self, and_self, if_true, if_false, ite_true, ite_false, eq_self] at hK
      first | exact hK | (simp (disch := omega) only [tput_eq, tput2, tput_ne, upd_eq, upd_ne, ne_eq, va_upeq, va_upne, va_up2, not_true_eq_false, not_false_eq_true, or_false, false_or, or_true, true_or, and_true, true_and, and_false, false_and, or_self, and_self, if_true, if_false, ite_true, ite_false, eq_self] at hK ⊢; exact hK) | (simp (disch := omega) only [tput_eq, tput2, tput_ne, upd_eq, upd_ne, ne_eq, va_upeq, va_upne, va_up2, not_true_eq_false, not_false_eq_true, or_false, false_or, or_true, true_or, and_true, true_and, and_false, false_and, or_self, and_self, if_true, if_false, ite_true, ite_false, eq_self]; exact hK) | (simp (disch := omega) only [tput_eq, tput2, tput_ne, upd_eq, upd_ne, ne_eq, va_upeq, va_upne, va_up2, not_true_eq_false, not_false_eq_true, or_false, false_or, or_true, true_or, and_true, true_and, and_false, false_and, or_self, and_self, if_true, if_false, ite_true, ite_false, eq_self] at hK; exact hK)
    · refine wp_if_ne_f (q := 8) (tgt := 11) d_Rf_saved_5 (by decide) rfl (by decide) ?_
      refine wp_bipush (q := 10) d_Rf_saved_8 rfl bp_m5 ?_
      refine wp_iret d_Rf_saved_10 rfl (Nat.le_refl _) (Nat.le_refl _) ?_
      simp only [sp_saved, inn, inb, inm, btw, hn_sw, hm1, not_true_eq_false, not_false_eq_true, or_false, false_or, or_true, true_or, and_true, true_and, and_false, false_and, or_self, and_self, if_true, if_false, ite_true, ite_false, eq_self] at hK
      first | exact hK | (simp (disch := omega) only [tput_eq, tput2, tput_ne, upd_eq, upd_ne, ne_eq, va_upeq, va_upne, va_up2, not_true_eq_false, not_false_eq_true, or_false, false_or, or_true, true_or, and_true, true_and, and_false, false_and, or_self, and_self, if_true, if_false, ite_true, ite_false, eq_self] at hK ⊢; exact hK) | (simp (disch := omega) only [tput_eq, tput2, tput_ne, upd_eq, upd_ne, ne_eq, va_upeq, va_upne, va_up2, not_true_eq_false, not_false_eq_true, or_false, false_or, or_true, true_or, and_true, true_and, and_false, false_and, or_self, and_self, if_true, if_false, ite_true, ite_false, eq_self]; exact hK) | (simp (disch := omega) only [tput_eq, tput2, tput_ne, upd_eq, upd_ne, ne_eq, va_upeq, va_upne, va_up2, not_true_eq_false, not_false_eq_true, or_false, false_or, or_true, true_or, and_true, true_and, and_false, false_and, or_self, and_self, if_true, if_false, ite_true, ite_false, eq_self] at hK; exact hK)
