theorem lnf_none {c : T2} {P : Nat → Int32} {nb m s b : Nat} {key : Int32} (e : c 10 s = -1) : lnf c P nb m s b key = none := by rw [lnf, if_pos e]
theorem lnf_some {c : T2} {P : Nat → Int32} {nb m s b cu lm : Nat} {key : Int32} (e : c 10 s = nI cu) (hcu : cu < 6) (elm : c 22 cu = nI lm) (hlm : lm < 9) : lnf c P nb m s b key = blf c P nb m s b cu key lm := by
  rw [lnf, if_neg (by rw [e]; exact nI_nm1 (by omega)), e, tnt hcu, elm, tnt hlm]
/-- the customs, as numbers -/
theorem CI.cu {c : T2} (h : CI c) {s : Nat} (hs : s < 6) : c 10 s = -1 ∨ ∃ cu lm : Nat, cu < tn (c 32 9) ∧ cu < 6 ∧ lm < 9 ∧ c 10 s = nI cu ∧ c 22 cu = nI lm ∧ tn (c 22 cu) = lm := by
  rcases h.2.1 s hs with e | ⟨e, l1⟩
  · exact Or.inl e
  · refine Or.inr ⟨tn (c 10 s), tn (c 22 (tn (c 10 s))), l1, ?_, (h.2.2 _ l1).1.2, e, (h.2.2 _ l1).1.1, rfl⟩
    have := h.1.2
    omega
theorem CI.line {c : T2} (h : CI c) {cu i : Nat} (hcu : cu < tn (c 32 9)) (hi : i < tn (c 22 cu)) : c 25 (8 * cu + i) = nI (tn (c 25 (8 * cu + i))) ∧ tn (c 25 (8 * cu + i)) ≤ 3 ∧ ∀ t, t < tn (c 25 (8 * cu + i)) → isN (c 26 (3 * (8 * cu + i) + t)) 8 := by
  obtain ⟨h1, h2⟩ := (h.2.2 cu hcu).2 i hi
  have := h1.2
  exact ⟨h1.1, by omega, h2⟩
theorem d_Rf_lineFor_0 : decode M_Rf_lineFor.2.1 0 = .ok (.aload_n 0, 1) := by decide +kernel
theorem d_Rf_lineFor_1 : decode M_Rf_lineFor.2.1 1 = .ok (.getfield 43, 3) := by decide +kernel
theorem d_Rf_lineFor_4 : decode M_Rf_lineFor.2.1 4 = .ok (.aload_n 0, 1) := by decide +kernel
theorem d_Rf_lineFor_5 : decode M_Rf_lineFor.2.1 5 = .ok (.getfield 7, 3) := by decide +kernel
theorem d_Rf_lineFor_8 : decode M_Rf_lineFor.2.1 8 = .ok (.bipush 84, 2) := by decide +kernel
theorem d_Rf_lineFor_10 : decode M_Rf_lineFor.2.1 10 = .ok (.iload_n 1, 1) := by decide +kernel
theorem d_Rf_lineFor_11 : decode M_Rf_lineFor.2.1 11 = .ok (.iadd, 1) := by decide +kernel
theorem d_Rf_lineFor_12 : decode M_Rf_lineFor.2.1 12 = .ok (.iaload, 1) := by decide +kernel
theorem d_Rf_lineFor_13 : decode M_Rf_lineFor.2.1 13 = .ok (.iaload, 1) := by decide +kernel
theorem d_Rf_lineFor_14 : decode M_Rf_lineFor.2.1 14 = .ok (.istore_n 3, 1) := by decide +kernel
theorem d_Rf_lineFor_15 : decode M_Rf_lineFor.2.1 15 = .ok (.iconst (-1), 1) := by decide +kernel
theorem d_Rf_lineFor_16 : decode M_Rf_lineFor.2.1 16 = .ok (.istore 4, 2) := by decide +kernel
theorem d_Rf_lineFor_18 : decode M_Rf_lineFor.2.1 18 = .ok (.iconst 0, 1) := by decide +kernel
theorem d_Rf_lineFor_19 : decode M_Rf_lineFor.2.1 19 = .ok (.istore 5, 2) := by decide +kernel
theorem d_Rf_lineFor_21 : decode M_Rf_lineFor.2.1 21 = .ok (.iload_n 3, 1) := by decide +kernel
theorem d_Rf_lineFor_22 : decode M_Rf_lineFor.2.1 22 = .ok (.iconst (-1), 1) := by decide +kernel
theorem d_Rf_lineFor_23 : decode M_Rf_lineFor.2.1 23 = .ok (.if_icmp .eq 60, 3) := by decide +kernel
theorem d_Rf_lineFor_26 : decode M_Rf_lineFor.2.1 26 = .ok (.iload 5, 2) := by decide +kernel
theorem d_Rf_lineFor_28 : decode M_Rf_lineFor.2.1 28 = .ok (.aload_n 0, 1) := by decide +kernel
theorem d_Rf_lineFor_29 : decode M_Rf_lineFor.2.1 29 = .ok (.getfield 80, 3) := by decide +kernel
theorem d_Rf_lineFor_32 : decode M_Rf_lineFor.2.1 32 = .ok (.iload_n 3, 1) := by decide +kernel
theorem d_Rf_lineFor_33 : decode M_Rf_lineFor.2.1 33 = .ok (.iaload, 1) := by decide +kernel
theorem d_Rf_lineFor_34 : decode M_Rf_lineFor.2.1 34 = .ok (.if_icmp .ge 49, 3) := by decide +kernel
theorem d_Rf_lineFor_37 : decode M_Rf_lineFor.2.1 37 = .ok (.aload_n 0, 1) := by decide +kernel
theorem d_Rf_lineFor_38 : decode M_Rf_lineFor.2.1 38 = .ok (.getfield 83, 3) := by decide +kernel
theorem d_Rf_lineFor_41 : decode M_Rf_lineFor.2.1 41 = .ok (.bipush 8, 2) := by decide +kernel
theorem d_Rf_lineFor_43 : decode M_Rf_lineFor.2.1 43 = .ok (.iload_n 3, 1) := by decide +kernel
theorem d_Rf_lineFor_44 : decode M_Rf_lineFor.2.1 44 = .ok (.imul, 1) := by decide +kernel
theorem d_Rf_lineFor_45 : decode M_Rf_lineFor.2.1 45 = .ok (.iload 5, 2) := by decide +kernel
theorem d_Rf_lineFor_47 : decode M_Rf_lineFor.2.1 47 = .ok (.iadd, 1) := by decide +kernel
theorem d_Rf_lineFor_48 : decode M_Rf_lineFor.2.1 48 = .ok (.iaload, 1) := by decide +kernel
theorem d_Rf_lineFor_49 : decode M_Rf_lineFor.2.1 49 = .ok (.iload_n 2, 1) := by decide +kernel
theorem d_Rf_lineFor_50 : decode M_Rf_lineFor.2.1 50 = .ok (.if_icmp .ne 23, 3) := by decide +kernel
theorem d_Rf_lineFor_53 : decode M_Rf_lineFor.2.1 53 = .ok (.aload_n 0, 1) := by decide +kernel
theorem d_Rf_lineFor_54 : decode M_Rf_lineFor.2.1 54 = .ok (.bipush 8, 2) := by decide +kernel
theorem d_Rf_lineFor_56 : decode M_Rf_lineFor.2.1 56 = .ok (.iload_n 3, 1) := by decide +kernel
theorem d_Rf_lineFor_57 : decode M_Rf_lineFor.2.1 57 = .ok (.imul, 1) := by decide +kernel
theorem d_Rf_lineFor_58 : decode M_Rf_lineFor.2.1 58 = .ok (.iload 5, 2) := by decide +kernel
theorem d_Rf_lineFor_60 : decode M_Rf_lineFor.2.1 60 = .ok (.iadd, 1) := by decide +kernel
theorem d_Rf_lineFor_61 : decode M_Rf_lineFor.2.1 61 = .ok (.iload_n 1, 1) := by decide +kernel
theorem d_Rf_lineFor_62 : decode M_Rf_lineFor.2.1 62 = .ok (.invokevirtual 223, 3) := by decide +kernel
theorem d_Rf_lineFor_65 : decode M_Rf_lineFor.2.1 65 = .ok (.ifCond .eq 8, 3) := by decide +kernel
theorem d_Rf_lineFor_68 : decode M_Rf_lineFor.2.1 68 = .ok (.iload 5, 2) := by decide +kernel
theorem d_Rf_lineFor_70 : decode M_Rf_lineFor.2.1 70 = .ok (.goto 5, 3) := by decide +kernel
theorem d_Rf_lineFor_73 : decode M_Rf_lineFor.2.1 73 = .ok (.iload 4, 2) := by decide +kernel
theorem d_Rf_lineFor_75 : decode M_Rf_lineFor.2.1 75 = .ok (.istore 4, 2) := by decide +kernel
theorem d_Rf_lineFor_77 : decode M_Rf_lineFor.2.1 77 = .ok (.iinc 5 1, 3) := by decide +kernel
theorem d_Rf_lineFor_80 : decode M_Rf_lineFor.2.1 80 = .ok (.goto (-59), 3) := by decide +kernel
theorem d_Rf_lineFor_83 : decode M_Rf_lineFor.2.1 83 = .ok (.iload 4, 2) := by decide +kernel
theorem d_Rf_lineFor_85 : decode M_Rf_lineFor.2.1 85 = .ok (.ireturn, 1) := by decide +kernel
set_option maxHeartbeats 4000000 in
set_option maxRecDepth 100000 in
theorem ok_Rf_lineFor {D : xD} {N : Nat} {l : Launch} {d : Nat} {c z : T2} {P Q : Nat → Int32} {rest : List va_E} {K : Option Value → List va_E → Prop} {nb : Nat} (hnb : c 32 1 = nI nb) (h12 : nb ≤ 12) {m : Nat} (em : P 234 = nI m) (hm : m < 14700) {b s : Nat} (hb : b < 12) (hs : s < 6) (es : P (84 + b) = nI s) {key : Int32} (hCI : CI c) (hK : K (some (.int (ov (lnf c P nb m s b key)))) (encR D N c z P Q ++ rest)) : Ok D N l (d + 3) M_Rf_lineFor [.ref (N + 0), .int (nI b), .int key] (encR D N c z P Q ++ rest) 0 0 K := by
  refine ok_of (L := [(0, _), (1, _), (2, _)]) (by decide) (Nat.le_of_ble_eq_true rfl) rfl ?_
  rcases hCI.cu hs with e | ⟨cu, lm, l1, l6, l9, e, elm, etn⟩
  · skip
    refine wp_aload_n d_Rf_lineFor_0 rfl rfl ?_
    refine wp_get fl_Rf_43 d_Rf_lineFor_1 rfl rfl rfl ?_
    refine wp_aload_n d_Rf_lineFor_4 rfl rfl ?_
    refine wp_get fl_Rf_7 d_Rf_lineFor_5 rfl rfl rfl ?_
    refine wp_bipush d_Rf_lineFor_8 rfl bp_84 ?_
    refine wp_iload_n d_Rf_lineFor_10 rfl rfl ?_
    first | refine wp_iaddN d_Rf_lineFor_11 rfl ?_ | refine wp_iadd d_Rf_lineFor_11 rfl ?_
    refine wp_iald d_Rf_lineFor_12 rfl (rfl) (by omega) (by decide) ?_
    rw [es]
    refine wp_iald d_Rf_lineFor_13 rfl (rfl) (by omega) (by decide) ?_
    rw [e]
    refine wp_istore_n (L2 := [(3, _), (0, _), (1, _), (2, _)]) d_Rf_lineFor_14 rfl (by decide) rfl ?_
    refine wp_iconst d_Rf_lineFor_15 rfl ic_m1 ?_
    refine wp_istore (L2 := [(4, _), (3, _), (0, _), (1, _), (2, _)]) d_Rf_lineFor_16 rfl (by decide) rfl ?_
    refine wp_iconst d_Rf_lineFor_18 rfl ic_0 ?_
    refine wp_istore (L2 := [(5, _), (4, _), (3, _), (0, _), (1, _), (2, _)]) d_Rf_lineFor_19 rfl (by decide) rfl ?_
    refine wp_iload_n d_Rf_lineFor_21 rfl rfl ?_
    refine wp_iconst d_Rf_lineFor_22 rfl ic_m1 ?_
    refine wp_icmp_eq_t (tgt := 83) d_Rf_lineFor_23 (by decide) (rfl) ?_
    refine wp_iload d_Rf_lineFor_83 rfl rfl ?_
    refine wp_iret d_Rf_lineFor_85 rfl (Nat.le_refl _) (Nat.le_refl _) ?_
    rw [lnf_none e] at hK; exact hK
  · skip
    have lp : ∀ i : Nat, i ≤ lm → Wp D N l (EI M_Rf_lineFor) M_Rf_lineFor (Rm (d + 3) 0 0) (Qm D N K 0 0) 0 0 21 [(5, .int (nI i)), (4, .int (ov (blf c P nb m s b cu key i))), (3, .int (nI cu)), (0, .ref (N + 0)), (1, .int (nI b)), (2, .int key)] [] (encR D N c z P Q ++ rest) := by
      refine up_loop ?_ ?_
      · skip
        refine wp_iload_n d_Rf_lineFor_21 rfl rfl ?_
        refine wp_iconst d_Rf_lineFor_22 rfl ic_m1 ?_
        refine wp_icmp_eq_f (tgt := 83) d_Rf_lineFor_23 (by decide) rfl (nI_nm1 (by omega)) ?_
        refine wp_iload d_Rf_lineFor_26 rfl rfl ?_
        refine wp_aload_n d_Rf_lineFor_28 rfl rfl ?_
        refine wp_get fl_Rf_80 d_Rf_lineFor_29 rfl rfl rfl ?_
        refine wp_iload_n d_Rf_lineFor_32 rfl rfl ?_
        refine wp_iald d_Rf_lineFor_33 rfl (rfl) (by omega) (by decide) ?_
        rw [elm]
        refine wp_icmp_ge_t (tgt := 83) d_Rf_lineFor_34 (by decide) (nI_le (Nat.le_refl _) (by omega)) ?_
        refine wp_iload d_Rf_lineFor_83 rfl rfl ?_
        refine wp_iret d_Rf_lineFor_85 rfl (Nat.le_refl _) (Nat.le_refl _) ?_
        rw [lnf_some e l6 elm l9] at hK; exact hK
      · intro i hi ih
        refine wp_iload_n d_Rf_lineFor_21 rfl rfl ?_
        refine wp_iconst d_Rf_lineFor_22 rfl ic_m1 ?_
        refine wp_icmp_eq_f (tgt := 83) d_Rf_lineFor_23 (by decide) rfl (nI_nm1 (by omega)) ?_
        refine wp_iload d_Rf_lineFor_26 rfl rfl ?_
        refine wp_aload_n d_Rf_lineFor_28 rfl rfl ?_
        refine wp_get fl_Rf_80 d_Rf_lineFor_29 rfl rfl rfl ?_
        refine wp_iload_n d_Rf_lineFor_32 rfl rfl ?_
        refine wp_iald d_Rf_lineFor_33 rfl (rfl) (by omega) (by decide) ?_
        rw [elm]
        refine wp_icmp_ge_f (tgt := 83) d_Rf_lineFor_34 (by decide) rfl (nI_ge hi (by omega)) ?_
        refine wp_aload_n d_Rf_lineFor_37 rfl rfl ?_
        refine wp_get fl_Rf_83 d_Rf_lineFor_38 rfl rfl rfl ?_
        refine wp_bipush d_Rf_lineFor_41 rfl bp_8 ?_
        refine wp_iload_n d_Rf_lineFor_43 rfl rfl ?_
        first | refine wp_imulN d_Rf_lineFor_44 rfl ?_ | refine wp_imul d_Rf_lineFor_44 rfl ?_
        refine wp_iload d_Rf_lineFor_45 rfl rfl ?_
        first | refine wp_iaddN d_Rf_lineFor_47 rfl ?_ | refine wp_iadd d_Rf_lineFor_47 rfl ?_
        refine wp_iald d_Rf_lineFor_48 rfl (rfl) (by omega) (by decide) ?_
        refine wp_iload_n d_Rf_lineFor_49 rfl rfl ?_
        refine wp_icmp_ne (tgt := 73) d_Rf_lineFor_50 (by decide) rfl (fun hc_50 => ?_) (fun hc_50 => ?_)
        · refine wp_iload d_Rf_lineFor_73 rfl rfl ?_
          refine wp_istore (L2 := [(4, _), (5, _), (3, _), (0, _), (1, _), (2, _)]) d_Rf_lineFor_75 rfl (by decide) rfl ?_
          refine wp_iinc (L2 := [(5, _), (4, _), (3, _), (0, _), (1, _), (2, _)]) d_Rf_lineFor_77 rfl rfl (iinc_1) (by decide) rfl ?_
          refine wp_goto (tgt := 21) d_Rf_lineFor_80 (by decide) ?_
          first | (rw [blf, if_pos ⟨hc_50, hh⟩] at ih; exact ih) | (rw [blf, if_neg (fun z => by rw [hh] at z; exact absurd z.2 (by decide))] at ih; exact ih) | (rw [blf, if_neg (fun z => hc_50 z.1)] at ih; exact ih)
        · refine wp_aload_n d_Rf_lineFor_53 rfl rfl ?_
          refine wp_bipush d_Rf_lineFor_54 rfl bp_8 ?_
          refine wp_iload_n d_Rf_lineFor_56 rfl rfl ?_
          first | refine wp_imulN d_Rf_lineFor_57 rfl ?_ | refine wp_imul d_Rf_lineFor_57 rfl ?_
          refine wp_iload d_Rf_lineFor_58 rfl rfl ?_
          first | refine wp_iaddN d_Rf_lineFor_60 rfl ?_ | refine wp_iadd d_Rf_lineFor_60 rfl ?_
          refine wp_iload_n d_Rf_lineFor_61 rfl rfl ?_
          refine wp_cv2 lk_Rf_223 (ro _ _ _) d_Rf_lineFor_62 rfl (Nat.le_of_ble_eq_true rfl) (rfl) rfl (Nat.zero_le _) (Nat.zero_le _) ?_
          obtain ⟨q1, q2, q3⟩ := hCI.line l1 (show i < tn (c 22 cu) by rw [etn]; exact hi)
          refine ok_Rf_holds hnb h12 em hm hb hs es (by omega) q1 q2 q3 (fun hh => ?_) (fun hh => ?_)
          · refine wp_if_eq_f (tgt := 73) d_Rf_lineFor_65 (by decide) rfl (by decide) ?_
            refine wp_iload d_Rf_lineFor_68 rfl rfl ?_
            refine wp_goto (tgt := 75) d_Rf_lineFor_70 (by decide) ?_
            refine wp_istore (L2 := [(4, _), (5, _), (3, _), (0, _), (1, _), (2, _)]) d_Rf_lineFor_75 rfl (by decide) rfl ?_
            refine wp_iinc (L2 := [(5, _), (4, _), (3, _), (0, _), (1, _), (2, _)]) d_Rf_lineFor_77 rfl rfl (iinc_1) (by decide) rfl ?_
            refine wp_goto (tgt := 21) d_Rf_lineFor_80 (by decide) ?_
            first | (rw [blf, if_pos ⟨hc_50, hh⟩] at ih; exact ih) | (rw [blf, if_neg (fun z => by rw [hh] at z; exact absurd z.2 (by decide))] at ih; exact ih) | (rw [blf, if_neg (fun z => hc_50 z.1)] at ih; exact ih)
          · refine wp_if_eq_t (tgt := 73) d_Rf_lineFor_65 (by decide) (by decide) ?_
            refine wp_iload d_Rf_lineFor_73 rfl rfl ?_
            refine wp_istore (L2 := [(4, _), (5, _), (3, _), (0, _), (1, _), (2, _)]) d_Rf_lineFor_75 rfl (by decide) rfl ?_
            refine wp_iinc (L2 := [(5, _), (4, _), (3, _), (0, _), (1, _), (2, _)]) d_Rf_lineFor_77 rfl rfl (iinc_1) (by decide) rfl ?_
            refine wp_goto (tgt := 21) d_Rf_lineFor_80 (by decide) ?_
            first | (rw [blf, if_pos ⟨hc_50, hh⟩] at ih; exact ih) | (rw [blf, if_neg (fun z => by rw [hh] at z; exact absurd z.2 (by decide))] at ih; exact ih) | (rw [blf, if_neg (fun z => hc_50 z.1)] at ih; exact ih)
    refine wp_aload_n d_Rf_lineFor_0 rfl rfl ?_
    refine wp_get fl_Rf_43 d_Rf_lineFor_1 rfl rfl rfl ?_
    refine wp_aload_n d_Rf_lineFor_4 rfl rfl ?_
    refine wp_get fl_Rf_7 d_Rf_lineFor_5 rfl rfl rfl ?_
    refine wp_bipush d_Rf_lineFor_8 rfl bp_84 ?_
    refine wp_iload_n d_Rf_lineFor_10 rfl rfl ?_
    first | refine wp_iaddN d_Rf_lineFor_11 rfl ?_ | refine wp_iadd d_Rf_lineFor_11 rfl ?_
    refine wp_iald d_Rf_lineFor_12 rfl (rfl) (by omega) (by decide) ?_
    rw [es]
    refine wp_iald d_Rf_lineFor_13 rfl (rfl) (by omega) (by decide) ?_
    rw [e]
    refine wp_istore_n (L2 := [(3, _), (0, _), (1, _), (2, _)]) d_Rf_lineFor_14 rfl (by decide) rfl ?_
    refine wp_iconst d_Rf_lineFor_15 rfl ic_m1 ?_
    refine wp_istore (L2 := [(4, _), (3, _), (0, _), (1, _), (2, _)]) d_Rf_lineFor_16 rfl (by decide) rfl ?_
    refine wp_iconst d_Rf_lineFor_18 rfl ic_0 ?_
    refine wp_istore (L2 := [(5, _), (4, _), (3, _), (0, _), (1, _), (2, _)]) d_Rf_lineFor_19 rfl (by decide) rfl ?_
    exact lp 0 (Nat.zero_le _)
theorem d_Rf_lawOf_0 : decode M_Rf_lawOf.2.1 0 = .ok (.aload_n 0, 1) := by decide +kernel
theorem d_Rf_lawOf_1 : decode M_Rf_lawOf.2.1 1 = .ok (.iload_n 1, 1) := by decide +kernel
theorem d_Rf_lawOf_2 : decode M_Rf_lawOf.2.1 2 = .ok (.iload_n 2, 1) := by decide +kernel
theorem d_Rf_lawOf_3 : decode M_Rf_lawOf.2.1 3 = .ok (.invokevirtual 227, 3) := by decide +kernel
theorem d_Rf_lawOf_6 : decode M_Rf_lawOf.2.1 6 = .ok (.istore_n 3, 1) := by decide +kernel
theorem d_Rf_lawOf_7 : decode M_Rf_lawOf.2.1 7 = .ok (.iload_n 3, 1) := by decide +kernel
theorem d_Rf_lawOf_8 : decode M_Rf_lawOf.2.1 8 = .ok (.iconst (-1), 1) := by decide +kernel
theorem d_Rf_lawOf_9 : decode M_Rf_lawOf.2.1 9 = .ok (.if_icmp .ne 27, 3) := by decide +kernel
theorem d_Rf_lawOf_12 : decode M_Rf_lawOf.2.1 12 = .ok (.iload_n 2, 1) := by decide +kernel
theorem d_Rf_lawOf_13 : decode M_Rf_lawOf.2.1 13 = .ok (.ifCond .ne 8, 3) := by decide +kernel
theorem d_Rf_lawOf_16 : decode M_Rf_lawOf.2.1 16 = .ok (.bipush 100, 2) := by decide +kernel
theorem d_Rf_lawOf_18 : decode M_Rf_lawOf.2.1 18 = .ok (.goto 42, 3) := by decide +kernel
theorem d_Rf_lawOf_21 : decode M_Rf_lawOf.2.1 21 = .ok (.iload_n 2, 1) := by decide +kernel
theorem d_Rf_lawOf_22 : decode M_Rf_lawOf.2.1 22 = .ok (.iconst 1, 1) := by decide +kernel
theorem d_Rf_lawOf_23 : decode M_Rf_lawOf.2.1 23 = .ok (.if_icmp .ne 8, 3) := by decide +kernel
theorem d_Rf_lawOf_26 : decode M_Rf_lawOf.2.1 26 = .ok (.bipush 20, 2) := by decide +kernel
theorem d_Rf_lawOf_28 : decode M_Rf_lawOf.2.1 28 = .ok (.goto 32, 3) := by decide +kernel
theorem d_Rf_lawOf_31 : decode M_Rf_lawOf.2.1 31 = .ok (.bipush 30, 2) := by decide +kernel
theorem d_Rf_lawOf_33 : decode M_Rf_lawOf.2.1 33 = .ok (.goto 27, 3) := by decide +kernel
theorem d_Rf_lawOf_36 : decode M_Rf_lawOf.2.1 36 = .ok (.aload_n 0, 1) := by decide +kernel
theorem d_Rf_lawOf_37 : decode M_Rf_lawOf.2.1 37 = .ok (.getfield 86, 3) := by decide +kernel
theorem d_Rf_lawOf_40 : decode M_Rf_lawOf.2.1 40 = .ok (.bipush 8, 2) := by decide +kernel
theorem d_Rf_lawOf_42 : decode M_Rf_lawOf.2.1 42 = .ok (.aload_n 0, 1) := by decide +kernel
theorem d_Rf_lawOf_43 : decode M_Rf_lawOf.2.1 43 = .ok (.getfield 43, 3) := by decide +kernel
theorem d_Rf_lawOf_46 : decode M_Rf_lawOf.2.1 46 = .ok (.aload_n 0, 1) := by decide +kernel
theorem d_Rf_lawOf_47 : decode M_Rf_lawOf.2.1 47 = .ok (.getfield 7, 3) := by decide +kernel
theorem d_Rf_lawOf_50 : decode M_Rf_lawOf.2.1 50 = .ok (.bipush 84, 2) := by decide +kernel
theorem d_Rf_lawOf_52 : decode M_Rf_lawOf.2.1 52 = .ok (.iload_n 1, 1) := by decide +kernel
theorem d_Rf_lawOf_53 : decode M_Rf_lawOf.2.1 53 = .ok (.iadd, 1) := by decide +kernel
theorem d_Rf_lawOf_54 : decode M_Rf_lawOf.2.1 54 = .ok (.iaload, 1) := by decide +kernel
theorem d_Rf_lawOf_55 : decode M_Rf_lawOf.2.1 55 = .ok (.iaload, 1) := by decide +kernel
theorem d_Rf_lawOf_56 : decode M_Rf_lawOf.2.1 56 = .ok (.imul, 1) := by decide +kernel
theorem d_Rf_lawOf_57 : decode M_Rf_lawOf.2.1 57 = .ok (.iload_n 3, 1) := by decide +kernel
theorem d_Rf_lawOf_58 : decode M_Rf_lawOf.2.1 58 = .ok (.iadd, 1) := by decide +kernel
theorem d_Rf_lawOf_59 : decode M_Rf_lawOf.2.1 59 = .ok (.iaload, 1) := by decide +kernel
theorem d_Rf_lawOf_60 : decode M_Rf_lawOf.2.1 60 = .ok (.ireturn, 1) := by decide +kernel
set_option maxHeartbeats 4000000 in
set_option maxRecDepth 100000 in
theorem ok_Rf_lawOf {D : xD} {N : Nat} {l : Launch} {d : Nat} {c z : T2} {P Q : Nat → Int32} {rest : List va_E} {K : Option Value → List va_E → Prop} {nb : Nat} (hnb : c 32 1 = nI nb) (h12 : nb ≤ 12) {m : Nat} (em : P 234 = nI m) (hm : m < 14700) {b s : Nat} (hb : b < 12) (hs : s < 6) (es : P (84 + b) = nI s) {key : Nat} (hk3 : key < 3) (hCI : CI c) (hK : K (some (.int (lawv c P nb m s b key))) (encR D N c z P Q ++ rest)) : Ok D N l (d + 4) M_Rf_lawOf [.ref (N + 0), .int (nI b), .int (nI key)] (encR D N c z P Q ++ rest) 0 0 K := by
  refine ok_of (L := [(0, _), (1, _), (2, _)]) (by decide) (Nat.le_of_ble_eq_true rfl) rfl ?_
  cases ho : lnf c P nb m s b (nI key) with
  | none =>
    rw [lawv, ho] at hK
    rcases (show key = 0 ∨ key = 1 ∨ key = 2 by omega) with rfl | rfl | rfl
    · skip
      refine wp_aload_n d_Rf_lawOf_0 rfl rfl ?_
      refine wp_iload_n d_Rf_lawOf_1 rfl rfl ?_
      refine wp_iload_n d_Rf_lawOf_2 rfl rfl ?_
      refine wp_cv2 lk_Rf_227 (ro _ _ _) d_Rf_lawOf_3 rfl (Nat.le_of_ble_eq_true rfl) (rfl) rfl (Nat.zero_le _) (Nat.zero_le _) ?_
      refine ok_Rf_lineFor hnb h12 em hm hb hs es hCI ?_
      rw [ho]
      refine wp_istore_n (L2 := [(3, _), (0, _), (1, _), (2, _)]) d_Rf_lawOf_6 rfl (by decide) rfl ?_
      refine wp_iload_n d_Rf_lawOf_7 rfl rfl ?_
      refine wp_iconst d_Rf_lawOf_8 rfl ic_m1 ?_
      refine wp_icmp_ne_f (tgt := 36) d_Rf_lawOf_9 (by decide) rfl (by decide) ?_
      refine wp_iload_n d_Rf_lawOf_12 rfl rfl ?_
      refine wp_if_ne_f (tgt := 21) d_Rf_lawOf_13 (by decide) rfl (by decide) ?_
      refine wp_bipush d_Rf_lawOf_16 rfl bp_100 ?_
      refine wp_goto (tgt := 60) d_Rf_lawOf_18 (by decide) ?_
      refine wp_iret d_Rf_lawOf_60 rfl (Nat.le_refl _) (Nat.le_refl _) ?_
      exact hK
    · skip
      refine wp_aload_n d_Rf_lawOf_0 rfl rfl ?_
      refine wp_iload_n d_Rf_lawOf_1 rfl rfl ?_
      refine wp_iload_n d_Rf_lawOf_2 rfl rfl ?_
      refine wp_cv2 lk_Rf_227 (ro _ _ _) d_Rf_lawOf_3 rfl (Nat.le_of_ble_eq_true rfl) (rfl) rfl (Nat.zero_le _) (Nat.zero_le _) ?_
      refine ok_Rf_lineFor hnb h12 em hm hb hs es hCI ?_
      rw [ho]
      refine wp_istore_n (L2 := [(3, _), (0, _), (1, _), (2, _)]) d_Rf_lawOf_6 rfl (by decide) rfl ?_
      refine wp_iload_n d_Rf_lawOf_7 rfl rfl ?_
      refine wp_iconst d_Rf_lawOf_8 rfl ic_m1 ?_
      refine wp_icmp_ne_f (tgt := 36) d_Rf_lawOf_9 (by decide) rfl (by decide) ?_
      refine wp_iload_n d_Rf_lawOf_12 rfl rfl ?_
      refine wp_if_ne_t (tgt := 21) d_Rf_lawOf_13 (by decide) (by decide) ?_
      refine wp_iload_n d_Rf_lawOf_21 rfl rfl ?_
      refine wp_iconst d_Rf_lawOf_22 rfl ic_1 ?_
      refine wp_icmp_ne_f (tgt := 31) d_Rf_lawOf_23 (by decide) rfl (by decide) ?_
      refine wp_bipush d_Rf_lawOf_26 rfl bp_20 ?_
      refine wp_goto (tgt := 60) d_Rf_lawOf_28 (by decide) ?_
      refine wp_iret d_Rf_lawOf_60 rfl (Nat.le_refl _) (Nat.le_refl _) ?_
      exact hK
    · skip
      refine wp_aload_n d_Rf_lawOf_0 rfl rfl ?_
      refine wp_iload_n d_Rf_lawOf_1 rfl rfl ?_
      refine wp_iload_n d_Rf_lawOf_2 rfl rfl ?_
      refine wp_cv2 lk_Rf_227 (ro _ _ _) d_Rf_lawOf_3 rfl (Nat.le_of_ble_eq_true rfl) (rfl) rfl (Nat.zero_le _) (Nat.zero_le _) ?_
      refine ok_Rf_lineFor hnb h12 em hm hb hs es hCI ?_
      rw [ho]
      refine wp_istore_n (L2 := [(3, _), (0, _), (1, _), (2, _)]) d_Rf_lawOf_6 rfl (by decide) rfl ?_
      refine wp_iload_n d_Rf_lawOf_7 rfl rfl ?_
      refine wp_iconst d_Rf_lawOf_8 rfl ic_m1 ?_
      refine wp_icmp_ne_f (tgt := 36) d_Rf_lawOf_9 (by decide) rfl (by decide) ?_
      refine wp_iload_n d_Rf_lawOf_12 rfl rfl ?_
      refine wp_if_ne_t (tgt := 21) d_Rf_lawOf_13 (by decide) (by decide) ?_
      refine wp_iload_n d_Rf_lawOf_21 rfl rfl ?_
      refine wp_iconst d_Rf_lawOf_22 rfl ic_1 ?_
      refine wp_icmp_ne_t (tgt := 31) d_Rf_lawOf_23 (by decide) (by decide) ?_
      refine wp_bipush d_Rf_lawOf_31 rfl bp_30 ?_
      refine wp_goto (tgt := 60) d_Rf_lawOf_33 (by decide) ?_
      refine wp_iret d_Rf_lawOf_60 rfl (Nat.le_refl _) (Nat.le_refl _) ?_
      exact hK
  | some i =>
    rcases hCI.cu hs with e | ⟨cu, lm, l1, l6, l9, e, elm, etn⟩
    · rw [lnf_none e] at ho; cases ho
    have hi := blf_lt ((lnf_some e l6 elm l9).symm.trans ho)
    rw [lawv, ho] at hK
    dsimp only at hK
    refine wp_aload_n d_Rf_lawOf_0 rfl rfl ?_
    refine wp_iload_n d_Rf_lawOf_1 rfl rfl ?_
    refine wp_iload_n d_Rf_lawOf_2 rfl rfl ?_
    refine wp_cv2 lk_Rf_227 (ro _ _ _) d_Rf_lawOf_3 rfl (Nat.le_of_ble_eq_true rfl) (rfl) rfl (Nat.zero_le _) (Nat.zero_le _) ?_
    refine ok_Rf_lineFor hnb h12 em hm hb hs es hCI ?_
    rw [ho]
    refine wp_istore_n (L2 := [(3, _), (0, _), (1, _), (2, _)]) d_Rf_lawOf_6 rfl (by decide) rfl ?_
    refine wp_iload_n d_Rf_lawOf_7 rfl rfl ?_
    refine wp_iconst d_Rf_lawOf_8 rfl ic_m1 ?_
    refine wp_icmp_ne_t (tgt := 36) d_Rf_lawOf_9 (by decide) (nI_nm1 (by omega)) ?_
    refine wp_aload_n d_Rf_lawOf_36 rfl rfl ?_
    refine wp_get fl_Rf_86 d_Rf_lawOf_37 rfl rfl rfl ?_
    refine wp_bipush d_Rf_lawOf_40 rfl bp_8 ?_
    refine wp_aload_n d_Rf_lawOf_42 rfl rfl ?_
    refine wp_get fl_Rf_43 d_Rf_lawOf_43 rfl rfl rfl ?_
    refine wp_aload_n d_Rf_lawOf_46 rfl rfl ?_
    refine wp_get fl_Rf_7 d_Rf_lawOf_47 rfl rfl rfl ?_
    refine wp_bipush d_Rf_lawOf_50 rfl bp_84 ?_
    refine wp_iload_n d_Rf_lawOf_52 rfl rfl ?_
    first | refine wp_iaddN d_Rf_lawOf_53 rfl ?_ | refine wp_iadd d_Rf_lawOf_53 rfl ?_
    refine wp_iald d_Rf_lawOf_54 rfl (rfl) (by omega) (by decide) ?_
    rw [es]
    refine wp_iald d_Rf_lawOf_55 rfl (rfl) (by omega) (by decide) ?_
    rw [e]
    first | refine wp_imulN d_Rf_lawOf_56 rfl ?_ | refine wp_imul d_Rf_lawOf_56 rfl ?_
    refine wp_iload_n d_Rf_lawOf_57 rfl rfl ?_
    first | refine wp_iaddN d_Rf_lawOf_58 rfl ?_ | refine wp_iadd d_Rf_lawOf_58 rfl ?_
    refine wp_iald d_Rf_lawOf_59 rfl (rfl) (by omega) (by decide) ?_
    refine wp_iret d_Rf_lawOf_60 rfl (Nat.le_refl _) (Nat.le_refl _) ?_
    rw [e, tnt l6] at hK; exact hK
