def plv (cu : Nat) (o : Option Nat) : Int32 := match o with
  | none => -1
  | some i => nI (8 * cu + i)
theorem d_Tn_linePlace_0 : decode M_Tn_linePlace.2.1 0 = .ok (.aload_n 0, 1) := by decide +kernel
theorem d_Tn_linePlace_1 : decode M_Tn_linePlace.2.1 1 = .ok (.getfield 42, 3) := by decide +kernel
theorem d_Tn_linePlace_4 : decode M_Tn_linePlace.2.1 4 = .ok (.aload_n 1, 1) := by decide +kernel
theorem d_Tn_linePlace_5 : decode M_Tn_linePlace.2.1 5 = .ok (.iconst 5, 1) := by decide +kernel
theorem d_Tn_linePlace_6 : decode M_Tn_linePlace.2.1 6 = .ok (.iaload, 1) := by decide +kernel
theorem d_Tn_linePlace_7 : decode M_Tn_linePlace.2.1 7 = .ok (.iaload, 1) := by decide +kernel
theorem d_Tn_linePlace_8 : decode M_Tn_linePlace.2.1 8 = .ok (.istore_n 3, 1) := by decide +kernel
theorem d_Tn_linePlace_9 : decode M_Tn_linePlace.2.1 9 = .ok (.iconst (-1), 1) := by decide +kernel
theorem d_Tn_linePlace_10 : decode M_Tn_linePlace.2.1 10 = .ok (.istore 4, 2) := by decide +kernel
theorem d_Tn_linePlace_12 : decode M_Tn_linePlace.2.1 12 = .ok (.iload_n 3, 1) := by decide +kernel
theorem d_Tn_linePlace_13 : decode M_Tn_linePlace.2.1 13 = .ok (.ifCond .lt 11, 3) := by decide +kernel
theorem d_Tn_linePlace_16 : decode M_Tn_linePlace.2.1 16 = .ok (.iload_n 3, 1) := by decide +kernel
theorem d_Tn_linePlace_17 : decode M_Tn_linePlace.2.1 17 = .ok (.aload_n 0, 1) := by decide +kernel
theorem d_Tn_linePlace_18 : decode M_Tn_linePlace.2.1 18 = .ok (.getfield 81, 3) := by decide +kernel
theorem d_Tn_linePlace_21 : decode M_Tn_linePlace.2.1 21 = .ok (.if_icmp .lt 6, 3) := by decide +kernel
theorem d_Tn_linePlace_24 : decode M_Tn_linePlace.2.1 24 = .ok (.iload 4, 2) := by decide +kernel
theorem d_Tn_linePlace_26 : decode M_Tn_linePlace.2.1 26 = .ok (.ireturn, 1) := by decide +kernel
theorem d_Tn_linePlace_27 : decode M_Tn_linePlace.2.1 27 = .ok (.iconst 0, 1) := by decide +kernel
theorem d_Tn_linePlace_28 : decode M_Tn_linePlace.2.1 28 = .ok (.istore 5, 2) := by decide +kernel
theorem d_Tn_linePlace_30 : decode M_Tn_linePlace.2.1 30 = .ok (.iload 5, 2) := by decide +kernel
theorem d_Tn_linePlace_32 : decode M_Tn_linePlace.2.1 32 = .ok (.bipush 8, 2) := by decide +kernel
theorem d_Tn_linePlace_34 : decode M_Tn_linePlace.2.1 34 = .ok (.if_icmp .ge 55, 3) := by decide +kernel
theorem d_Tn_linePlace_37 : decode M_Tn_linePlace.2.1 37 = .ok (.aload_n 0, 1) := by decide +kernel
theorem d_Tn_linePlace_38 : decode M_Tn_linePlace.2.1 38 = .ok (.getfield 38, 3) := by decide +kernel
theorem d_Tn_linePlace_41 : decode M_Tn_linePlace.2.1 41 = .ok (.iload_n 3, 1) := by decide +kernel
theorem d_Tn_linePlace_42 : decode M_Tn_linePlace.2.1 42 = .ok (.bipush 8, 2) := by decide +kernel
theorem d_Tn_linePlace_44 : decode M_Tn_linePlace.2.1 44 = .ok (.imul, 1) := by decide +kernel
theorem d_Tn_linePlace_45 : decode M_Tn_linePlace.2.1 45 = .ok (.iload 5, 2) := by decide +kernel
theorem d_Tn_linePlace_47 : decode M_Tn_linePlace.2.1 47 = .ok (.iadd, 1) := by decide +kernel
theorem d_Tn_linePlace_48 : decode M_Tn_linePlace.2.1 48 = .ok (.aaload, 1) := by decide +kernel
theorem d_Tn_linePlace_49 : decode M_Tn_linePlace.2.1 49 = .ok (.astore 6, 2) := by decide +kernel
theorem d_Tn_linePlace_51 : decode M_Tn_linePlace.2.1 51 = .ok (.aload 6, 2) := by decide +kernel
theorem d_Tn_linePlace_53 : decode M_Tn_linePlace.2.1 53 = .ok (.ifnull 30, 3) := by decide +kernel
theorem d_Tn_linePlace_56 : decode M_Tn_linePlace.2.1 56 = .ok (.aload 6, 2) := by decide +kernel
theorem d_Tn_linePlace_58 : decode M_Tn_linePlace.2.1 58 = .ok (.getfield 108, 3) := by decide +kernel
theorem d_Tn_linePlace_61 : decode M_Tn_linePlace.2.1 61 = .ok (.iload_n 2, 1) := by decide +kernel
theorem d_Tn_linePlace_62 : decode M_Tn_linePlace.2.1 62 = .ok (.if_icmp .ne 21, 3) := by decide +kernel
theorem d_Tn_linePlace_65 : decode M_Tn_linePlace.2.1 65 = .ok (.aload 6, 2) := by decide +kernel
theorem d_Tn_linePlace_67 : decode M_Tn_linePlace.2.1 67 = .ok (.aload_n 1, 1) := by decide +kernel
theorem d_Tn_linePlace_68 : decode M_Tn_linePlace.2.1 68 = .ok (.invokevirtual 111, 3) := by decide +kernel
theorem d_Tn_linePlace_71 : decode M_Tn_linePlace.2.1 71 = .ok (.ifCond .eq 12, 3) := by decide +kernel
theorem d_Tn_linePlace_74 : decode M_Tn_linePlace.2.1 74 = .ok (.iload_n 3, 1) := by decide +kernel
theorem d_Tn_linePlace_75 : decode M_Tn_linePlace.2.1 75 = .ok (.bipush 8, 2) := by decide +kernel
theorem d_Tn_linePlace_77 : decode M_Tn_linePlace.2.1 77 = .ok (.imul, 1) := by decide +kernel
theorem d_Tn_linePlace_78 : decode M_Tn_linePlace.2.1 78 = .ok (.iload 5, 2) := by decide +kernel
theorem d_Tn_linePlace_80 : decode M_Tn_linePlace.2.1 80 = .ok (.iadd, 1) := by decide +kernel
theorem d_Tn_linePlace_81 : decode M_Tn_linePlace.2.1 81 = .ok (.istore 4, 2) := by decide +kernel
theorem d_Tn_linePlace_83 : decode M_Tn_linePlace.2.1 83 = .ok (.iinc 5 1, 3) := by decide +kernel
theorem d_Tn_linePlace_86 : decode M_Tn_linePlace.2.1 86 = .ok (.goto (-56), 3) := by decide +kernel
theorem d_Tn_linePlace_89 : decode M_Tn_linePlace.2.1 89 = .ok (.iload 4, 2) := by decide +kernel
theorem d_Tn_linePlace_91 : decode M_Tn_linePlace.2.1 91 = .ok (.ireturn, 1) := by decide +kernel
set_option maxHeartbeats 4000000 in
set_option maxRecDepth 100000 in
theorem ok_Tn_linePlace {D : xD} {N : Nat} {l : Launch} {d : Nat} {c x V : T2} {P : Nat → Int32} {ln df : Nat → Option Nat} {rest : List va_E} {K : Option Value → List va_E → Prop} {nb m s b : Nat} (hs : s < 6) {key : Int32} (hCI : CI c) (hLOK : LOK D N c ln rest) (hx1 : ∀ f, f < 8 → x 1 f = fld c P nb m s b f) (hK : K (some (.int (plv (tn (c 10 s)) (lnf c P nb m s b key)))) (encC D N c x V ln df ++ rest)) : Ok D N l (d + 1) M_Tn_linePlace [.ref (N + 1), .ref (N + 13), .int key] (encC D N c x V ln df ++ rest) 0 0 K := by
  have h5 : x 1 5 = nI s := (hx1 5 (by decide)).trans rfl
  refine ok_of (L := [(0, _), (1, _), (2, _)]) (by decide) (Nat.le_of_ble_eq_true rfl) rfl ?_
  rcases hCI.cu hs with e | ⟨cu, lm, l1, l6, l9, e, elm, etn⟩
  · skip
    refine wp_aload_n (q := 1) d_Tn_linePlace_0 rfl rfl ?_
    refine wp_get (q := 4) fl_Tn_42 d_Tn_linePlace_1 rfl rfl rfl ?_
    refine wp_aload_n (q := 5) d_Tn_linePlace_4 rfl rfl ?_
    refine wp_iconst (q := 6) d_Tn_linePlace_5 rfl ic_5 ?_
    refine wp_iald (q := 7) d_Tn_linePlace_6 rfl (rfl) (by omega) (by decide) ?_
    rw [h5]
    refine wp_iald (q := 8) d_Tn_linePlace_7 rfl (rfl) (by omega) (by decide) ?_
    rw [e]
    refine wp_istore_n (q := 9) (L2 := [(3, _), (0, _), (1, _), (2, _)]) d_Tn_linePlace_8 rfl (by decide) rfl ?_
    refine wp_iconst (q := 10) d_Tn_linePlace_9 rfl ic_m1 ?_
    refine wp_istore (q := 12) (L2 := [(4, _), (3, _), (0, _), (1, _), (2, _)]) d_Tn_linePlace_10 rfl (by decide) rfl ?_
    refine wp_iload_n (q := 13) d_Tn_linePlace_12 rfl rfl ?_
    refine wp_if_lt_t (tgt := 24) d_Tn_linePlace_13 (by decide) (by decide) ?_
    refine wp_iload (q := 26) d_Tn_linePlace_24 rfl rfl ?_
    refine wp_iret d_Tn_linePlace_26 rfl (Nat.le_refl _) (Nat.le_refl _) ?_
    rw [lnf_none e] at hK; exact hK
  · skip
    have lp2 : ∀ i : Nat, i ≤ 8 → lm ≤ i → Wp D N l (EI M_Tn_linePlace) M_Tn_linePlace (Rm (d + 1) 0 0) (Qm D N K 0 0) 0 0 30 [(5, .int (nI i)), (4, .int (plv cu (blf c P nb m s b cu key lm))), (3, .int (nI cu)), (0, .ref (N + 1)), (1, .ref (N + 13)), (2, .int key)] [] (encC D N c x V ln df ++ rest) := by
      refine up_loop ?_ ?_
      · intro hge; skip
        refine wp_iload (q := 32) d_Tn_linePlace_30 rfl rfl ?_
        refine wp_bipush (q := 34) d_Tn_linePlace_32 rfl bp_8 ?_
        refine wp_icmp_ge_t (tgt := 89) d_Tn_linePlace_34 (by decide) (nI_le (Nat.le_refl _) (by decide)) ?_
        refine wp_iload (q := 91) d_Tn_linePlace_89 rfl rfl ?_
        refine wp_iret d_Tn_linePlace_91 rfl (Nat.le_refl _) (Nat.le_refl _) ?_
        rw [lnf_some e l6 elm l9, e, tnt l6] at hK; exact hK
      · intro i hi ih hge
        refine wp_iload (q := 32) d_Tn_linePlace_30 rfl rfl ?_
        refine wp_bipush (q := 34) d_Tn_linePlace_32 rfl bp_8 ?_
        refine wp_icmp_ge_f (q := 37) (tgt := 89) d_Tn_linePlace_34 (by decide) rfl (nI_ge hi (by decide)) ?_
        refine wp_aload_n (q := 38) d_Tn_linePlace_37 rfl rfl ?_
        refine wp_get (q := 41) fl_Tn_38 d_Tn_linePlace_38 rfl rfl rfl ?_
        refine wp_iload_n (q := 42) d_Tn_linePlace_41 rfl rfl ?_
        refine wp_bipush (q := 44) d_Tn_linePlace_42 rfl bp_8 ?_
        first | refine wp_imulC (q := 45) d_Tn_linePlace_44 rfl ?_ | refine wp_imul (q := 45) d_Tn_linePlace_44 rfl ?_
        refine wp_iload (q := 47) d_Tn_linePlace_45 rfl rfl ?_
        first | refine wp_iaddN (q := 48) d_Tn_linePlace_47 rfl ?_ | refine wp_iadd (q := 48) d_Tn_linePlace_47 rfl ?_
        refine wp_aldLn (q := 49) d_Tn_linePlace_48 rfl (rfl) (by omega) (by decide) ((hLOK cu i l1 (by omega)).2 (by omega)) ?_
        refine wp_astoreN (q := 51) (L2 := [(6, _), (5, _), (4, _), (3, _), (0, _), (1, _), (2, _)]) d_Tn_linePlace_49 rfl (by decide) rfl ?_
        refine wp_aloadN (q := 53) d_Tn_linePlace_51 rfl rfl ?_
        refine wp_ifnullN (tgt := 83) d_Tn_linePlace_53 (by decide) ?_
        refine wp_iinc (q := 86) (L2 := [(5, _), (6, _), (4, _), (3, _), (0, _), (1, _), (2, _)]) d_Tn_linePlace_83 rfl rfl (iinc_1) (by decide) rfl ?_
        refine wp_goto (tgt := 30) d_Tn_linePlace_86 (by decide) ?_
        refine wp_sub [0, 2, 3, 4, 5, 6] rfl ?_
        exact ih (by omega)
    have lp1 : ∀ i : Nat, i ≤ lm → Wp D N l (EI M_Tn_linePlace) M_Tn_linePlace (Rm (d + 1) 0 0) (Qm D N K 0 0) 0 0 30 [(5, .int (nI i)), (4, .int (plv cu (blf c P nb m s b cu key i))), (3, .int (nI cu)), (0, .ref (N + 1)), (1, .ref (N + 13)), (2, .int key)] [] (encC D N c x V ln df ++ rest) := by
      refine up_loop ?_ ?_
      · skip
        exact lp2 lm (by omega) (Nat.le_refl _)
      · intro i hi ih
        refine wp_iload (q := 32) d_Tn_linePlace_30 rfl rfl ?_
        refine wp_bipush (q := 34) d_Tn_linePlace_32 rfl bp_8 ?_
        refine wp_icmp_ge_f (q := 37) (tgt := 89) d_Tn_linePlace_34 (by decide) rfl (nI_ge (by omega) (by decide)) ?_
        refine wp_aload_n (q := 38) d_Tn_linePlace_37 rfl rfl ?_
        refine wp_get (q := 41) fl_Tn_38 d_Tn_linePlace_38 rfl rfl rfl ?_
        refine wp_iload_n (q := 42) d_Tn_linePlace_41 rfl rfl ?_
        refine wp_bipush (q := 44) d_Tn_linePlace_42 rfl bp_8 ?_
        first | refine wp_imulC (q := 45) d_Tn_linePlace_44 rfl ?_ | refine wp_imul (q := 45) d_Tn_linePlace_44 rfl ?_
        refine wp_iload (q := 47) d_Tn_linePlace_45 rfl rfl ?_
        first | refine wp_iaddN (q := 48) d_Tn_linePlace_47 rfl ?_ | refine wp_iadd (q := 48) d_Tn_linePlace_47 rfl ?_
        obtain ⟨j, F, S, B, eln, hA, hF⟩ := (hLOK cu i l1 (by omega)).1 (by omega)
        obtain ⟨q1, q2, q3⟩ := hCI.line l1 (show i < tn (c 22 cu) by omega)
        refine wp_aldL (q := 49) d_Tn_linePlace_48 rfl (rfl) (by omega) (by decide) (eln) ?_
        refine wp_astore (q := 51) (L2 := [(6, _), (5, _), (4, _), (3, _), (0, _), (1, _), (2, _)]) d_Tn_linePlace_49 rfl (by decide) rfl ?_
        refine wp_aload (q := 53) d_Tn_linePlace_51 rfl rfl ?_
        refine wp_ifnull (q := 56) d_Tn_linePlace_53 rfl ?_
        refine wp_aload (q := 58) d_Tn_linePlace_56 rfl rfl ?_
        refine wp_get (q := 61) fl_Tn_108 d_Tn_linePlace_58 rfl (rdX.trans hA.1) rfl ?_
        refine wp_iload_n (q := 62) d_Tn_linePlace_61 rfl rfl ?_
        refine wp_icmp_ne (q := 65) (tgt := 83) d_Tn_linePlace_62 (by decide) rfl (fun hc_62 => ?_) (fun hc_62 => ?_)
        · refine wp_iinc (q := 86) (L2 := [(5, _), (6, _), (4, _), (3, _), (0, _), (1, _), (2, _)]) d_Tn_linePlace_83 rfl rfl (iinc_1) (by decide) rfl ?_
          refine wp_goto (tgt := 30) d_Tn_linePlace_86 (by decide) ?_
          refine wp_sub [0, 2, 3, 4, 5, 6] rfl ?_
          first | (rw [blf, if_pos ⟨hc_62, hh⟩] at ih; exact ih) | (rw [blf, if_neg (fun z => by rw [hh] at z; exact absurd z.2 (by decide))] at ih; exact ih) | (rw [blf, if_neg (fun z => hc_62 z.1)] at ih; exact ih)
        · refine wp_aload (q := 67) d_Tn_linePlace_65 rfl rfl ?_
          refine wp_aload_n (q := 68) d_Tn_linePlace_67 rfl rfl ?_
          refine wp_cv1 (q := 71) lk_Tn_111 (ro _ _ _) d_Tn_linePlace_68 rfl (Nat.le_of_ble_eq_true rfl) (rdX.trans hA.1) rfl (Nat.zero_le _) (Nat.zero_le _) ?_
          refine ok_Ln_holds (P := P) (nb := nb) (m := m) (s := s) (b := b) (sl := 8 * cu + i) q2 hA hF q3 hx1 (fun hh => ?_) (fun hh => ?_)
          · refine wp_if_eq_f (q := 74) (tgt := 83) d_Tn_linePlace_71 (by decide) rfl (by decide) ?_
            refine wp_iload_n (q := 75) d_Tn_linePlace_74 rfl rfl ?_
            refine wp_bipush (q := 77) d_Tn_linePlace_75 rfl bp_8 ?_
            first | refine wp_imulC (q := 78) d_Tn_linePlace_77 rfl ?_ | refine wp_imul (q := 78) d_Tn_linePlace_77 rfl ?_
            refine wp_iload (q := 80) d_Tn_linePlace_78 rfl rfl ?_
            first | refine wp_iaddN (q := 81) d_Tn_linePlace_80 rfl ?_ | refine wp_iadd (q := 81) d_Tn_linePlace_80 rfl ?_
            refine wp_istore (q := 83) (L2 := [(4, _), (6, _), (5, _), (3, _), (0, _), (1, _), (2, _)]) d_Tn_linePlace_81 rfl (by decide) rfl ?_
            refine wp_iinc (q := 86) (L2 := [(5, _), (4, _), (6, _), (3, _), (0, _), (1, _), (2, _)]) d_Tn_linePlace_83 rfl rfl (iinc_1) (by decide) rfl ?_
            refine wp_goto (tgt := 30) d_Tn_linePlace_86 (by decide) ?_
            refine wp_sub [0, 1, 3, 4, 5, 6] rfl ?_
            first | (rw [blf, if_pos ⟨hc_62, hh⟩] at ih; exact ih) | (rw [blf, if_neg (fun z => by rw [hh] at z; exact absurd z.2 (by decide))] at ih; exact ih) | (rw [blf, if_neg (fun z => hc_62 z.1)] at ih; exact ih)
          · refine wp_if_eq_t (tgt := 83) d_Tn_linePlace_71 (by decide) (by decide) ?_
            refine wp_iinc (q := 86) (L2 := [(5, _), (6, _), (4, _), (3, _), (0, _), (1, _), (2, _)]) d_Tn_linePlace_83 rfl rfl (iinc_1) (by decide) rfl ?_
            refine wp_goto (tgt := 30) d_Tn_linePlace_86 (by decide) ?_
            refine wp_sub [0, 2, 3, 4, 5, 6] rfl ?_
            first | (rw [blf, if_pos ⟨hc_62, hh⟩] at ih; exact ih) | (rw [blf, if_neg (fun z => by rw [hh] at z; exact absurd z.2 (by decide))] at ih; exact ih) | (rw [blf, if_neg (fun z => hc_62 z.1)] at ih; exact ih)
    refine wp_aload_n (q := 1) d_Tn_linePlace_0 rfl rfl ?_
    refine wp_get (q := 4) fl_Tn_42 d_Tn_linePlace_1 rfl rfl rfl ?_
    refine wp_aload_n (q := 5) d_Tn_linePlace_4 rfl rfl ?_
    refine wp_iconst (q := 6) d_Tn_linePlace_5 rfl ic_5 ?_
    refine wp_iald (q := 7) d_Tn_linePlace_6 rfl (rfl) (by omega) (by decide) ?_
    rw [h5]
    refine wp_iald (q := 8) d_Tn_linePlace_7 rfl (rfl) (by omega) (by decide) ?_
    rw [e]
    refine wp_istore_n (q := 9) (L2 := [(3, _), (0, _), (1, _), (2, _)]) d_Tn_linePlace_8 rfl (by decide) rfl ?_
    refine wp_iconst (q := 10) d_Tn_linePlace_9 rfl ic_m1 ?_
    refine wp_istore (q := 12) (L2 := [(4, _), (3, _), (0, _), (1, _), (2, _)]) d_Tn_linePlace_10 rfl (by decide) rfl ?_
    refine wp_iload_n (q := 13) d_Tn_linePlace_12 rfl rfl ?_
    refine wp_if_lt_f (q := 16) (tgt := 24) d_Tn_linePlace_13 (by decide) rfl (nI_pos (by omega)) ?_
    refine wp_iload_n (q := 17) d_Tn_linePlace_16 rfl rfl ?_
    refine wp_aload_n (q := 18) d_Tn_linePlace_17 rfl rfl ?_
    refine wp_get (q := 21) fl_Tn_81 d_Tn_linePlace_18 rfl rfl rfl ?_
    refine wp_icmp_lt_t (tgt := 27) d_Tn_linePlace_21 (by decide) (by rw [hCI.1.1]; exact nI_lt l1 (by have := hCI.1.2; omega)) ?_
    refine wp_iconst (q := 28) d_Tn_linePlace_27 rfl ic_0 ?_
    refine wp_istore (q := 30) (L2 := [(5, _), (4, _), (3, _), (0, _), (1, _), (2, _)]) d_Tn_linePlace_28 rfl (by decide) rfl ?_
    exact lp1 0 (Nat.zero_le _)
theorem d_Tn_says_0 : decode M_Tn_says.2.1 0 = .ok (.aload_n 0, 1) := by decide +kernel
theorem d_Tn_says_1 : decode M_Tn_says.2.1 1 = .ok (.aload_n 1, 1) := by decide +kernel
theorem d_Tn_says_2 : decode M_Tn_says.2.1 2 = .ok (.iload_n 2, 1) := by decide +kernel
theorem d_Tn_says_3 : decode M_Tn_says.2.1 3 = .ok (.invokevirtual 98, 3) := by decide +kernel
theorem d_Tn_says_6 : decode M_Tn_says.2.1 6 = .ok (.istore_n 3, 1) := by decide +kernel
theorem d_Tn_says_7 : decode M_Tn_says.2.1 7 = .ok (.iload_n 3, 1) := by decide +kernel
theorem d_Tn_says_8 : decode M_Tn_says.2.1 8 = .ok (.ifCond .ge 7, 3) := by decide +kernel
theorem d_Tn_says_11 : decode M_Tn_says.2.1 11 = .ok (.aconst_null, 1) := by decide +kernel
theorem d_Tn_says_12 : decode M_Tn_says.2.1 12 = .ok (.goto 9, 3) := by decide +kernel
theorem d_Tn_says_15 : decode M_Tn_says.2.1 15 = .ok (.aload_n 0, 1) := by decide +kernel
theorem d_Tn_says_16 : decode M_Tn_says.2.1 16 = .ok (.getfield 38, 3) := by decide +kernel
theorem d_Tn_says_19 : decode M_Tn_says.2.1 19 = .ok (.iload_n 3, 1) := by decide +kernel
theorem d_Tn_says_20 : decode M_Tn_says.2.1 20 = .ok (.aaload, 1) := by decide +kernel
theorem d_Tn_says_21 : decode M_Tn_says.2.1 21 = .ok (.astore 4, 2) := by decide +kernel
theorem d_Tn_says_23 : decode M_Tn_says.2.1 23 = .ok (.aload 4, 2) := by decide +kernel
theorem d_Tn_says_25 : decode M_Tn_says.2.1 25 = .ok (.ifnonnull 11, 3) := by decide +kernel
theorem d_Tn_says_28 : decode M_Tn_says.2.1 28 = .ok (.getstatic 102, 3) := by decide +kernel
theorem d_Tn_says_31 : decode M_Tn_says.2.1 31 = .ok (.iload_n 2, 1) := by decide +kernel
theorem d_Tn_says_32 : decode M_Tn_says.2.1 32 = .ok (.iaload, 1) := by decide +kernel
theorem d_Tn_says_33 : decode M_Tn_says.2.1 33 = .ok (.goto 8, 3) := by decide +kernel
theorem d_Tn_says_36 : decode M_Tn_says.2.1 36 = .ok (.aload 4, 2) := by decide +kernel
theorem d_Tn_says_38 : decode M_Tn_says.2.1 38 = .ok (.getfield 105, 3) := by decide +kernel
theorem d_Tn_says_41 : decode M_Tn_says.2.1 41 = .ok (.ireturn, 1) := by decide +kernel
set_option maxHeartbeats 4000000 in
set_option maxRecDepth 100000 in
theorem ok_Tn_says {D : xD} {N : Nat} {l : Launch} {d : Nat} {c x V : T2} {P : Nat → Int32} {ln df : Nat → Option Nat} {rest : List va_E} {K : Option Value → List va_E → Prop} {nb m s b key : Nat} (hs : s < 6) (hk3 : key < 3) (hCI : CI c) (hLOK : LOK D N c ln rest) (hx1 : ∀ f, f < 8 → x 1 f = fld c P nb m s b f) (hK : K (some (.int (lawv c P nb m s b key))) (encC D N c x V ln df ++ rest)) : Ok D N l (d + 2) M_Tn_says [.ref (N + 1), .ref (N + 13), .int (nI key)] (encC D N c x V ln df ++ rest) 0 0 K := by
  refine ok_of (L := [(0, _), (1, _), (2, _)]) (by decide) (Nat.le_of_ble_eq_true rfl) rfl ?_
  cases ho : lnf c P nb m s b (nI key) with
  | none =>
    rw [lawv, ho] at hK
    refine wp_aload_n (q := 1) d_Tn_says_0 rfl rfl ?_
    refine wp_aload_n (q := 2) d_Tn_says_1 rfl rfl ?_
    refine wp_iload_n (q := 3) d_Tn_says_2 rfl rfl ?_
    refine wp_cv2 (q := 6) lk_Tn_98 (ro _ _ _) d_Tn_says_3 rfl (Nat.le_of_ble_eq_true rfl) (rfl) rfl (Nat.zero_le _) (Nat.zero_le _) ?_
    refine ok_Tn_linePlace (P := P) (nb := nb) (m := m) (b := b) hs hCI hLOK hx1 ?_
    rw [ho]
    refine wp_istore_n (q := 7) (L2 := [(3, _), (0, _), (1, _), (2, _)]) d_Tn_says_6 rfl (by decide) rfl ?_
    refine wp_iload_n (q := 8) d_Tn_says_7 rfl rfl ?_
    refine wp_if_ge_f (q := 11) (tgt := 15) d_Tn_says_8 (by decide) rfl (by show ¬ (0 : Int32) ≤ -1; decide) ?_
    refine wp_null (q := 12) d_Tn_says_11 rfl ?_
    refine wp_goto (tgt := 21) d_Tn_says_12 (by decide) ?_
    refine wp_astoreN (q := 23) (L2 := [(4, _), (3, _), (0, _), (1, _), (2, _)]) d_Tn_says_21 rfl (by decide) rfl ?_
    refine wp_aloadN (q := 25) d_Tn_says_23 rfl rfl ?_
    refine wp_ifnonnullN (q := 28) d_Tn_says_25 rfl ?_
    refine wp_plainS (q := 31) kn_plain d_Tn_says_28 rfl ?_
    refine wp_iload_n (q := 32) d_Tn_says_31 rfl rfl ?_
    refine wp_plainL (q := 33) d_Tn_says_32 rfl (by omega) ?_
    refine wp_goto (tgt := 41) d_Tn_says_33 (by decide) ?_
    refine wp_iret d_Tn_says_41 rfl (Nat.le_refl _) (Nat.le_refl _) ?_
    exact hK
  | some i =>
    rcases hCI.cu hs with e | ⟨cu, lm, l1, l6, l9, e, elm, etn⟩
    · rw [lnf_none e] at ho; cases ho
    have hi := blf_lt ((lnf_some e l6 elm l9).symm.trans ho)
    obtain ⟨j, F, S, B, eln, hA, hF⟩ := (hLOK cu i l1 (by omega)).1 (by omega)
    rw [lawv, ho] at hK
    dsimp only at hK
    refine wp_aload_n (q := 1) d_Tn_says_0 rfl rfl ?_
    refine wp_aload_n (q := 2) d_Tn_says_1 rfl rfl ?_
    refine wp_iload_n (q := 3) d_Tn_says_2 rfl rfl ?_
    refine wp_cv2 (q := 6) lk_Tn_98 (ro _ _ _) d_Tn_says_3 rfl (Nat.le_of_ble_eq_true rfl) (rfl) rfl (Nat.zero_le _) (Nat.zero_le _) ?_
    refine ok_Tn_linePlace (P := P) (nb := nb) (m := m) (b := b) hs hCI hLOK hx1 ?_
    rw [ho]
    try rw [e, tnt l6]
    refine wp_istore_n (q := 7) (L2 := [(3, _), (0, _), (1, _), (2, _)]) d_Tn_says_6 rfl (by decide) rfl ?_
    refine wp_iload_n (q := 8) d_Tn_says_7 rfl rfl ?_
    refine wp_if_ge_t (tgt := 15) d_Tn_says_8 (by decide) (nI_pos' (by omega)) ?_
    refine wp_aload_n (q := 16) d_Tn_says_15 rfl rfl ?_
    refine wp_get (q := 19) fl_Tn_38 d_Tn_says_16 rfl rfl rfl ?_
    refine wp_iload_n (q := 20) d_Tn_says_19 rfl rfl ?_
    refine wp_aldL (q := 21) d_Tn_says_20 rfl (rfl) (by omega) (by decide) (eln) ?_
    refine wp_astore (q := 23) (L2 := [(4, _), (3, _), (0, _), (1, _), (2, _)]) d_Tn_says_21 rfl (by decide) rfl ?_
    refine wp_aload (q := 25) d_Tn_says_23 rfl rfl ?_
    refine wp_ifnonnull (tgt := 36) d_Tn_says_25 (by decide) ?_
    refine wp_aload (q := 38) d_Tn_says_36 rfl rfl ?_
    refine wp_get (q := 41) fl_Tn_105 d_Tn_says_38 rfl (rdX.trans hA.1) rfl ?_
    refine wp_iret d_Tn_says_41 rfl (Nat.le_refl _) (Nat.le_refl _) ?_
    rw [e, tnt l6] at hK; exact hK
