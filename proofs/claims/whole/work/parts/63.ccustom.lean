abbrev LAr (D : xD) (N : Nat) (rest : List va_E) (a : Nat) (v : LR) : Prop := LAt D N rest a v.1 v.2.1 v.2.2.1 v.2.2.2.1 v.2.2.2.2.1 v.2.2.2.2.2
theorem LAt.ext {D : xD} {N : Nat} {rest rest2 : List va_E} {j nt : Nat} {key num : Int32} {F S G : FN} (h : LAt D N rest j key num nt F S G) (hx : ∀ i, i < rest.length → rest2[i]? = rest[i]?) : LAt D N rest2 j key num nt F S G :=
  ⟨(hx _ (List.getElem?_eq_some_iff.mp h.1).1).trans h.1, (hx _ (List.getElem?_eq_some_iff.mp h.2.1).1).trans h.2.1, (hx _ (List.getElem?_eq_some_iff.mp h.2.2.1).1).trans h.2.2.1, (hx _ (List.getElem?_eq_some_iff.mp h.2.2.2).1).trans h.2.2.2⟩
def PX (a b : List va_E) : Prop := a.length ≤ b.length ∧ ∀ i, i < a.length → b[i]? = a[i]?
theorem PX.rf (a : List va_E) : PX a a := ⟨Nat.le_refl _, fun _ _ => rfl⟩
theorem PX.tr {a b c : List va_E} (h : PX a b) (g : PX b c) : PX a c := ⟨Nat.le_trans h.1 g.1, fun i hi => (g.2 i (Nat.lt_of_lt_of_le hi h.1)).trans (h.2 i hi)⟩
def DL (D : xD) (N n : Nat) (A : Nat → LR) (df : Nat → Option Nat) (rest : List va_E) : Prop := ∀ j, j < n → ∃ a, df j = some (N + (124 + a)) ∧ LAr D N rest a (A j)
def xd (x : T2) (n : Nat) : T2 := tput x 3 (upd (x 3) 1 (nI n))
theorem xd_0 (x : T2) (n : Nat) : xd x n 3 0 = x 3 0 := by unfold xd; rw [tput_eq, upd_ne _ _ (by decide)]
theorem xd_1 (x : T2) (n : Nat) : xd x n 3 1 = nI n := by unfold xd; rw [tput_eq, upd_eq]
theorem LAt.px {D : xD} {N : Nat} {rest rest2 : List va_E} {key num : Int32} {nt : Nat} {F S G : FN} (h : LAt D N rest2 rest.length key num nt F S G) (hx : ∀ i, i < rest.length → rest2[i]? = rest[i]?) : PX rest rest2 := ⟨Nat.le_of_lt (List.getElem?_eq_some_iff.mp h.1).1, hx⟩
theorem d_Tp_parse_0 : decode M_Tp_parse.2.1 0 = .ok (.aload_n 0, 1) := by decide +kernel
theorem d_Tp_parse_1 : decode M_Tp_parse.2.1 1 = .ok (.iconst 0, 1) := by decide +kernel
theorem d_Tp_parse_2 : decode M_Tp_parse.2.1 2 = .ok (.putfield 25, 3) := by decide +kernel
theorem d_Tp_parse_5 : decode M_Tp_parse.2.1 5 = .ok (.iconst 0, 1) := by decide +kernel
theorem d_Tp_parse_6 : decode M_Tp_parse.2.1 6 = .ok (.istore_n 1, 1) := by decide +kernel
theorem d_Tp_parse_7 : decode M_Tp_parse.2.1 7 = .ok (.iload_n 1, 1) := by decide +kernel
theorem d_Tp_parse_8 : decode M_Tp_parse.2.1 8 = .ok (.bipush 8, 2) := by decide +kernel
theorem d_Tp_parse_10 : decode M_Tp_parse.2.1 10 = .ok (.if_icmp .ge 84, 3) := by decide +kernel
theorem d_Tp_parse_13 : decode M_Tp_parse.2.1 13 = .ok (.aload_n 0, 1) := by decide +kernel
theorem d_Tp_parse_14 : decode M_Tp_parse.2.1 14 = .ok (.getfield 17, 3) := by decide +kernel
theorem d_Tp_parse_17 : decode M_Tp_parse.2.1 17 = .ok (.iload_n 1, 1) := by decide +kernel
theorem d_Tp_parse_18 : decode M_Tp_parse.2.1 18 = .ok (.aload_n 0, 1) := by decide +kernel
theorem d_Tp_parse_19 : decode M_Tp_parse.2.1 19 = .ok (.invokevirtual 28, 3) := by decide +kernel
theorem d_Tp_parse_22 : decode M_Tp_parse.2.1 22 = .ok (.aastore, 1) := by decide +kernel
theorem d_Tp_parse_23 : decode M_Tp_parse.2.1 23 = .ok (.aload_n 0, 1) := by decide +kernel
theorem d_Tp_parse_24 : decode M_Tp_parse.2.1 24 = .ok (.iload_n 1, 1) := by decide +kernel
theorem d_Tp_parse_25 : decode M_Tp_parse.2.1 25 = .ok (.iconst 1, 1) := by decide +kernel
theorem d_Tp_parse_26 : decode M_Tp_parse.2.1 26 = .ok (.iadd, 1) := by decide +kernel
theorem d_Tp_parse_27 : decode M_Tp_parse.2.1 27 = .ok (.putfield 32, 3) := by decide +kernel
theorem d_Tp_parse_30 : decode M_Tp_parse.2.1 30 = .ok (.aload_n 0, 1) := by decide +kernel
theorem d_Tp_parse_31 : decode M_Tp_parse.2.1 31 = .ok (.getfield 17, 3) := by decide +kernel
theorem d_Tp_parse_34 : decode M_Tp_parse.2.1 34 = .ok (.iload_n 1, 1) := by decide +kernel
theorem d_Tp_parse_35 : decode M_Tp_parse.2.1 35 = .ok (.aaload, 1) := by decide +kernel
theorem d_Tp_parse_36 : decode M_Tp_parse.2.1 36 = .ok (.ifnonnull 5, 3) := by decide +kernel
theorem d_Tp_parse_39 : decode M_Tp_parse.2.1 39 = .ok (.iconst 0, 1) := by decide +kernel
theorem d_Tp_parse_40 : decode M_Tp_parse.2.1 40 = .ok (.ireturn, 1) := by decide +kernel
theorem d_Tp_parse_41 : decode M_Tp_parse.2.1 41 = .ok (.aload_n 0, 1) := by decide +kernel
theorem d_Tp_parse_42 : decode M_Tp_parse.2.1 42 = .ok (.getfield 25, 3) := by decide +kernel
theorem d_Tp_parse_45 : decode M_Tp_parse.2.1 45 = .ok (.aload_n 0, 1) := by decide +kernel
theorem d_Tp_parse_46 : decode M_Tp_parse.2.1 46 = .ok (.getfield 21, 3) := by decide +kernel
theorem d_Tp_parse_49 : decode M_Tp_parse.2.1 49 = .ok (.if_icmp .lt 5, 3) := by decide +kernel
theorem d_Tp_parse_52 : decode M_Tp_parse.2.1 52 = .ok (.iconst 1, 1) := by decide +kernel
theorem d_Tp_parse_53 : decode M_Tp_parse.2.1 53 = .ok (.ireturn, 1) := by decide +kernel
theorem d_Tp_parse_54 : decode M_Tp_parse.2.1 54 = .ok (.aload_n 0, 1) := by decide +kernel
theorem d_Tp_parse_55 : decode M_Tp_parse.2.1 55 = .ok (.getfield 32, 3) := by decide +kernel
theorem d_Tp_parse_58 : decode M_Tp_parse.2.1 58 = .ok (.bipush 8, 2) := by decide +kernel
theorem d_Tp_parse_60 : decode M_Tp_parse.2.1 60 = .ok (.if_icmp .eq 16, 3) := by decide +kernel
theorem d_Tp_parse_63 : decode M_Tp_parse.2.1 63 = .ok (.aload_n 0, 1) := by decide +kernel
theorem d_Tp_parse_64 : decode M_Tp_parse.2.1 64 = .ok (.aload_n 0, 1) := by decide +kernel
theorem d_Tp_parse_65 : decode M_Tp_parse.2.1 65 = .ok (.getfield 25, 3) := by decide +kernel
theorem d_Tp_parse_68 : decode M_Tp_parse.2.1 68 = .ok (.invokevirtual 35, 3) := by decide +kernel
theorem d_Tp_parse_71 : decode M_Tp_parse.2.1 71 = .ok (.bipush 47, 2) := by decide +kernel
theorem d_Tp_parse_73 : decode M_Tp_parse.2.1 73 = .ok (.if_icmp .eq 5, 3) := by decide +kernel
theorem d_Tp_parse_76 : decode M_Tp_parse.2.1 76 = .ok (.iconst 0, 1) := by decide +kernel
theorem d_Tp_parse_77 : decode M_Tp_parse.2.1 77 = .ok (.ireturn, 1) := by decide +kernel
theorem d_Tp_parse_78 : decode M_Tp_parse.2.1 78 = .ok (.aload_n 0, 1) := by decide +kernel
theorem d_Tp_parse_79 : decode M_Tp_parse.2.1 79 = .ok (.dup, 1) := by decide +kernel
theorem d_Tp_parse_80 : decode M_Tp_parse.2.1 80 = .ok (.getfield 25, 3) := by decide +kernel
theorem d_Tp_parse_83 : decode M_Tp_parse.2.1 83 = .ok (.iconst 1, 1) := by decide +kernel
theorem d_Tp_parse_84 : decode M_Tp_parse.2.1 84 = .ok (.iadd, 1) := by decide +kernel
theorem d_Tp_parse_85 : decode M_Tp_parse.2.1 85 = .ok (.putfield 25, 3) := by decide +kernel
theorem d_Tp_parse_88 : decode M_Tp_parse.2.1 88 = .ok (.iinc 1 1, 3) := by decide +kernel
theorem d_Tp_parse_91 : decode M_Tp_parse.2.1 91 = .ok (.goto (-84), 3) := by decide +kernel
theorem d_Tp_parse_94 : decode M_Tp_parse.2.1 94 = .ok (.iconst 0, 1) := by decide +kernel
theorem d_Tp_parse_95 : decode M_Tp_parse.2.1 95 = .ok (.ireturn, 1) := by decide +kernel
set_option maxHeartbeats 4000000 in
set_option maxRecDepth 100000 in
theorem pa_loop {D : xD} {N : Nat} {l : Launch} {d : Nat} {c V : T2} {ln : Nat → Option Nat} {K : Option Value → List va_E → Prop} {tp : Nat} (htp : c 32 8 = nI tp) (h160 : tp ≤ 160) (hB : TBy c tp) {rest0 : List va_E} : ∀ (f k p : Nat) (A : Nat → LR) (df : Nat → Option Nat) (rest : List va_E) (x : T2), k + f = 7 → x 3 0 = nI p → p ≤ tp → DL D N k A df rest → PX rest0 rest → (∀ n A2 q, pal (byB c tp) tp (f + 1) k p A = (some (n, A2), q) → ∀ df2 rest2 x2, n ≤ 8 → DL D N n A2 df2 rest2 → PX rest0 rest2 → x2 3 0 = nI q → x2 3 1 = nI n → K (some (.int (nI 1))) (encC D N c x2 V ln df2 ++ rest2)) → (∀ q, pal (byB c tp) tp (f + 1) k p A = (none, q) → ∀ df2 rest2 x2, PX rest0 rest2 → x2 3 0 = nI q → K (some (.int (nI 0))) (encC D N c x2 V ln df2 ++ rest2)) → Wp D N l (EI M_Tp_parse) M_Tp_parse (Rm (d + 7) 32 120) (Qm D N K 32 120) (4 * k) (15 * k) 7 [(1, .int (nI k)), (0, .ref (N + 72))] [] (encC D N c x V ln df ++ rest) := by
  intro f
  induction f with
  | zero =>
    intro k p A df rest x hkf hx hp hDL hPX hy hno
    refine wp_iload_n (q := 8) d_Tp_parse_7 rfl rfl ?_
    refine wp_bipush (q := 10) d_Tp_parse_8 rfl bp_8 ?_
    refine wp_icmp_ge_f (q := 13) (tgt := 94) d_Tp_parse_10 (by decide) rfl (nI_ge (by omega) (by decide)) ?_
    refine wp_aload_n (q := 14) d_Tp_parse_13 rfl rfl ?_
    refine wp_get (q := 17) fl_Tp_17 d_Tp_parse_14 rfl rfl rfl ?_
    refine wp_iload_n (q := 18) d_Tp_parse_17 rfl rfl ?_
    refine wp_aload_n (q := 19) d_Tp_parse_18 rfl rfl ?_
    refine wp_callV (q := 22) (mc := 4) (ms := 15) [] lk_Tp_28 (ro _ _ _) d_Tp_parse_19 rfl rfl rfl (Nat.le_of_ble_eq_true rfl) rfl rfl (show 4 * k + 4 ≤ 32 by omega) (show 15 * k + 15 ≤ 120 by omega) ?_
    refine ok_Tp_parseLine htp h160 hB hx hp (fun v q ev rest2 hA hr => ?_) (fun q ev rest2 hr hl => ?_)
    · have hDL2 : DL D N (k + 1) (va_up A k v) (va_up df k (some (N + (124 + rest.length)))) rest2 := by
        intro j hj
        by_cases e : j = k
        · rw [e, va_upeq, va_upeq]; exact ⟨rest.length, rfl, hA⟩
        · obtain ⟨a, h1, h2⟩ := hDL j (by omega)
          rw [va_upne _ _ e, va_upne _ _ e]
          exact ⟨a, h1, h2.ext hr⟩
      have hqt : q ≤ tp := by have := pln_tp (B := byB c tp) byB_out hp; rw [ev] at this; exact this
      refine wp_aast 5 (q := 23) (r := (RX4, TX4, 6)) rfl d_Tp_parse_22 rfl rfl (rdX.trans hA.1) rfl (by omega) (by decide) fc_74 ?_
      refine wp_aload_n (q := 24) d_Tp_parse_23 rfl rfl ?_
      refine wp_iload_n (q := 25) d_Tp_parse_24 rfl rfl ?_
      refine wp_iconst (q := 26) d_Tp_parse_25 rfl ic_1 ?_
      first | refine wp_iaddN (q := 27) d_Tp_parse_26 rfl ?_ | refine wp_iadd (q := 27) d_Tp_parse_26 rfl ?_
      refine wp_put (q := 30) fl_Tp_32 d_Tp_parse_27 rfl rfl (Nat.le_of_ble_eq_true rfl) rfl rfl (fc_x31) ?_
      rw [show ∀ (z2 : T2) (q : Nat), tput z2 3 (upd (z2 3) 1 (nI q)) = xd z2 q from fun _ _ => rfl]
      refine wp_aload_n (q := 31) d_Tp_parse_30 rfl rfl ?_
      refine wp_get (q := 34) fl_Tp_17 d_Tp_parse_31 rfl rfl rfl ?_
      refine wp_iload_n (q := 35) d_Tp_parse_34 rfl rfl ?_
      refine wp_aldL (q := 36) d_Tp_parse_35 rfl (rfl) (by omega) (by decide) (va_upeq _ _ _) ?_
      refine wp_ifnonnull (tgt := 41) d_Tp_parse_36 (by decide) ?_
      refine wp_aload_n (q := 42) d_Tp_parse_41 rfl rfl ?_
      refine wp_get (q := 45) fl_Tp_25 d_Tp_parse_42 rfl rfl rfl ?_
      rw [xd_0, xp_at]
      refine wp_aload_n (q := 46) d_Tp_parse_45 rfl rfl ?_
      refine wp_get (q := 49) fl_Tp_21 d_Tp_parse_46 rfl rfl rfl ?_
      rw [htp]
      refine wp_icmp_lt (q := 52) (tgt := 54) d_Tp_parse_49 (by decide) rfl (fun hc_49 => ?_) (fun hc_49 => ?_)
      · refine wp_aload_n (q := 55) d_Tp_parse_54 rfl rfl ?_
        refine wp_get (q := 58) fl_Tp_32 d_Tp_parse_55 rfl rfl rfl ?_
        rw [xd_1]
        refine wp_bipush (q := 60) d_Tp_parse_58 rfl bp_8 ?_
        refine wp_icmp_eq (q := 63) (tgt := 76) d_Tp_parse_60 (by decide) rfl (fun hc_60 => ?_) (fun hc_60 => ?_)
        · refine wp_iconst (q := 77) d_Tp_parse_76 rfl ic_0 ?_
          refine wp_zret d_Tp_parse_77 rfl (rfl) (show 4 * k + 4 ≤ 32 by omega) (show 15 * k + 15 ≤ 120 by omega) ?_
          have hql : q < tp := (nI_ltI (by omega) (by omega)).mp hc_49
          exact hno q (by rw [pal, ev]; show (if tp ≤ q then _ else _) = _; rw [if_neg (by omega), if_pos (Or.inl (by have := (nI_eq (by omega) (by decide)).mp hc_60; omega))]) _ rest2 _ (hPX.tr (hA.px hr)) (by rw [xd_0, xp_at])
        · refine wp_aload_n (q := 64) d_Tp_parse_63 rfl rfl ?_
          refine wp_aload_n (q := 65) d_Tp_parse_64 rfl rfl ?_
          refine wp_get (q := 68) fl_Tp_25 d_Tp_parse_65 rfl rfl rfl ?_
          rw [xd_0, xp_at]
          refine wp_cv1 (q := 71) lk_Tp_35 (ro _ _ _) d_Tp_parse_68 rfl (Nat.le_of_ble_eq_true rfl) (rfl) rfl (show 4 * k + 4 ≤ 32 by omega) (show 15 * k + 15 ≤ 120 by omega) ?_
          refine ok_Tp_byteAt htp h160 hB (by omega) ?_
          refine wp_bipush (q := 73) d_Tp_parse_71 rfl bp_47 ?_
          refine wp_icmp_eq (q := 76) (tgt := 78) d_Tp_parse_73 (by decide) rfl (fun hc_73 => ?_) (fun hc_73 => ?_)
          · refine wp_aload_n (q := 79) d_Tp_parse_78 rfl rfl ?_
            refine wp_dup (q := 80) d_Tp_parse_79 rfl rfl ?_
            refine wp_get (q := 83) fl_Tp_25 d_Tp_parse_80 rfl rfl rfl ?_
            rw [xd_0, xp_at]
            refine wp_iconst (q := 84) d_Tp_parse_83 rfl ic_1 ?_
            first | refine wp_iaddN (q := 85) d_Tp_parse_84 rfl ?_ | refine wp_iadd (q := 85) d_Tp_parse_84 rfl ?_
            refine wp_put (q := 88) fl_Tp_25 d_Tp_parse_85 rfl rfl (Nat.le_of_ble_eq_true rfl) rfl rfl (fc_x30) ?_
            rw [show ∀ (z2 : T2) (q : Nat), tput z2 3 (upd (z2 3) 0 (nI q)) = xp z2 q from fun _ _ => rfl]
            refine wp_iinc (q := 91) (L2 := [(1, _), (0, _)]) d_Tp_parse_88 rfl rfl (iinc_1) (by decide) rfl ?_
            refine wp_goto (tgt := 7) d_Tp_parse_91 (by decide) ?_
            have hql : q < tp := (nI_ltI (by omega) (by omega)).mp hc_49
            have hk7 : ¬ k = 7 := fun e => hc_60 (by rw [e])
            exact absurd (show k = 7 by omega) hk7
          · refine wp_iconst (q := 77) d_Tp_parse_76 rfl ic_0 ?_
            refine wp_zret d_Tp_parse_77 rfl (rfl) (show 4 * k + 4 ≤ 32 by omega) (show 15 * k + 15 ≤ 120 by omega) ?_
            have hql : q < tp := (nI_ltI (by omega) (by omega)).mp hc_49
            exact hno q (by rw [pal, ev]; show (if tp ≤ q then _ else _) = _; rw [if_neg (by omega), if_pos (Or.inr hc_73)]) _ rest2 _ (hPX.tr (hA.px hr)) (by rw [xd_0, xp_at])
      · refine wp_iconst (q := 53) d_Tp_parse_52 rfl ic_1 ?_
        refine wp_zret d_Tp_parse_53 rfl (rfl) (show 4 * k + 4 ≤ 32 by omega) (show 15 * k + 15 ≤ 120 by omega) ?_
        have hge : tp ≤ q := Nat.le_of_not_lt (fun g => hc_49 (nI_lt g (by omega)))
        refine hy _ _ q (by rw [pal, ev]; exact if_pos hge) _ rest2 _ (by omega) hDL2 (hPX.tr (hA.px hr)) (by rw [xd_0, xp_at]) (xd_1 _ _)
    · have hqt : q ≤ tp := by have := pln_tp (B := byB c tp) byB_out hp; rw [ev] at this; exact this
      refine wp_aastN 5 (q := 23) (Cn := "FillAndGo$Line") rfl d_Tp_parse_22 rfl rfl (by omega) (by decide) fc_74 ?_
      refine wp_aload_n (q := 24) d_Tp_parse_23 rfl rfl ?_
      refine wp_iload_n (q := 25) d_Tp_parse_24 rfl rfl ?_
      refine wp_iconst (q := 26) d_Tp_parse_25 rfl ic_1 ?_
      first | refine wp_iaddN (q := 27) d_Tp_parse_26 rfl ?_ | refine wp_iadd (q := 27) d_Tp_parse_26 rfl ?_
      refine wp_put (q := 30) fl_Tp_32 d_Tp_parse_27 rfl rfl (Nat.le_of_ble_eq_true rfl) rfl rfl (fc_x31) ?_
      rw [show ∀ (z2 : T2) (q : Nat), tput z2 3 (upd (z2 3) 1 (nI q)) = xd z2 q from fun _ _ => rfl]
      refine wp_aload_n (q := 31) d_Tp_parse_30 rfl rfl ?_
      refine wp_get (q := 34) fl_Tp_17 d_Tp_parse_31 rfl rfl rfl ?_
      refine wp_iload_n (q := 35) d_Tp_parse_34 rfl rfl ?_
      refine wp_aldLn (q := 36) d_Tp_parse_35 rfl (rfl) (by omega) (by decide) (va_upeq _ _ _) ?_
      refine wp_ifnonnullN (q := 39) d_Tp_parse_36 rfl ?_
      refine wp_iconst (q := 40) d_Tp_parse_39 rfl ic_0 ?_
      refine wp_zret d_Tp_parse_40 rfl (rfl) (show 4 * k + 4 ≤ 32 by omega) (show 15 * k + 15 ≤ 120 by omega) ?_
      exact hno q (by rw [pal, ev]) _ rest2 _ (hPX.tr ⟨hl, hr⟩) (by rw [xd_0, xp_at])
  | succ f ih =>
    intro k p A df rest x hkf hx hp hDL hPX hy hno
    refine wp_iload_n (q := 8) d_Tp_parse_7 rfl rfl ?_
    refine wp_bipush (q := 10) d_Tp_parse_8 rfl bp_8 ?_
    refine wp_icmp_ge_f (q := 13) (tgt := 94) d_Tp_parse_10 (by decide) rfl (nI_ge (by omega) (by decide)) ?_
    refine wp_aload_n (q := 14) d_Tp_parse_13 rfl rfl ?_
    refine wp_get (q := 17) fl_Tp_17 d_Tp_parse_14 rfl rfl rfl ?_
    refine wp_iload_n (q := 18) d_Tp_parse_17 rfl rfl ?_
    refine wp_aload_n (q := 19) d_Tp_parse_18 rfl rfl ?_
    refine wp_callV (q := 22) (mc := 4) (ms := 15) [] lk_Tp_28 (ro _ _ _) d_Tp_parse_19 rfl rfl rfl (Nat.le_of_ble_eq_true rfl) rfl rfl (show 4 * k + 4 ≤ 32 by omega) (show 15 * k + 15 ≤ 120 by omega) ?_
    refine ok_Tp_parseLine htp h160 hB hx hp (fun v q ev rest2 hA hr => ?_) (fun q ev rest2 hr hl => ?_)
    · have hDL2 : DL D N (k + 1) (va_up A k v) (va_up df k (some (N + (124 + rest.length)))) rest2 := by
        intro j hj
        by_cases e : j = k
        · rw [e, va_upeq, va_upeq]; exact ⟨rest.length, rfl, hA⟩
        · obtain ⟨a, h1, h2⟩ := hDL j (by omega)
          rw [va_upne _ _ e, va_upne _ _ e]
          exact ⟨a, h1, h2.ext hr⟩
      have hqt : q ≤ tp := by have := pln_tp (B := byB c tp) byB_out hp; rw [ev] at this; exact this
      refine wp_aast 5 (q := 23) (r := (RX4, TX4, 6)) rfl d_Tp_parse_22 rfl rfl (rdX.trans hA.1) rfl (by omega) (by decide) fc_74 ?_
      refine wp_aload_n (q := 24) d_Tp_parse_23 rfl rfl ?_
      refine wp_iload_n (q := 25) d_Tp_parse_24 rfl rfl ?_
      refine wp_iconst (q := 26) d_Tp_parse_25 rfl ic_1 ?_
      first | refine wp_iaddN (q := 27) d_Tp_parse_26 rfl ?_ | refine wp_iadd (q := 27) d_Tp_parse_26 rfl ?_
      refine wp_put (q := 30) fl_Tp_32 d_Tp_parse_27 rfl rfl (Nat.le_of_ble_eq_true rfl) rfl rfl (fc_x31) ?_
      rw [show ∀ (z2 : T2) (q : Nat), tput z2 3 (upd (z2 3) 1 (nI q)) = xd z2 q from fun _ _ => rfl]
      refine wp_aload_n (q := 31) d_Tp_parse_30 rfl rfl ?_
      refine wp_get (q := 34) fl_Tp_17 d_Tp_parse_31 rfl rfl rfl ?_
      refine wp_iload_n (q := 35) d_Tp_parse_34 rfl rfl ?_
      refine wp_aldL (q := 36) d_Tp_parse_35 rfl (rfl) (by omega) (by decide) (va_upeq _ _ _) ?_
      refine wp_ifnonnull (tgt := 41) d_Tp_parse_36 (by decide) ?_
      refine wp_aload_n (q := 42) d_Tp_parse_41 rfl rfl ?_
      refine wp_get (q := 45) fl_Tp_25 d_Tp_parse_42 rfl rfl rfl ?_
      rw [xd_0, xp_at]
      refine wp_aload_n (q := 46) d_Tp_parse_45 rfl rfl ?_
      refine wp_get (q := 49) fl_Tp_21 d_Tp_parse_46 rfl rfl rfl ?_
      rw [htp]
      refine wp_icmp_lt (q := 52) (tgt := 54) d_Tp_parse_49 (by decide) rfl (fun hc_49 => ?_) (fun hc_49 => ?_)
      · refine wp_aload_n (q := 55) d_Tp_parse_54 rfl rfl ?_
        refine wp_get (q := 58) fl_Tp_32 d_Tp_parse_55 rfl rfl rfl ?_
        rw [xd_1]
        refine wp_bipush (q := 60) d_Tp_parse_58 rfl bp_8 ?_
        refine wp_icmp_eq (q := 63) (tgt := 76) d_Tp_parse_60 (by decide) rfl (fun hc_60 => ?_) (fun hc_60 => ?_)
        · refine wp_iconst (q := 77) d_Tp_parse_76 rfl ic_0 ?_
          refine wp_zret d_Tp_parse_77 rfl (rfl) (show 4 * k + 4 ≤ 32 by omega) (show 15 * k + 15 ≤ 120 by omega) ?_
          have hql : q < tp := (nI_ltI (by omega) (by omega)).mp hc_49
          exact hno q (by rw [pal, ev]; show (if tp ≤ q then _ else _) = _; rw [if_neg (by omega), if_pos (Or.inl (by have := (nI_eq (by omega) (by decide)).mp hc_60; omega))]) _ rest2 _ (hPX.tr (hA.px hr)) (by rw [xd_0, xp_at])
        · refine wp_aload_n (q := 64) d_Tp_parse_63 rfl rfl ?_
          refine wp_aload_n (q := 65) d_Tp_parse_64 rfl rfl ?_
          refine wp_get (q := 68) fl_Tp_25 d_Tp_parse_65 rfl rfl rfl ?_
          rw [xd_0, xp_at]
          refine wp_cv1 (q := 71) lk_Tp_35 (ro _ _ _) d_Tp_parse_68 rfl (Nat.le_of_ble_eq_true rfl) (rfl) rfl (show 4 * k + 4 ≤ 32 by omega) (show 15 * k + 15 ≤ 120 by omega) ?_
          refine ok_Tp_byteAt htp h160 hB (by omega) ?_
          refine wp_bipush (q := 73) d_Tp_parse_71 rfl bp_47 ?_
          refine wp_icmp_eq (q := 76) (tgt := 78) d_Tp_parse_73 (by decide) rfl (fun hc_73 => ?_) (fun hc_73 => ?_)
          · refine wp_aload_n (q := 79) d_Tp_parse_78 rfl rfl ?_
            refine wp_dup (q := 80) d_Tp_parse_79 rfl rfl ?_
            refine wp_get (q := 83) fl_Tp_25 d_Tp_parse_80 rfl rfl rfl ?_
            rw [xd_0, xp_at]
            refine wp_iconst (q := 84) d_Tp_parse_83 rfl ic_1 ?_
            first | refine wp_iaddN (q := 85) d_Tp_parse_84 rfl ?_ | refine wp_iadd (q := 85) d_Tp_parse_84 rfl ?_
            refine wp_put (q := 88) fl_Tp_25 d_Tp_parse_85 rfl rfl (Nat.le_of_ble_eq_true rfl) rfl rfl (fc_x30) ?_
            rw [show ∀ (z2 : T2) (q : Nat), tput z2 3 (upd (z2 3) 0 (nI q)) = xp z2 q from fun _ _ => rfl]
            refine wp_iinc (q := 91) (L2 := [(1, _), (0, _)]) d_Tp_parse_88 rfl rfl (iinc_1) (by decide) rfl ?_
            refine wp_goto (tgt := 7) d_Tp_parse_91 (by decide) ?_
            have hql : q < tp := (nI_ltI (by omega) (by omega)).mp hc_49
            have hk7 : ¬ k = 7 := fun e => hc_60 (by rw [e])
            have h := ih (k + 1) (q + 1) (va_up A k v) (va_up df k (some (N + (124 + rest.length)))) rest2 (xp (xd (xp x q) (k + 1)) (q + 1)) (by omega) (xp_at _ _) (by omega) hDL2 (hPX.tr (hA.px hr)) (fun n A2 q3 e3 => hy n A2 q3 (by rw [pal, ev]; show (if tp ≤ q then _ else _) = _; rw [if_neg (by omega), if_neg (fun g => g.elim hk7 (fun g => g hc_73))]; exact e3)) (fun q3 e3 => hno q3 (by rw [pal, ev]; show (if tp ≤ q then _ else _) = _; rw [if_neg (by omega), if_neg (fun g => g.elim hk7 (fun g => g hc_73))]; exact e3))
            exact h
          · refine wp_iconst (q := 77) d_Tp_parse_76 rfl ic_0 ?_
            refine wp_zret d_Tp_parse_77 rfl (rfl) (show 4 * k + 4 ≤ 32 by omega) (show 15 * k + 15 ≤ 120 by omega) ?_
            have hql : q < tp := (nI_ltI (by omega) (by omega)).mp hc_49
            exact hno q (by rw [pal, ev]; show (if tp ≤ q then _ else _) = _; rw [if_neg (by omega), if_pos (Or.inr hc_73)]) _ rest2 _ (hPX.tr (hA.px hr)) (by rw [xd_0, xp_at])
      · refine wp_iconst (q := 53) d_Tp_parse_52 rfl ic_1 ?_
        refine wp_zret d_Tp_parse_53 rfl (rfl) (show 4 * k + 4 ≤ 32 by omega) (show 15 * k + 15 ≤ 120 by omega) ?_
        have hge : tp ≤ q := Nat.le_of_not_lt (fun g => hc_49 (nI_lt g (by omega)))
        refine hy _ _ q (by rw [pal, ev]; exact if_pos hge) _ rest2 _ (by omega) hDL2 (hPX.tr (hA.px hr)) (by rw [xd_0, xp_at]) (xd_1 _ _)
    · have hqt : q ≤ tp := by have := pln_tp (B := byB c tp) byB_out hp; rw [ev] at this; exact this
      refine wp_aastN 5 (q := 23) (Cn := "FillAndGo$Line") rfl d_Tp_parse_22 rfl rfl (by omega) (by decide) fc_74 ?_
      refine wp_aload_n (q := 24) d_Tp_parse_23 rfl rfl ?_
      refine wp_iload_n (q := 25) d_Tp_parse_24 rfl rfl ?_
      refine wp_iconst (q := 26) d_Tp_parse_25 rfl ic_1 ?_
      first | refine wp_iaddN (q := 27) d_Tp_parse_26 rfl ?_ | refine wp_iadd (q := 27) d_Tp_parse_26 rfl ?_
      refine wp_put (q := 30) fl_Tp_32 d_Tp_parse_27 rfl rfl (Nat.le_of_ble_eq_true rfl) rfl rfl (fc_x31) ?_
      rw [show ∀ (z2 : T2) (q : Nat), tput z2 3 (upd (z2 3) 1 (nI q)) = xd z2 q from fun _ _ => rfl]
      refine wp_aload_n (q := 31) d_Tp_parse_30 rfl rfl ?_
      refine wp_get (q := 34) fl_Tp_17 d_Tp_parse_31 rfl rfl rfl ?_
      refine wp_iload_n (q := 35) d_Tp_parse_34 rfl rfl ?_
      refine wp_aldLn (q := 36) d_Tp_parse_35 rfl (rfl) (by omega) (by decide) (va_upeq _ _ _) ?_
      refine wp_ifnonnullN (q := 39) d_Tp_parse_36 rfl ?_
      refine wp_iconst (q := 40) d_Tp_parse_39 rfl ic_0 ?_
      refine wp_zret d_Tp_parse_40 rfl (rfl) (show 4 * k + 4 ≤ 32 by omega) (show 15 * k + 15 ≤ 120 by omega) ?_
      exact hno q (by rw [pal, ev]) _ rest2 _ (hPX.tr ⟨hl, hr⟩) (by rw [xd_0, xp_at])
set_option maxHeartbeats 4000000 in
set_option maxRecDepth 100000 in
theorem ok_Tp_parse {D : xD} {N : Nat} {l : Launch} {d : Nat} {c x V : T2} {ln df : Nat → Option Nat} {rest : List va_E} {K : Option Value → List va_E → Prop} {tp : Nat} (htp : c 32 8 = nI tp) (h160 : tp ≤ 160) (hB : TBy c tp) (hy : ∀ n A2 q, pal (byB c tp) tp 8 0 0 (fun _ => (0, 0, 0, (fun _ => 0), (fun _ => 0), (fun _ => 0))) = (some (n, A2), q) → ∀ df2 rest2 x2, n ≤ 8 → DL D N n A2 df2 rest2 → PX rest rest2 → x2 3 0 = nI q → x2 3 1 = nI n → K (some (.int (nI 1))) (encC D N c x2 V ln df2 ++ rest2)) (hno : ∀ q, pal (byB c tp) tp 8 0 0 (fun _ => (0, 0, 0, (fun _ => 0), (fun _ => 0), (fun _ => 0))) = (none, q) → ∀ df2 rest2 x2, PX rest rest2 → x2 3 0 = nI q → K (some (.int (nI 0))) (encC D N c x2 V ln df2 ++ rest2)) : Ok D N l (d + 7) M_Tp_parse [.ref (N + 72)] (encC D N c x V ln df ++ rest) 32 120 K := by
  refine ok_of (L := [(0, _)]) (by decide) (Nat.le_of_ble_eq_true rfl) rfl ?_
  refine wp_aload_n (q := 1) d_Tp_parse_0 rfl rfl ?_
  refine wp_iconst (q := 2) d_Tp_parse_1 rfl ic_0 ?_
  refine wp_put (q := 5) fl_Tp_25 d_Tp_parse_2 rfl rfl (Nat.le_of_ble_eq_true rfl) rfl rfl (fc_x30) ?_
  rw [show ∀ (z2 : T2) (q : Nat), tput z2 3 (upd (z2 3) 0 (nI q)) = xp z2 q from fun _ _ => rfl]
  refine wp_iconst (q := 6) d_Tp_parse_5 rfl ic_0 ?_
  refine wp_istore_n (q := 7) (L2 := [(1, _), (0, _)]) d_Tp_parse_6 rfl (by decide) rfl ?_
  exact pa_loop htp h160 hB 7 0 0 (fun _ => (0, 0, 0, (fun _ => 0), (fun _ => 0), (fun _ => 0))) df rest (xp x 0) (by decide) (xp_at _ _) (Nat.zero_le _) (fun j hj => absurd hj (Nat.not_lt_zero _)) (PX.rf rest) hy hno
theorem d_Tn_adopt_0 : decode M_Tn_adopt.2.1 0 = .ok (.aload_n 0, 1) := by decide +kernel
theorem d_Tn_adopt_1 : decode M_Tn_adopt.2.1 1 = .ok (.getfield 81, 3) := by decide +kernel
theorem d_Tn_adopt_4 : decode M_Tn_adopt.2.1 4 = .ok (.istore_n 3, 1) := by decide +kernel
theorem d_Tn_adopt_5 : decode M_Tn_adopt.2.1 5 = .ok (.iconst 0, 1) := by decide +kernel
theorem d_Tn_adopt_6 : decode M_Tn_adopt.2.1 6 = .ok (.istore 4, 2) := by decide +kernel
theorem d_Tn_adopt_8 : decode M_Tn_adopt.2.1 8 = .ok (.iload 4, 2) := by decide +kernel
theorem d_Tn_adopt_10 : decode M_Tn_adopt.2.1 10 = .ok (.bipush 8, 2) := by decide +kernel
theorem d_Tn_adopt_12 : decode M_Tn_adopt.2.1 12 = .ok (.if_icmp .ge 35, 3) := by decide +kernel
theorem d_Tn_adopt_15 : decode M_Tn_adopt.2.1 15 = .ok (.aload_n 0, 1) := by decide +kernel
theorem d_Tn_adopt_16 : decode M_Tn_adopt.2.1 16 = .ok (.getfield 38, 3) := by decide +kernel
theorem d_Tn_adopt_19 : decode M_Tn_adopt.2.1 19 = .ok (.iload_n 3, 1) := by decide +kernel
theorem d_Tn_adopt_20 : decode M_Tn_adopt.2.1 20 = .ok (.bipush 8, 2) := by decide +kernel
theorem d_Tn_adopt_22 : decode M_Tn_adopt.2.1 22 = .ok (.imul, 1) := by decide +kernel
theorem d_Tn_adopt_23 : decode M_Tn_adopt.2.1 23 = .ok (.iload 4, 2) := by decide +kernel
theorem d_Tn_adopt_25 : decode M_Tn_adopt.2.1 25 = .ok (.iadd, 1) := by decide +kernel
theorem d_Tn_adopt_26 : decode M_Tn_adopt.2.1 26 = .ok (.iload 4, 2) := by decide +kernel
theorem d_Tn_adopt_28 : decode M_Tn_adopt.2.1 28 = .ok (.iload_n 2, 1) := by decide +kernel
theorem d_Tn_adopt_29 : decode M_Tn_adopt.2.1 29 = .ok (.if_icmp .ge 10, 3) := by decide +kernel
theorem d_Tn_adopt_32 : decode M_Tn_adopt.2.1 32 = .ok (.aload_n 1, 1) := by decide +kernel
theorem d_Tn_adopt_33 : decode M_Tn_adopt.2.1 33 = .ok (.iload 4, 2) := by decide +kernel
theorem d_Tn_adopt_35 : decode M_Tn_adopt.2.1 35 = .ok (.aaload, 1) := by decide +kernel
theorem d_Tn_adopt_36 : decode M_Tn_adopt.2.1 36 = .ok (.goto 4, 3) := by decide +kernel
theorem d_Tn_adopt_39 : decode M_Tn_adopt.2.1 39 = .ok (.aconst_null, 1) := by decide +kernel
theorem d_Tn_adopt_40 : decode M_Tn_adopt.2.1 40 = .ok (.aastore, 1) := by decide +kernel
theorem d_Tn_adopt_41 : decode M_Tn_adopt.2.1 41 = .ok (.iinc 4 1, 3) := by decide +kernel
theorem d_Tn_adopt_44 : decode M_Tn_adopt.2.1 44 = .ok (.goto (-36), 3) := by decide +kernel
theorem d_Tn_adopt_47 : decode M_Tn_adopt.2.1 47 = .ok (.aload_n 0, 1) := by decide +kernel
theorem d_Tn_adopt_48 : decode M_Tn_adopt.2.1 48 = .ok (.dup, 1) := by decide +kernel
theorem d_Tn_adopt_49 : decode M_Tn_adopt.2.1 49 = .ok (.getfield 81, 3) := by decide +kernel
theorem d_Tn_adopt_52 : decode M_Tn_adopt.2.1 52 = .ok (.iconst 1, 1) := by decide +kernel
theorem d_Tn_adopt_53 : decode M_Tn_adopt.2.1 53 = .ok (.iadd, 1) := by decide +kernel
theorem d_Tn_adopt_54 : decode M_Tn_adopt.2.1 54 = .ok (.putfield 81, 3) := by decide +kernel
theorem d_Tn_adopt_57 : decode M_Tn_adopt.2.1 57 = .ok (.iload_n 3, 1) := by decide +kernel
theorem d_Tn_adopt_58 : decode M_Tn_adopt.2.1 58 = .ok (.ireturn, 1) := by decide +kernel
set_option maxHeartbeats 4000000 in
set_option maxRecDepth 100000 in
theorem ok_Tn_adopt {D : xD} {N : Nat} {l : Launch} {d : Nat} {c x V : T2} {ln0 df : Nat → Option Nat} {rest : List va_E} {K : Option Value → List va_E → Prop} {cu n : Nat} {A : Nat → LR} (hcu9 : c 32 9 = nI cu) (hcu : cu < 6) (hn : n ≤ 8) (hDL : DL D N n A df rest) (hK : ∀ ln, ((∀ t, t < 8 → ln (8 * cu + t) = if t < n then df t else none) ∧ ∀ k, (k < 8 * cu ∨ 8 * cu + 8 ≤ k) → ln k = ln0 k) → K (some (.int (nI cu))) (encC D N (tput c 32 (upd (c 32) 9 (nI (cu + 1)))) x V ln df ++ rest)) : Ok D N l d M_Tn_adopt [.ref (N + 1), .ref (N + 74), .int (nI n)] (encC D N c x V ln0 df ++ rest) 0 0 K := by
  have lp : ∀ i, i ≤ 8 → ∀ ln, ((∀ t, t < i → ln (8 * cu + t) = if t < n then df t else none) ∧ ∀ k, (k < 8 * cu ∨ 8 * cu + 8 ≤ k) → ln k = ln0 k) → Wp D N l (EI M_Tn_adopt) M_Tn_adopt (Rm d 0 0) (Qm D N K 0 0) 0 0 8 [(4, .int (nI i)), (3, .int (nI cu)), (0, .ref (N + 1)), (1, .ref (N + 74)), (2, .int (nI n))] [] (encC D N c x V ln df ++ rest) := by
    refine up_loop ?_ ?_
    · intro ln hL
      refine wp_iload (q := 10) d_Tn_adopt_8 rfl rfl ?_
      refine wp_bipush (q := 12) d_Tn_adopt_10 rfl bp_8 ?_
      refine wp_icmp_ge_t (tgt := 47) d_Tn_adopt_12 (by decide) (nI_le (Nat.le_refl _) (by decide)) ?_
      refine wp_aload_n (q := 48) d_Tn_adopt_47 rfl rfl ?_
      refine wp_dup (q := 49) d_Tn_adopt_48 rfl rfl ?_
      refine wp_get (q := 52) fl_Tn_81 d_Tn_adopt_49 rfl rfl rfl ?_
      rw [hcu9]
      refine wp_iconst (q := 53) d_Tn_adopt_52 rfl ic_1 ?_
      first | refine wp_iaddN (q := 54) d_Tn_adopt_53 rfl ?_ | refine wp_iadd (q := 54) d_Tn_adopt_53 rfl ?_
      refine wp_put (q := 57) fl_Tn_81 d_Tn_adopt_54 rfl rfl (Nat.le_of_ble_eq_true rfl) rfl rfl (fc_s9) ?_
      refine wp_iload_n (q := 58) d_Tn_adopt_57 rfl rfl ?_
      refine wp_iret d_Tn_adopt_58 rfl (Nat.le_refl _) (Nat.le_refl _) ?_
      exact hK ln hL
    · intro i hi ih ln hL
      by_cases hin : i < n
      · obtain ⟨a, hdf, hA⟩ := hDL i hin
        refine wp_iload (q := 10) d_Tn_adopt_8 rfl rfl ?_
        refine wp_bipush (q := 12) d_Tn_adopt_10 rfl bp_8 ?_
        refine wp_icmp_ge_f (q := 15) (tgt := 47) d_Tn_adopt_12 (by decide) rfl (nI_ge hi (by decide)) ?_
        refine wp_aload_n (q := 16) d_Tn_adopt_15 rfl rfl ?_
        refine wp_get (q := 19) fl_Tn_38 d_Tn_adopt_16 rfl rfl rfl ?_
        refine wp_iload_n (q := 20) d_Tn_adopt_19 rfl rfl ?_
        refine wp_bipush (q := 22) d_Tn_adopt_20 rfl bp_8 ?_
        first | refine wp_imulC (q := 23) d_Tn_adopt_22 rfl ?_ | refine wp_imul (q := 23) d_Tn_adopt_22 rfl ?_
        refine wp_iload (q := 25) d_Tn_adopt_23 rfl rfl ?_
        first | refine wp_iaddN (q := 26) d_Tn_adopt_25 rfl ?_ | refine wp_iadd (q := 26) d_Tn_adopt_25 rfl ?_
        refine wp_iload (q := 28) d_Tn_adopt_26 rfl rfl ?_
        refine wp_iload_n (q := 29) d_Tn_adopt_28 rfl rfl ?_
        refine wp_icmp_ge_f (q := 32) (tgt := 39) d_Tn_adopt_29 (by decide) rfl (nI_ge hin (by omega)) ?_
        refine wp_aload_n (q := 33) d_Tn_adopt_32 rfl rfl ?_
        refine wp_iload (q := 35) d_Tn_adopt_33 rfl rfl ?_
        refine wp_aldL (q := 36) d_Tn_adopt_35 rfl (rfl) (by omega) (by decide) (hdf) ?_
        refine wp_goto (tgt := 40) d_Tn_adopt_36 (by decide) ?_
        refine wp_aast 5 (q := 41) (r := (RX4, TX4, 6)) rfl d_Tn_adopt_40 rfl rfl (rdX.trans hA.1) rfl (by omega) (by decide) fc_10 ?_
        refine wp_iinc (q := 44) (L2 := [(4, _), (3, _), (0, _), (1, _), (2, _)]) d_Tn_adopt_41 rfl rfl (iinc_1) (by decide) rfl ?_
        refine wp_goto (tgt := 8) d_Tn_adopt_44 (by decide) ?_
        refine ih _ ⟨fun t ht => ?_, fun k hk => ?_⟩
        · by_cases e : t = i
          · rw [e, va_upeq, if_pos hin, hdf]
          · rw [va_upne _ _ (by omega)]; exact hL.1 t (by omega)
        · rw [va_upne _ _ (by omega)]; exact hL.2 k hk
      · skip
        refine wp_iload (q := 10) d_Tn_adopt_8 rfl rfl ?_
        refine wp_bipush (q := 12) d_Tn_adopt_10 rfl bp_8 ?_
        refine wp_icmp_ge_f (q := 15) (tgt := 47) d_Tn_adopt_12 (by decide) rfl (nI_ge hi (by decide)) ?_
        refine wp_aload_n (q := 16) d_Tn_adopt_15 rfl rfl ?_
        refine wp_get (q := 19) fl_Tn_38 d_Tn_adopt_16 rfl rfl rfl ?_
        refine wp_iload_n (q := 20) d_Tn_adopt_19 rfl rfl ?_
        refine wp_bipush (q := 22) d_Tn_adopt_20 rfl bp_8 ?_
        first | refine wp_imulC (q := 23) d_Tn_adopt_22 rfl ?_ | refine wp_imul (q := 23) d_Tn_adopt_22 rfl ?_
        refine wp_iload (q := 25) d_Tn_adopt_23 rfl rfl ?_
        first | refine wp_iaddN (q := 26) d_Tn_adopt_25 rfl ?_ | refine wp_iadd (q := 26) d_Tn_adopt_25 rfl ?_
        refine wp_iload (q := 28) d_Tn_adopt_26 rfl rfl ?_
        refine wp_iload_n (q := 29) d_Tn_adopt_28 rfl rfl ?_
        refine wp_icmp_ge_t (tgt := 39) d_Tn_adopt_29 (by decide) (nI_le (by omega) (by omega)) ?_
        refine wp_null (q := 40) d_Tn_adopt_39 rfl ?_
        refine wp_aastN 5 (q := 41) (Cn := "FillAndGo$Line") rfl d_Tn_adopt_40 rfl rfl (by omega) (by decide) fc_10 ?_
        refine wp_iinc (q := 44) (L2 := [(4, _), (3, _), (0, _), (1, _), (2, _)]) d_Tn_adopt_41 rfl rfl (iinc_1) (by decide) rfl ?_
        refine wp_goto (tgt := 8) d_Tn_adopt_44 (by decide) ?_
        refine ih _ ⟨fun t ht => ?_, fun k hk => ?_⟩
        · by_cases e : t = i
          · rw [e, va_upeq, if_neg hin]
          · rw [va_upne _ _ (by omega)]; exact hL.1 t (by omega)
        · rw [va_upne _ _ (by omega)]; exact hL.2 k hk
  refine ok_of (L := [(0, _), (1, _), (2, _)]) (by decide) (Nat.le_of_ble_eq_true rfl) rfl ?_
  refine wp_aload_n (q := 1) d_Tn_adopt_0 rfl rfl ?_
  refine wp_get (q := 4) fl_Tn_81 d_Tn_adopt_1 rfl rfl rfl ?_
  rw [hcu9]
  refine wp_istore_n (q := 5) (L2 := [(3, _), (0, _), (1, _), (2, _)]) d_Tn_adopt_4 rfl (by decide) rfl ?_
  refine wp_iconst (q := 6) d_Tn_adopt_5 rfl ic_0 ?_
  refine wp_istore (q := 8) (L2 := [(4, _), (3, _), (0, _), (1, _), (2, _)]) d_Tn_adopt_6 rfl (by decide) rfl ?_
  exact lp 0 (Nat.zero_le _) ln0 ⟨fun t ht => absurd ht (Nat.not_lt_zero _), fun k hk => rfl⟩
theorem d_FG_custom_0 : decode M_FG_custom.2.1 0 = .ok (.aload_n 0, 1) := by decide +kernel
theorem d_FG_custom_1 : decode M_FG_custom.2.1 1 = .ok (.getfield 10, 3) := by decide +kernel
theorem d_FG_custom_4 : decode M_FG_custom.2.1 4 = .ok (.getfield 133, 3) := by decide +kernel
theorem d_FG_custom_7 : decode M_FG_custom.2.1 7 = .ok (.bipush 6, 2) := by decide +kernel
theorem d_FG_custom_9 : decode M_FG_custom.2.1 9 = .ok (.if_icmp .lt 6, 3) := by decide +kernel
theorem d_FG_custom_12 : decode M_FG_custom.2.1 12 = .ok (.bipush (-4), 2) := by decide +kernel
theorem d_FG_custom_14 : decode M_FG_custom.2.1 14 = .ok (.ireturn, 1) := by decide +kernel
theorem d_FG_custom_15 : decode M_FG_custom.2.1 15 = .ok (.aload_n 0, 1) := by decide +kernel
theorem d_FG_custom_16 : decode M_FG_custom.2.1 16 = .ok (.getfield 32, 3) := by decide +kernel
theorem d_FG_custom_19 : decode M_FG_custom.2.1 19 = .ok (.invokevirtual 136, 3) := by decide +kernel
theorem d_FG_custom_22 : decode M_FG_custom.2.1 22 = .ok (.istore_n 1, 1) := by decide +kernel
theorem d_FG_custom_23 : decode M_FG_custom.2.1 23 = .ok (.aload_n 0, 1) := by decide +kernel
theorem d_FG_custom_24 : decode M_FG_custom.2.1 24 = .ok (.getfield 32, 3) := by decide +kernel
theorem d_FG_custom_27 : decode M_FG_custom.2.1 27 = .ok (.iconst 0, 1) := by decide +kernel
theorem d_FG_custom_28 : decode M_FG_custom.2.1 28 = .ok (.putfield 126, 3) := by decide +kernel
theorem d_FG_custom_31 : decode M_FG_custom.2.1 31 = .ok (.iload_n 1, 1) := by decide +kernel
theorem d_FG_custom_32 : decode M_FG_custom.2.1 32 = .ok (.ifCond .eq 27, 3) := by decide +kernel
theorem d_FG_custom_35 : decode M_FG_custom.2.1 35 = .ok (.aload_n 0, 1) := by decide +kernel
theorem d_FG_custom_36 : decode M_FG_custom.2.1 36 = .ok (.getfield 10, 3) := by decide +kernel
theorem d_FG_custom_39 : decode M_FG_custom.2.1 39 = .ok (.aload_n 0, 1) := by decide +kernel
theorem d_FG_custom_40 : decode M_FG_custom.2.1 40 = .ok (.getfield 32, 3) := by decide +kernel
theorem d_FG_custom_43 : decode M_FG_custom.2.1 43 = .ok (.getfield 140, 3) := by decide +kernel
theorem d_FG_custom_46 : decode M_FG_custom.2.1 46 = .ok (.aload_n 0, 1) := by decide +kernel
theorem d_FG_custom_47 : decode M_FG_custom.2.1 47 = .ok (.getfield 32, 3) := by decide +kernel
theorem d_FG_custom_50 : decode M_FG_custom.2.1 50 = .ok (.getfield 144, 3) := by decide +kernel
theorem d_FG_custom_53 : decode M_FG_custom.2.1 53 = .ok (.invokevirtual 147, 3) := by decide +kernel
theorem d_FG_custom_56 : decode M_FG_custom.2.1 56 = .ok (.goto 13, 3) := by decide +kernel
theorem d_FG_custom_59 : decode M_FG_custom.2.1 59 = .ok (.bipush (-100), 2) := by decide +kernel
theorem d_FG_custom_61 : decode M_FG_custom.2.1 61 = .ok (.aload_n 0, 1) := by decide +kernel
theorem d_FG_custom_62 : decode M_FG_custom.2.1 62 = .ok (.getfield 32, 3) := by decide +kernel
theorem d_FG_custom_65 : decode M_FG_custom.2.1 65 = .ok (.getfield 151, 3) := by decide +kernel
theorem d_FG_custom_68 : decode M_FG_custom.2.1 68 = .ok (.isub, 1) := by decide +kernel
theorem d_FG_custom_69 : decode M_FG_custom.2.1 69 = .ok (.ireturn, 1) := by decide +kernel
def cuC (c : T2) (cu : Nat) : T2 := tput c 32 (upd (upd (c 32) 8 (nI 0)) 9 (nI (cu + 1)))
theorem cuC_eq (c : T2) (cu : Nat) : tput (cuZ c) 32 (upd (cuZ c 32) 9 (nI (cu + 1))) = cuC c cu := by
  unfold cuZ cuC
  rw [tput2, tput_eq]
set_option maxHeartbeats 4000000 in
set_option maxRecDepth 100000 in
theorem ok_FG_custom {D : xD} {N : Nat} {l : Launch} {d : Nat} {c x V : T2} {ln df : Nat → Option Nat} {rest : List va_E} {K : Option Value → List va_E → Prop} {tp : Nat} (htp : c 32 8 = nI tp) (h160 : tp ≤ 160) (hB : TBy c tp) {cu : Nat} (hcu9 : c 32 9 = nI cu) (hcu6 : cu ≤ 6) (hfull : cu = 6 → K (some (.int (-4))) (encC D N c x V ln df ++ rest)) (hy : ∀ n A q, pal (byB c tp) tp 8 0 0 (fun _ => (0, 0, 0, (fun _ => 0), (fun _ => 0), (fun _ => 0))) = (some (n, A), q) → ∀ x2 ln2 df2 rest2, n ≤ 8 → (∀ i, i < 8 → (i < n → ∃ a, ln2 (8 * cu + i) = some (N + (124 + a)) ∧ LAr D N rest2 a (A i)) ∧ (n ≤ i → ln2 (8 * cu + i) = none)) → (∀ k, (k < 8 * cu ∨ 8 * cu + 8 ≤ k) → ln2 k = ln k) → PX rest rest2 → K (some (.int (nI cu))) (encC D N (cuC c cu) x2 V ln2 df2 ++ rest2)) (hno : ∀ q, pal (byB c tp) tp 8 0 0 (fun _ => (0, 0, 0, (fun _ => 0), (fun _ => 0), (fun _ => 0))) = (none, q) → ∀ x2 df2 rest2, PX rest rest2 → K (some (.int (-100 - nI q))) (encC D N (cuZ c) x2 V ln df2 ++ rest2)) : Ok D N l (d + 8) M_FG_custom [.ref (N + 0)] (encC D N c x V ln df ++ rest) 32 120 K := by
  refine ok_of (L := [(0, _)]) (by decide) (Nat.le_of_ble_eq_true rfl) rfl ?_
  by_cases h6 : cu = 6
  · skip
    refine wp_aload_n (q := 1) d_FG_custom_0 rfl rfl ?_
    refine wp_get (q := 4) fl_FG_10 d_FG_custom_1 rfl rfl rfl ?_
    refine wp_get (q := 7) fl_FG_133 d_FG_custom_4 rfl rfl rfl ?_
    rw [hcu9]
    refine wp_bipush (q := 9) d_FG_custom_7 rfl bp_6 ?_
    refine wp_icmp_lt_f (q := 12) (tgt := 15) d_FG_custom_9 (by decide) rfl (by rw [h6]; decide) ?_
    refine wp_bipush (q := 14) d_FG_custom_12 rfl bp_m4 ?_
    refine wp_iret d_FG_custom_14 rfl (Nat.zero_le _) (Nat.zero_le _) ?_
    exact hfull h6
  · have hcu : cu < 6 := by omega
    refine wp_aload_n (q := 1) d_FG_custom_0 rfl rfl ?_
    refine wp_get (q := 4) fl_FG_10 d_FG_custom_1 rfl rfl rfl ?_
    refine wp_get (q := 7) fl_FG_133 d_FG_custom_4 rfl rfl rfl ?_
    rw [hcu9]
    refine wp_bipush (q := 9) d_FG_custom_7 rfl bp_6 ?_
    refine wp_icmp_lt_t (tgt := 15) d_FG_custom_9 (by decide) (nI_lt (by omega) (by decide)) ?_
    refine wp_aload_n (q := 16) d_FG_custom_15 rfl rfl ?_
    refine wp_get (q := 19) fl_FG_32 d_FG_custom_16 rfl rfl rfl ?_
    refine wp_callV (q := 22) (mc := 32) (ms := 120) [] lk_FG_136 (ro _ _ _) d_FG_custom_19 rfl rfl rfl (Nat.le_of_ble_eq_true rfl) rfl rfl (Nat.le_of_ble_eq_true rfl) (Nat.le_of_ble_eq_true rfl) ?_
    refine ok_Tp_parse htp h160 hB (fun n A q ev df2 rest2 x2 hn hDL hPX x0 x1 => ?_) (fun q ev df2 rest2 x2 hPX x0 => ?_)
    · refine wp_istore_n (q := 23) (L2 := [(1, _), (0, _)]) d_FG_custom_22 rfl (by decide) rfl ?_
      refine wp_aload_n (q := 24) d_FG_custom_23 rfl rfl ?_
      refine wp_get (q := 27) fl_FG_32 d_FG_custom_24 rfl rfl rfl ?_
      refine wp_iconst (q := 28) d_FG_custom_27 rfl ic_0 ?_
      refine wp_put (q := 31) fl_FG_126 d_FG_custom_28 rfl rfl (Nat.le_of_ble_eq_true rfl) rfl rfl (fc_s8) ?_
      rw [show tput c 32 (upd (c 32) 8 (nI 0)) = cuZ c from rfl]
      refine wp_iload_n (q := 32) d_FG_custom_31 rfl rfl ?_
      refine wp_if_eq_f (q := 35) (tgt := 59) d_FG_custom_32 (by decide) rfl (by decide) ?_
      refine wp_aload_n (q := 36) d_FG_custom_35 rfl rfl ?_
      refine wp_get (q := 39) fl_FG_10 d_FG_custom_36 rfl rfl rfl ?_
      refine wp_aload_n (q := 40) d_FG_custom_39 rfl rfl ?_
      refine wp_get (q := 43) fl_FG_32 d_FG_custom_40 rfl rfl rfl ?_
      refine wp_get (q := 46) fl_FG_140 d_FG_custom_43 rfl rfl rfl ?_
      refine wp_aload_n (q := 47) d_FG_custom_46 rfl rfl ?_
      refine wp_get (q := 50) fl_FG_32 d_FG_custom_47 rfl rfl rfl ?_
      refine wp_get (q := 53) fl_FG_144 d_FG_custom_50 rfl rfl rfl ?_
      rw [x1]
      refine wp_cv2 (q := 56) lk_FG_147 (ro _ _ _) d_FG_custom_53 rfl (Nat.le_of_ble_eq_true rfl) (rfl) rfl (Nat.le_refl _) (Nat.le_refl _) ?_
      refine ok_Tn_adopt (c := cuZ c) hcu9 hcu hn hDL (fun ln2 hL => ?_)
      rw [cuC_eq]
      refine wp_goto (tgt := 69) d_FG_custom_56 (by decide) ?_
      refine wp_iret d_FG_custom_69 rfl (Nat.le_refl _) (Nat.le_refl _) ?_
      refine hy n A q ev x2 ln2 df2 rest2 hn (fun i hi => ⟨fun h => ?_, fun h => ?_⟩) hL.2 hPX
      · obtain ⟨a, h1, h2⟩ := hDL i h
        exact ⟨a, by rw [hL.1 i hi, if_pos h]; exact h1, h2⟩
      · rw [hL.1 i hi, if_neg (by omega)]
    · refine wp_istore_n (q := 23) (L2 := [(1, _), (0, _)]) d_FG_custom_22 rfl (by decide) rfl ?_
      refine wp_aload_n (q := 24) d_FG_custom_23 rfl rfl ?_
      refine wp_get (q := 27) fl_FG_32 d_FG_custom_24 rfl rfl rfl ?_
      refine wp_iconst (q := 28) d_FG_custom_27 rfl ic_0 ?_
      refine wp_put (q := 31) fl_FG_126 d_FG_custom_28 rfl rfl (Nat.le_of_ble_eq_true rfl) rfl rfl (fc_s8) ?_
      rw [show tput c 32 (upd (c 32) 8 (nI 0)) = cuZ c from rfl]
      refine wp_iload_n (q := 32) d_FG_custom_31 rfl rfl ?_
      refine wp_if_eq_t (tgt := 59) d_FG_custom_32 (by decide) (by decide) ?_
      refine wp_bipush (q := 61) d_FG_custom_59 rfl bp_m100 ?_
      refine wp_aload_n (q := 62) d_FG_custom_61 rfl rfl ?_
      refine wp_get (q := 65) fl_FG_32 d_FG_custom_62 rfl rfl rfl ?_
      refine wp_get (q := 68) fl_FG_151 d_FG_custom_65 rfl rfl rfl ?_
      rw [x0]
      refine wp_isub (q := 69) d_FG_custom_68 rfl ?_
      refine wp_iret d_FG_custom_69 rfl (Nat.le_refl _) (Nat.le_refl _) ?_
      exact hno q ev x2 df2 rest2 hPX
