set_option maxHeartbeats 4000000 in
set_option maxRecDepth 100000 in
theorem ok_Rf_custom2 {D : xD} {N : Nat} {l : Launch} {d : Nat} {c z : T2} {P Q : Nat → Int32} {rest : List va_E} {K : Option Value → List va_E → Prop} {tp : Nat} (htp : c 32 8 = nI tp) (h160 : tp ≤ 160) {cu : Nat} (hcu9 : c 32 9 = nI cu) (hcu6 : cu ≤ 6) (hfull : cu = 6 → K (some (.int (-4))) (encR D N c z P Q ++ rest)) (hy : cu < 6 → ∀ n A q, pal (byB c tp) tp 8 0 0 (fun _ => (0, 0, 0, (fun _ => 0), (fun _ => 0), (fun _ => 0))) = (some (n, A), q) → ∀ c2 z2, CX c c2 cu → n ≤ 8 → (∀ j, j < n → LT c2 (8 * cu + j) (A j)) → K (some (.int (nI cu))) (encR D N (cuY c2 cu n) z2 P Q ++ rest)) (hno : cu < 6 → ∀ q, pal (byB c tp) tp 8 0 0 (fun _ => (0, 0, 0, (fun _ => 0), (fun _ => 0), (fun _ => 0))) = (none, q) → ∀ c2 z2, CX c c2 cu → K (some (.int (-100 - nI q))) (encR D N (cuZ c2) z2 P Q ++ rest)) : Ok D N l (d + 4) M_Rf_custom [.ref (N + 0)] (encR D N c z P Q ++ rest) 0 0 K := by
  refine ok_of (L := [(0, _)]) (by decide) (Nat.le_of_ble_eq_true rfl) rfl ?_
  by_cases h6 : cu = 6
  · skip
    refine wp_aload_n (q := 1) d_Rf_custom_0 rfl rfl ?_
    refine wp_get (q := 4) fl_Rf_211 d_Rf_custom_1 rfl rfl rfl ?_
    rw [hcu9]
    refine wp_bipush (q := 6) d_Rf_custom_4 rfl bp_6 ?_
    refine wp_icmp_ne_f (q := 9) (tgt := 12) d_Rf_custom_6 (by decide) rfl (by rw [h6]) ?_
    refine wp_bipush (q := 11) d_Rf_custom_9 rfl bp_m4 ?_
    refine wp_iret d_Rf_custom_11 rfl (Nat.le_refl _) (Nat.le_refl _) ?_
    exact hfull h6
  · have hcu : cu < 6 := by omega
    have hy := hy hcu
    have hno := hno hcu
    refine wp_aload_n (q := 1) d_Rf_custom_0 rfl rfl ?_
    refine wp_get (q := 4) fl_Rf_211 d_Rf_custom_1 rfl rfl rfl ?_
    rw [hcu9]
    refine wp_bipush (q := 6) d_Rf_custom_4 rfl bp_6 ?_
    refine wp_icmp_ne_t (tgt := 12) d_Rf_custom_6 (by decide) (fun e => h6 ((nI_eq (by omega) (by decide)).mp e)) ?_
    refine wp_aload_n (q := 13) d_Rf_custom_12 rfl rfl ?_
    refine wp_iconst (q := 14) d_Rf_custom_13 rfl ic_0 ?_
    refine wp_put (q := 17) fl_Rf_196 d_Rf_custom_14 rfl rfl (Nat.le_of_ble_eq_true rfl) rfl rfl (fr_at) ?_
    rw [show tput z 5 (upd (z 5) 0 (nI 0)) = zp z 0 from rfl]
    refine wp_iconst (q := 18) d_Rf_custom_17 rfl ic_1 ?_
    refine wp_istore_n (q := 19) (L2 := [(1, _), (0, _)]) d_Rf_custom_18 rfl (by decide) rfl ?_
    refine wp_aload_n (q := 20) d_Rf_custom_19 rfl rfl ?_
    refine wp_bipush (q := 22) d_Rf_custom_20 rfl bp_8 ?_
    refine wp_aload_n (q := 23) d_Rf_custom_22 rfl rfl ?_
    refine wp_get (q := 26) fl_Rf_211 d_Rf_custom_23 rfl rfl rfl ?_
    rw [hcu9]
    first | refine wp_imulN (q := 27) d_Rf_custom_26 rfl ?_ | refine wp_imul (q := 27) d_Rf_custom_26 rfl ?_
    refine wp_cv1 (q := 30) lk_Rf_214 (ro _ _ _) d_Rf_custom_27 rfl (Nat.le_of_ble_eq_true rfl) (rfl) rfl (Nat.zero_le _) (Nat.zero_le _) ?_
    refine ok_Rf_line (li := 8 * cu) htp h160 (by omega) (zp_at _ _) (Nat.zero_le _) (fun v q ev c3 x3 l3 => ?_) (fun q ev c3 x3 => ?_)
    · refine wp_istore_n (q := 31) (L2 := [(2, _), (1, _), (0, _)]) d_Rf_custom_30 rfl (by decide) rfl ?_
      rw [zp_zp]
      have hq2 : q ≤ tp := by have := pln_tp (B := byB c tp) byB_out (Nat.zero_le tp); rw [ev] at this; exact this
      have hx0 : LX c c3 (8 * cu + 0) := x3
      refine cr_loop htp h160 hcu9 hcu 7 0 q _ c3 (zp z q) (by decide) ((CX.rf c cu).tr hx0) (fun j hj => ?_) (zp_at _ _) hq2 (fun n A2 q3 e3 => hy n A2 q3 (by rw [pal, ev]; exact e3)) (fun q3 e3 => hno q3 (by rw [pal, ev]; exact e3))
      rw [show j = 0 by omega, va_upeq]
      exact l3
    · refine wp_istore_n (q := 31) (L2 := [(2, _), (1, _), (0, _)]) d_Rf_custom_30 rfl (by decide) rfl ?_
      refine wp_iload_n (q := 32) d_Rf_custom_31 rfl rfl ?_
      refine wp_if_eq_t (tgt := 80) d_Rf_custom_32 (by decide) (by decide) ?_
      rw [zp_zp]
      have hx0 : LX c c3 (8 * cu + 0) := x3
      refine cr_bad (zp_at _ _) (hno q (by rw [pal, ev]) c3 _ ((CX.rf c cu).tr hx0))
set_option maxHeartbeats 4000000 in
set_option maxRecDepth 100000 in
theorem ok_FG_custom2 {D : xD} {N : Nat} {l : Launch} {d : Nat} {c x V : T2} {ln df : Nat → Option Nat} {rest : List va_E} {K : Option Value → List va_E → Prop} {tp : Nat} (htp : c 32 8 = nI tp) (h160 : tp ≤ 160) (hB : TBy c tp) {cu : Nat} (hcu9 : c 32 9 = nI cu) (hcu6 : cu ≤ 6) (hfull : cu = 6 → K (some (.int (-4))) (encC D N c x V ln df ++ rest)) (hy : cu < 6 → ∀ n A q, pal (byB c tp) tp 8 0 0 (fun _ => (0, 0, 0, (fun _ => 0), (fun _ => 0), (fun _ => 0))) = (some (n, A), q) → ∀ x2 ln2 df2 rest2, n ≤ 8 → (∀ i, i < 8 → (i < n → ∃ a, ln2 (8 * cu + i) = some (N + (124 + a)) ∧ LAr D N rest2 a (A i)) ∧ (n ≤ i → ln2 (8 * cu + i) = none)) → (∀ k, (k < 8 * cu ∨ 8 * cu + 8 ≤ k) → ln2 k = ln k) → PX rest rest2 → K (some (.int (nI cu))) (encC D N (cuC c cu) x2 V ln2 df2 ++ rest2)) (hno : cu < 6 → ∀ q, pal (byB c tp) tp 8 0 0 (fun _ => (0, 0, 0, (fun _ => 0), (fun _ => 0), (fun _ => 0))) = (none, q) → ∀ x2 df2 rest2, PX rest rest2 → K (some (.int (-100 - nI q))) (encC D N (cuZ c) x2 V ln df2 ++ rest2)) : Ok D N l (d + 8) M_FG_custom [.ref (N + 0)] (encC D N c x V ln df ++ rest) 32 120 K := by
  refine ok_of (L := [(0, _)]) (by decide) (Nat.le_of_ble_eq_true rfl) rfl ?_
  by_cases h6 : cu = 6
  · skip
    refine wp_aload_n (q := 1) d_FG_custom_0 rfl rfl ?_
    refine wp_get (q := 4) fl_FG_10 d_FG_custom_1 rfl rfl rfl ?_
    refine wp_get (q := 7) fl_FG_133 d_FG_custom_4 rfl rfl rfl ?_
    rw [hcu9]
    refine wp_bipush (q := 9) d_FG_custom_7 rfl bp_6 ?_
    refine wp_icmp_lt_f (q := 12) (tgt := 15) d_FG_custom_9 (by decide) rfl (by rw [h6]; decide) ?_
    refine wp_bipush (q := 14) d_FG_custom_12 rfl bp_m4 ?_
    refine wp_iret d_FG_custom_14 rfl (Nat.zero_le _) (Nat.zero_le _) ?_
    exact hfull h6
  · have hcu : cu < 6 := by omega
    have hy := hy hcu
    have hno := hno hcu
    refine wp_aload_n (q := 1) d_FG_custom_0 rfl rfl ?_
    refine wp_get (q := 4) fl_FG_10 d_FG_custom_1 rfl rfl rfl ?_
    refine wp_get (q := 7) fl_FG_133 d_FG_custom_4 rfl rfl rfl ?_
    rw [hcu9]
    refine wp_bipush (q := 9) d_FG_custom_7 rfl bp_6 ?_
    refine wp_icmp_lt_t (tgt := 15) d_FG_custom_9 (by decide) (nI_lt (by omega) (by decide)) ?_
    refine wp_aload_n (q := 16) d_FG_custom_15 rfl rfl ?_
    refine wp_get (q := 19) fl_FG_32 d_FG_custom_16 rfl rfl rfl ?_
    refine wp_callV (q := 22) (mc := 32) (ms := 120) [] lk_FG_136 (ro _ _ _) d_FG_custom_19 rfl rfl rfl (Nat.le_of_ble_eq_true rfl) rfl rfl (Nat.le_of_ble_eq_true rfl) (Nat.le_of_ble_eq_true rfl) ?_
    refine ok_Tp_parse htp h160 hB (fun n A q ev df2 rest2 x2 hn hDL hPX x0 x1 => ?_) (fun q ev df2 rest2 x2 hPX x0 => ?_)
    · refine wp_istore_n (q := 23) (L2 := [(1, _), (0, _)]) d_FG_custom_22 rfl (by decide) rfl ?_
      refine wp_aload_n (q := 24) d_FG_custom_23 rfl rfl ?_
      refine wp_get (q := 27) fl_FG_32 d_FG_custom_24 rfl rfl rfl ?_
      refine wp_iconst (q := 28) d_FG_custom_27 rfl ic_0 ?_
      refine wp_put (q := 31) fl_FG_126 d_FG_custom_28 rfl rfl (Nat.le_of_ble_eq_true rfl) rfl rfl (fc_s8) ?_
      rw [show tput c 32 (upd (c 32) 8 (nI 0)) = cuZ c from rfl]
      refine wp_iload_n (q := 32) d_FG_custom_31 rfl rfl ?_
      refine wp_if_eq_f (q := 35) (tgt := 59) d_FG_custom_32 (by decide) rfl (by decide) ?_
      refine wp_aload_n (q := 36) d_FG_custom_35 rfl rfl ?_
      refine wp_get (q := 39) fl_FG_10 d_FG_custom_36 rfl rfl rfl ?_
      refine wp_aload_n (q := 40) d_FG_custom_39 rfl rfl ?_
      refine wp_get (q := 43) fl_FG_32 d_FG_custom_40 rfl rfl rfl ?_
      refine wp_get (q := 46) fl_FG_140 d_FG_custom_43 rfl rfl rfl ?_
      refine wp_aload_n (q := 47) d_FG_custom_46 rfl rfl ?_
      refine wp_get (q := 50) fl_FG_32 d_FG_custom_47 rfl rfl rfl ?_
      refine wp_get (q := 53) fl_FG_144 d_FG_custom_50 rfl rfl rfl ?_
      rw [x1]
      refine wp_cv2 (q := 56) lk_FG_147 (ro _ _ _) d_FG_custom_53 rfl (Nat.le_of_ble_eq_true rfl) (rfl) rfl (Nat.le_refl _) (Nat.le_refl _) ?_
      refine ok_Tn_adopt (c := cuZ c) hcu9 hcu hn hDL (fun ln2 hL => ?_)
      rw [cuC_eq]
      refine wp_goto (tgt := 69) d_FG_custom_56 (by decide) ?_
      refine wp_iret d_FG_custom_69 rfl (Nat.le_refl _) (Nat.le_refl _) ?_
      refine hy n A q ev x2 ln2 df2 rest2 hn (fun i hi => ⟨fun h => ?_, fun h => ?_⟩) hL.2 hPX
      · obtain ⟨a, h1, h2⟩ := hDL i h
        exact ⟨a, by rw [hL.1 i hi, if_pos h]; exact h1, h2⟩
      · rw [hL.1 i hi, if_neg (by omega)]
    · refine wp_istore_n (q := 23) (L2 := [(1, _), (0, _)]) d_FG_custom_22 rfl (by decide) rfl ?_
      refine wp_aload_n (q := 24) d_FG_custom_23 rfl rfl ?_
      refine wp_get (q := 27) fl_FG_32 d_FG_custom_24 rfl rfl rfl ?_
      refine wp_iconst (q := 28) d_FG_custom_27 rfl ic_0 ?_
      refine wp_put (q := 31) fl_FG_126 d_FG_custom_28 rfl rfl (Nat.le_of_ble_eq_true rfl) rfl rfl (fc_s8) ?_
      rw [show tput c 32 (upd (c 32) 8 (nI 0)) = cuZ c from rfl]
      refine wp_iload_n (q := 32) d_FG_custom_31 rfl rfl ?_
      refine wp_if_eq_t (tgt := 59) d_FG_custom_32 (by decide) (by decide) ?_
      refine wp_bipush (q := 61) d_FG_custom_59 rfl bp_m100 ?_
      refine wp_aload_n (q := 62) d_FG_custom_61 rfl rfl ?_
      refine wp_get (q := 65) fl_FG_32 d_FG_custom_62 rfl rfl rfl ?_
      refine wp_get (q := 68) fl_FG_151 d_FG_custom_65 rfl rfl rfl ?_
      rw [x0]
      refine wp_isub (q := 69) d_FG_custom_68 rfl ?_
      refine wp_iret d_FG_custom_69 rfl (Nat.le_refl _) (Nat.le_refl _) ?_
      exact hno q ev x2 df2 rest2 hPX
theorem IV.sw {c d : T2} {P Q : FN} {q nb m mq nm tu e nk tp : Nat} (h : IV c P Q q nb m mq nm tu e nk tp) (hk : ∀ k, ¬ (22 ≤ k ∧ k ≤ 28) → k ≠ 32 → d k = c k) (h32 : ∀ j, j ≠ 8 → j ≠ 9 → d 32 j = c 32 j) (h8 : d 32 8 = nI 0) (hCI : CI d) : IV d P Q q nb m mq nm tu e nk 0 := by
  obtain ⟨⟨n1, n2, n3, n4⟩, ⟨b1, b2, b3⟩, ⟨d1, d2, d3⟩, ⟨t1, t2, t3⟩, a5, a6, ⟨g1, g2⟩, ⟨s1, s2, s3, s4, s5, s6, s7, s8⟩, ⟨k1, k2, k3⟩, a10⟩ := h
  have e5 := hk 5 (by decide) (by decide)
  have h5 : ∀ b, b < 12 → tn (c 5 b) ≤ tn (d 5 b) := fun b _ => Nat.le_of_eq (by rw [e5])
  exact ⟨⟨(h32 1 (by decide) (by decide)).trans n1, n2, fun b hb => by rw [e5]; exact n3 b hb, fun b x y => by rw [e5]; exact n4 b x y⟩, ⟨⟨b1.1, b1.2.cg h5⟩, b2, b3⟩, ⟨⟨d1.1, d1.2.cg h5⟩, d2, d3⟩, ⟨fun i hi => by rw [hk 2 (by decide) (by decide), hk 3 (by decide) (by decide)]; exact t1 i hi, fun i hi => by rw [hk 4 (by decide) (by decide)]; exact t2 i hi, fun i hi => by rw [hk 9 (by decide) (by decide)]; exact t3 i hi⟩, hCI, fun s hs => by rw [hk 30 (by decide) (by decide)]; exact a6 s hs, ⟨fun i hi => by rw [hk 11 (by decide) (by decide)]; exact g1 i hi, by rw [h32 3 (by decide) (by decide)]; exact g2⟩, ⟨(h32 4 (by decide) (by decide)).trans s1, s2, (h32 6 (by decide) (by decide)).trans s3, s4, (h32 5 (by decide) (by decide)).trans s5, s6, s7, fun i hi => by rw [hk 14 (by decide) (by decide)]; exact s8 i hi⟩, ⟨(h32 7 (by decide) (by decide)).trans k1, k2, fun k x y => by rw [hk 20 (by decide) (by decide)]; exact k3 k x y⟩, ⟨h8, Nat.zero_le _, fun i hi => absurd hi (Nat.not_lt_zero _)⟩⟩
def CB (c : T2) (cu : Nat) : Prop := isN (c 22 cu) 9 ∧ ∀ i, i < tn (c 22 cu) → isN (c 25 (8 * cu + i)) 4 ∧ ∀ t, t < tn (c 25 (8 * cu + i)) → isN (c 26 (3 * (8 * cu + i) + t)) 8
def LB (D : xD) (N : Nat) (c : T2) (ln : Nat → Option Nat) (rest : List va_E) (cu i : Nat) : Prop :=
  (i < tn (c 22 cu) → ∃ (j : Nat) (F S B : Nat → Int32), ln (8 * cu + i) = some (N + (124 + j)) ∧ LAt D N rest j (c 23 (8 * cu + i)) (c 24 (8 * cu + i)) (tn (c 25 (8 * cu + i))) F S B ∧ ∀ t, t < tn (c 25 (8 * cu + i)) → F t = c 26 (3 * (8 * cu + i) + t) ∧ S t = c 27 (3 * (8 * cu + i) + t) ∧ B t = c 28 (3 * (8 * cu + i) + t)) ∧ (tn (c 22 cu) ≤ i → ln (8 * cu + i) = none)
theorem cx_old {c c2 d : T2} {cu : Nat} (hX : CX c c2 cu) (hcu : tn (c 32 9) = cu) (hC : CI c) (h22 : ∀ k, k < cu → d 22 k = c 22 k) (hd : ∀ k, 23 ≤ k → k ≤ 28 → d k = c2 k) : ∀ k, k < cu → CB d k := by
  intro k hk
  obtain ⟨g1, g2⟩ := hC.2.2 k (by omega)
  unfold CB
  rw [h22 k hk, hd 25 (by decide) (by decide), hd 26 (by decide) (by decide)]
  refine ⟨g1, fun i hi => ?_⟩
  have h9 := g1.2
  obtain ⟨g3, g4⟩ := g2 i hi
  have h4 := g3.2
  rw [hX.2.1 25 (by decide) (by decide) (8 * k + i) (by omega)]
  refine ⟨g3, fun t ht => ?_⟩
  rw [hX.2.2 26 (by decide) (by decide) (3 * (8 * k + i) + t) (by omega)]
  exact g4 t ht
theorem lk_old {D : xD} {N : Nat} {c c2 d : T2} {cu : Nat} {ln ln2 : Nat → Option Nat} {lines lines2 : List va_E} (hX : CX c c2 cu) (hcu : tn (c 32 9) = cu) (hC : CI c) (h22 : ∀ k, k < cu → d 22 k = c 22 k) (hd : ∀ k, 23 ≤ k → k ≤ 28 → d k = c2 k) (hLK : LK D N c ln lines) (hp : PX lines lines2) (hln : ∀ k, k < 8 * cu → ln2 k = ln k) {R : List va_E} (hR : R.length = 40) {k i : Nat} (hk : k < cu) (hi : i < 8) : LB D N d ln2 (R ++ lines2) k i := by
  obtain ⟨g1, g2⟩ := hLK R hR k i (by omega) hi
  have hn := ((hC.2.2 k (by omega)).1).2
  unfold LB
  rw [h22 k hk, hd 23 (by decide) (by decide), hd 24 (by decide) (by decide), hd 25 (by decide) (by decide), hd 26 (by decide) (by decide), hd 27 (by decide) (by decide), hd 28 (by decide) (by decide), hln (8 * k + i) (by omega), hX.2.1 23 (by decide) (by decide) (8 * k + i) (by omega), hX.2.1 24 (by decide) (by decide) (8 * k + i) (by omega), hX.2.1 25 (by decide) (by decide) (8 * k + i) (by omega)]
  refine ⟨fun h => ?_, g2⟩
  obtain ⟨j, F, S, B, e, hA, hF⟩ := g1 h
  have h4 := ((hC.2.2 k (by omega)).2 i h).1.2
  refine ⟨j, F, S, B, e, hA.ext (fun a ha => ?_), fun t ht => ?_⟩
  · rw [List.length_append] at ha
    by_cases hq : a < 40
    · rw [List.getElem?_append_left (by omega), List.getElem?_append_left (by omega)]
    · rw [List.getElem?_append_right (by omega), List.getElem?_append_right (by omega)]
      exact hp.2 _ (by omega)
  · rw [hX.2.2 26 (by decide) (by decide) (3 * (8 * k + i) + t) (by omega), hX.2.2 27 (by decide) (by decide) (3 * (8 * k + i) + t) (by omega), hX.2.2 28 (by decide) (by decide) (3 * (8 * k + i) + t) (by omega)]
    exact hF t ht
theorem px_cut {A B C : List va_E} (h : PX (A ++ B) C) : C = A ++ C.drop A.length ∧ PX B (C.drop A.length) := by
  obtain ⟨h1, h2⟩ := h
  rw [List.length_append] at h1
  refine ⟨List.ext_getElem? (fun i => ?_), ?_, fun i hi => ?_⟩
  · by_cases hi : i < A.length
    · rw [List.getElem?_append_left hi, h2 i (by rw [List.length_append]; omega), List.getElem?_append_left hi]
    · rw [List.getElem?_append_right (by omega), List.getElem?_drop, show A.length + (i - A.length) = i by omega]
  · rw [List.length_drop]; omega
  · rw [List.getElem?_drop, h2 _ (by rw [List.length_append]; omega), List.getElem?_append_right (by omega), show A.length + i - A.length = i by omega]
theorem cuY_k {c c2 : T2} {cu n : Nat} (hX : CX c c2 cu) : ∀ k, ¬ (22 ≤ k ∧ k ≤ 28) → cuY c2 cu n k = cuC c cu k := by
  intro k hk
  unfold cuY cuC
  by_cases e : k = 32
  · subst e
    rw [tput_eq, tput_eq, hX.1 32 (by decide)]
  · rw [tput_ne _ _ e, tput_ne _ _ (by omega), tput_ne _ _ e, hX.1 k (by omega)]
theorem cuZ_k {c c2 : T2} {cu : Nat} (hX : CX c c2 cu) : ∀ k, ¬ (22 ≤ k ∧ k ≤ 28) → cuZ c2 k = cuZ c k := by
  intro k hk
  unfold cuZ
  by_cases e : k = 32
  · subst e
    rw [tput_eq, tput_eq, hX.1 32 (by decide)]
  · rw [tput_ne _ _ e, tput_ne _ _ e, hX.1 k (by omega)]
theorem cuY_22 (c : T2) (cu n : Nat) : cuY c cu n 22 = upd (c 22) cu (nI n) := by unfold cuY; rw [tput_ne _ _ (by decide), tput_eq]
theorem cuY_t (c : T2) (cu n k : Nat) (h1 : 23 ≤ k) (h2 : k ≤ 28) : cuY c cu n k = c k := by unfold cuY; rw [tput_ne _ _ (by omega), tput_ne _ _ (by omega)]
theorem cuZ_t (c : T2) (k : Nat) (h2 : k ≠ 32) : cuZ c k = c k := by unfold cuZ; rw [tput_ne _ _ h2]
theorem cuY_32 (c : T2) (cu n : Nat) : cuY c cu n 32 = upd (upd (c 32) 8 (nI 0)) 9 (nI (cu + 1)) := by unfold cuY; rw [tput_eq]
theorem cuZ_32 (c : T2) : cuZ c 32 = upd (c 32) 8 (nI 0) := by unfold cuZ; rw [tput_eq]
section CU
variable {D : xD} {N : Nat} {c c2 : T2} {P Q : FN} {q nb m mq nm tu e nk tp cu n : Nat} {A : Nat → LR} {ln ln2 : Nat → Option Nat} {lines lines2 : List va_E}
theorem cb_new (hn : n ≤ 8) (hL : ∀ j, j < n → LT c2 (8 * cu + j) (A j)) : CB (cuY c2 cu n) cu := by
  unfold CB
  rw [cuY_22, upd_eq, cuY_t _ _ _ 25 (by decide) (by decide), cuY_t _ _ _ 26 (by decide) (by decide), tnl hn]
  refine ⟨isN_of (by omega) (by decide), fun i hi => ?_⟩
  obtain ⟨l1, l2, l3, l4, l5⟩ := hL i hi
  rw [l3, tnl l4]
  exact ⟨isN_of (by omega) (by decide), fun t ht => by rw [(l5 t ht).1]; exact (l5 t ht).2.2.2⟩
theorem iv_cuY (h : IV c P Q q nb m mq nm tu e nk tp) (hcu9 : c 32 9 = nI cu) (hcu : cu < 6) (hX : CX c c2 cu) (hn : n ≤ 8) (hL : ∀ j, j < n → LT c2 (8 * cu + j) (A j)) : IE (cuY c2 cu n) P Q q := by
  have hC := h.2.2.2.2.1
  have ht : tn (c 32 9) = cu := by rw [hcu9]; exact tnt hcu
  have h9 : tn (cuY c2 cu n 32 9) = cu + 1 := by rw [cuY_32, upd_eq]; exact tnt (show cu + 1 < 7 by omega)
  have hold := cx_old (d := cuY c2 cu n) hX ht hC (fun k hk => by rw [cuY_22, upd_ne _ _ (by omega), hX.1 22 (by decide)]) (fun k h1 h2 => cuY_t _ _ _ k h1 h2)
  refine iv_same (h.sw (d := cuY c2 cu n) (fun k h1 h2 => ?_) (fun j h1 h2 => ?_) ?_ ⟨?_, fun s hs => ?_, fun k hk => ?_⟩)
  · rw [cuY_k hX k h1]; unfold cuC; rw [tput_ne _ _ h2]
  · rw [cuY_32, upd_ne _ _ h2, upd_ne _ _ h1, hX.1 32 (by decide)]
  · rw [cuY_32, upd_ne _ _ (by decide), upd_eq]
  · rw [cuY_32, upd_eq]; exact isN_of (by omega) (by decide)
  · rw [h9, cuY_k hX 10 (by decide)]
    unfold cuC
    rw [tput_ne _ _ (by decide)]
    rcases hC.2.1 s hs with g | g
    · exact Or.inl g
    · rw [ht] at g; exact Or.inr (g.le (by omega))
  · rw [h9] at hk
    by_cases hq : k < cu
    · exact hold k hq
    · rw [show k = cu by omega]; exact cb_new hn hL
theorem iv_cuZ (h : IV c P Q q nb m mq nm tu e nk tp) (hcu9 : c 32 9 = nI cu) (hcu : cu < 6) (hX : CX c c2 cu) : IE (cuZ c2) P Q q := by
  have hC := h.2.2.2.2.1
  have ht : tn (c 32 9) = cu := by rw [hcu9]; exact tnt hcu
  have e9 : cuZ c2 32 9 = c 32 9 := by rw [cuZ_32, upd_ne _ _ (by decide), hX.1 32 (by decide)]
  have hold := cx_old (d := cuZ c2) hX ht hC (fun k hk => by rw [cuZ_t _ _ (by decide), hX.1 22 (by decide)]) (fun k h1 h2 => cuZ_t _ k (by omega))
  refine iv_same (h.sw (d := cuZ c2) (fun k h1 h2 => ?_) (fun j h1 h2 => ?_) ?_ ⟨?_, fun s hs => ?_, fun k hk => ?_⟩)
  · rw [cuZ_t _ _ h2, hX.1 k (by omega)]
  · rw [cuZ_32, upd_ne _ _ h1, hX.1 32 (by decide)]
  · rw [cuZ_32, upd_eq]
  · rw [e9]; exact hC.1
  · rw [e9, cuZ_t _ _ (by decide), hX.1 10 (by decide)]; exact hC.2.1 s hs
  · rw [e9, ht] at hk; exact hold k hk
theorem lk_cuZ (h : IV c P Q q nb m mq nm tu e nk tp) (hcu9 : c 32 9 = nI cu) (hcu : cu < 6) (hX : CX c c2 cu) (hLK : LK D N c ln lines) (hp : PX lines lines2) : LK D N (cuZ c2) ln lines2 := by
  have hC := h.2.2.2.2.1
  have ht : tn (c 32 9) = cu := by rw [hcu9]; exact tnt hcu
  have e9 : cuZ c2 32 9 = c 32 9 := by rw [cuZ_32, upd_ne _ _ (by decide), hX.1 32 (by decide)]
  intro R hR k i hk hi
  rw [e9, ht] at hk
  exact lk_old (d := cuZ c2) hX ht hC (fun k hk => by rw [cuZ_t _ _ (by decide), hX.1 22 (by decide)]) (fun k h1 h2 => cuZ_t _ k (by omega)) hLK hp (fun _ _ => rfl) hR hk hi
theorem lk_cuY {z : T2} (h : IV c P Q q nb m mq nm tu e nk tp) (hcu9 : c 32 9 = nI cu) (hcu : cu < 6) (hX : CX c c2 cu) (hn : n ≤ 8) (hL : ∀ j, j < n → LT c2 (8 * cu + j) (A j)) (hLK : LK D N c ln lines) (hp : PX lines lines2) (hln : ∀ k, (k < 8 * cu ∨ 8 * cu + 8 ≤ k) → ln2 k = ln k) (hnew : ∀ i, i < 8 → (i < n → ∃ a, ln2 (8 * cu + i) = some (N + (124 + a)) ∧ LAr D N (encR D (N + 124) c z P Q ++ lines2) a (A i)) ∧ (n ≤ i → ln2 (8 * cu + i) = none)) : LK D N (cuY c2 cu n) ln2 lines2 := by
  have hC := h.2.2.2.2.1
  have ht : tn (c 32 9) = cu := by rw [hcu9]; exact tnt hcu
  have h9 : tn (cuY c2 cu n 32 9) = cu + 1 := by rw [cuY_32, upd_eq]; exact tnt (show cu + 1 < 7 by omega)
  intro R hR k i hk hi
  rw [h9] at hk
  by_cases hq : k < cu
  · exact lk_old (d := cuY c2 cu n) hX ht hC (fun k hk => by rw [cuY_22, upd_ne _ _ (by omega), hX.1 22 (by decide)]) (fun k h1 h2 => cuY_t _ _ _ k h1 h2) hLK hp (fun k hk => hln k (Or.inl hk)) hR hq hi
  · rw [show k = cu by omega]
    show LB D N (cuY c2 cu n) ln2 (R ++ lines2) cu i
    unfold LB
    rw [cuY_22, upd_eq, tnl hn, cuY_t _ _ _ 23 (by decide) (by decide), cuY_t _ _ _ 24 (by decide) (by decide), cuY_t _ _ _ 25 (by decide) (by decide), cuY_t _ _ _ 26 (by decide) (by decide), cuY_t _ _ _ 27 (by decide) (by decide), cuY_t _ _ _ 28 (by decide) (by decide)]
    refine ⟨fun hin => ?_, (hnew i hi).2⟩
    obtain ⟨a, ea, hA⟩ := (hnew i hi).1 hin
    obtain ⟨l1, l2, l3, l4, l5⟩ := hL i hin
    have ha : 40 ≤ a := by
      by_cases g : 40 ≤ a
      · exact g
      · have := hA.1
        rw [List.getElem?_append_left (show a < (encR D (N + 124) c z P Q).length by rw [encR_len]; omega)] at this
        exact absurd this (encR_n4 (by omega))
    rw [l1, l2, l3, tnl l4]
    exact ⟨a, _, _, _, ea, LAt.sw encR_len hR ha hA, fun t ht => ⟨((l5 t ht).1).symm, ((l5 t ht).2.1).symm, ((l5 t ht).2.2.1).symm⟩⟩
end CU
theorem vvb {V : T2} {P Q : FN} : va_up (va_up (va_up V 2 Q) 0 P) 0 Q = va_up (va_up V 2 Q) 0 Q := by
  funext j
  by_cases h0 : j = 0
  · subst h0; rw [va_upeq, va_upeq]
  · rw [va_upne _ _ h0, va_upne _ _ h0, va_upne _ _ h0]
set_option maxHeartbeats 4000000 in
set_option maxRecDepth 100000 in
theorem lc_image {D : xD} {N : Nat} {l : Launch} {b Ln t : Nat} {xs : Nat → Int32} {c x V z : T2} {P Q : FN} {ln df : Nat → Option Nat} {lines : List va_E} {nb m mq nm tu e nk tp : Nat} (hb : b < N) (hLn : Ln ≤ 3072) (ht : 6 * t + 6 ≤ Ln) (h : IV c P Q (2500 * t) nb m mq nm tu e nk tp) (hLK : LK D N c ln lines) (nx : NX D N l b Ln xs t) : LWp D N l b Ln xs t 1441 [] (HG D N c x V P Q ln df z lines) := by
  obtain ⟨⟨hnb, h12, hSE, hn0⟩, ⟨hWV, hm, hSt⟩, hQ3, hT, hCI, hSZ, hG, ⟨hnm, hm6, htu, htt, he, he1, he2, h14⟩, ⟨hnk, h30, h20⟩, ⟨htp, h160, hB⟩⟩ := id h
  refine wp_aload_n d_Lw_law_1441 rfl rfl ?_
  refine wp_cv0 (d := 0 + 2) (q := 1445) lk_Lw_166 (ro_law (by decide)) d_Lw_law_1442 rfl (Nat.le_of_ble_eq_true rfl) rfl rfl (show 164 + 32 * t ≤ 600000 by omega) (show 3739 + 120 * t ≤ 7302250 by omega) ?_
  refine ok_FG_image (d := 0) ?_
  refine lw_k0 ?_
  rw [va_upeq, vvi]
  refine wp_aload_n d_Lw_law_1445 rfl rfl ?_
  refine wp_cv0 (i := 124) (d := 0) (q := 1449) lk_Lw_169 (ro_law (by decide)) d_Lw_law_1446 rfl (Nat.le_of_ble_eq_true rfl) ((rdX (j := 0)).trans rfl) rfl (show 164 + 32 * t ≤ 600000 by omega) (show 3739 + 120 * t ≤ 7302250 by omega) ?_
  refine ok_sh encC_len (ok_Rf_image (d := 0) ?_)
  refine lw_k0 ?_
  exact wp_icmp_eq_t d_Lw_law_1449 (by decide) rfl (wp_widen (by omega) (by omega) (nx _ _ _ _ _ _ _ _ _ (iv_image h).lift (hLK.kp (kp_image _))))
set_option maxHeartbeats 4000000 in
set_option maxRecDepth 100000 in
theorem lc_back {D : xD} {N : Nat} {l : Launch} {b Ln t : Nat} {xs : Nat → Int32} {c x V z : T2} {P Q : FN} {ln df : Nat → Option Nat} {lines : List va_E} {nb m mq nm tu e nk tp : Nat} (hb : b < N) (hLn : Ln ≤ 3072) (ht : 6 * t + 6 ≤ Ln) (h : IV c P Q (2500 * t) nb m mq nm tu e nk tp) (hLK : LK D N c ln lines) (nx : NX D N l b Ln xs t) : LWp D N l b Ln xs t 1454 [] (HG D N c x V P Q ln df z lines) := by
  obtain ⟨⟨hnb, h12, hSE, hn0⟩, ⟨hWV, hm, hSt⟩, hQ3, hT, hCI, hSZ, hG, ⟨hnm, hm6, htu, htt, he, he1, he2, h14⟩, ⟨hnk, h30, h20⟩, ⟨htp, h160, hB⟩⟩ := id h
  refine wp_aload_n d_Lw_law_1454 rfl rfl ?_
  refine wp_cv0 (d := 0 + 2) (q := 1458) lk_Lw_170 (ro_law (by decide)) d_Lw_law_1455 rfl (Nat.le_of_ble_eq_true rfl) rfl rfl (show 164 + 32 * t ≤ 600000 by omega) (show 3739 + 120 * t ≤ 7302250 by omega) ?_
  refine ok_FG_back (d := 0) (fun h1 => ?_) (fun h0 => ?_)
  · refine lw_k0 ?_
    rw [va_upne _ _ (show 2 ≠ 0 by decide), va_upeq, vvb]
    refine wp_aload_n d_Lw_law_1458 rfl rfl ?_
    refine wp_cv0 (i := 124) (d := 0) (q := 1462) lk_Lw_173 (ro_law (by decide)) d_Lw_law_1459 rfl (Nat.le_of_ble_eq_true rfl) ((rdX (j := 0)).trans rfl) rfl (show 164 + 32 * t ≤ 600000 by omega) (show 3739 + 120 * t ≤ 7302250 by omega) ?_
    refine ok_sh encC_len (ok_Rf_back (d := 0) (fun _ => ?_) (fun h0 => absurd h0 h1))
    refine lw_k0 ?_
    exact wp_icmp_eq_t d_Lw_law_1462 (by decide) rfl (wp_widen (by omega) (by omega) (nx _ _ _ _ _ _ _ _ _ (iv_back h).lift hLK))
  · refine lw_k0 ?_
    refine wp_aload_n d_Lw_law_1458 rfl rfl ?_
    refine wp_cv0 (i := 124) (d := 0) (q := 1462) lk_Lw_173 (ro_law (by decide)) d_Lw_law_1459 rfl (Nat.le_of_ble_eq_true rfl) ((rdX (j := 0)).trans rfl) rfl (show 164 + 32 * t ≤ 600000 by omega) (show 3739 + 120 * t ≤ 7302250 by omega) ?_
    refine ok_sh encC_len (ok_Rf_back (d := 0) (fun h1 => absurd h0 h1) (fun _ => ?_))
    refine lw_k0 ?_
    exact wp_icmp_eq_t d_Lw_law_1462 (by decide) rfl (wp_widen (by omega) (by omega) (nx _ _ _ _ _ _ _ _ _ (iv_same h).lift hLK))
set_option maxHeartbeats 4000000 in
set_option maxRecDepth 100000 in
theorem lc_custom {D : xD} {N : Nat} {l : Launch} {b Ln t : Nat} {xs : Nat → Int32} {c x V z : T2} {P Q : FN} {ln df : Nat → Option Nat} {lines : List va_E} {nb m mq nm tu e nk tp : Nat} (hb : b < N) (hLn : Ln ≤ 3072) (ht : 6 * t + 6 ≤ Ln) (h : IV c P Q (2500 * t) nb m mq nm tu e nk tp) (hLK : LK D N c ln lines) (nx : NX D N l b Ln xs t) : LWp D N l b Ln xs t 633 [] (HG D N c x V P Q ln df z lines) := by
  obtain ⟨⟨hnb, h12, hSE, hn0⟩, ⟨hWV, hm, hSt⟩, hQ3, hT, hCI, hSZ, hG, ⟨hnm, hm6, htu, htt, he, he1, he2, h14⟩, ⟨hnk, h30, h20⟩, ⟨htp, h160, hB⟩⟩ := id h
  obtain ⟨cu, hcu6, hcu9⟩ : ∃ cu, cu ≤ 6 ∧ c 32 9 = nI cu := ⟨tn (c 32 9), by have := hCI.1.2; omega, hCI.1.1⟩
  refine wp_aload_n d_Lw_law_633 rfl rfl ?_
  refine wp_callV (d := 0 + 8) (q := 637) (mc := 32) (ms := 120) [] lk_Lw_64 (ro_law (by decide)) d_Lw_law_634 rfl rfl rfl (Nat.le_of_ble_eq_true rfl) rfl rfl (show 164 + 32 * t + 32 ≤ 600000 by omega) (show 3739 + 120 * t + 120 ≤ 7302250 by omega) ?_
  refine ok_FG_custom2 (d := 0) htp h160 hB hcu9 hcu6 (fun h6 => ?_) (fun hcu n A q ev x2 ln2 df2 rest2 hn hnew hln hPX => ?_) (fun hcu q ev x2 df2 rest2 hPX => ?_)
  · skip
    refine lw_k0 ?_
    refine wp_aload_n d_Lw_law_637 rfl rfl ?_
    refine wp_cv0 (i := 124) (d := 0 + 4) (q := 641) lk_Lw_68 (ro_law (by decide)) d_Lw_law_638 rfl (Nat.le_of_ble_eq_true rfl) ((rdX (j := 0)).trans rfl) rfl (show 164 + 32 * t + 32 ≤ 600000 by omega) (show 3739 + 120 * t + 120 ≤ 7302250 by omega) ?_
    refine ok_sh encC_len (ok_Rf_custom2 (d := 0) htp h160 hcu9 hcu6 (fun _ => ?_) (fun hcu => absurd hcu (by omega)) (fun hcu => absurd hcu (by omega)))
    refine lw_k0 ?_
    exact wp_icmp_eq_t d_Lw_law_641 (by decide) rfl (nx _ _ _ _ _ _ _ _ _ (iv_same h).lift hLK)
  · obtain ⟨e2, hp⟩ := px_cut hPX
    generalize List.drop (encR D (N + 124) c z P Q).length rest2 = lines2 at e2 hp
    subst e2
    refine lw_k0 ?_
    refine wp_aload_n d_Lw_law_637 rfl rfl ?_
    refine wp_cv0 (i := 124) (d := 0 + 4) (q := 641) lk_Lw_68 (ro_law (by decide)) d_Lw_law_638 rfl (Nat.le_of_ble_eq_true rfl) ((rdX (j := 0)).trans rfl) rfl (show 164 + 32 * t + 32 ≤ 600000 by omega) (show 3739 + 120 * t + 120 ≤ 7302250 by omega) ?_
    refine ok_sh encC_len (ok_Rf_custom2 (d := 0) htp h160 hcu9 hcu6 (fun h6 => absurd h6 (by omega)) (fun _ n2 A2 q2 ev2 c2 z2 hX hn2 hL => ?_) (fun _ q2 ev2 => by cases ev.symm.trans ev2))
    cases ev.symm.trans ev2
    refine lw_k0 ?_
    rw [← encC_cg (cuY_k (n := n) hX)]
    exact wp_icmp_eq_t d_Lw_law_641 (by decide) rfl (nx _ _ _ _ _ _ _ _ _ (iv_cuY h hcu9 hcu hX hn hL).lift (lk_cuY h hcu9 hcu hX hn hL hLK hp hln hnew))
  · obtain ⟨e2, hp⟩ := px_cut hPX
    generalize List.drop (encR D (N + 124) c z P Q).length rest2 = lines2 at e2 hp
    subst e2
    refine lw_k0 ?_
    refine wp_aload_n d_Lw_law_637 rfl rfl ?_
    refine wp_cv0 (i := 124) (d := 0 + 4) (q := 641) lk_Lw_68 (ro_law (by decide)) d_Lw_law_638 rfl (Nat.le_of_ble_eq_true rfl) ((rdX (j := 0)).trans rfl) rfl (show 164 + 32 * t + 32 ≤ 600000 by omega) (show 3739 + 120 * t + 120 ≤ 7302250 by omega) ?_
    refine ok_sh encC_len (ok_Rf_custom2 (d := 0) htp h160 hcu9 hcu6 (fun h6 => absurd h6 (by omega)) (fun _ n2 A2 q2 ev2 => by cases ev.symm.trans ev2) (fun _ q2 ev2 c2 z2 hX => ?_))
    cases ev.symm.trans ev2
    refine lw_k0 ?_
    rw [← encC_cg (cuZ_k hX)]
    exact wp_icmp_eq_t d_Lw_law_641 (by decide) rfl (nx _ _ _ _ _ _ _ _ _ (iv_cuZ h hcu9 hcu hX).lift (lk_cuZ h hcu9 hcu hX hLK hp))
