theorem lw_end {D : xD} {N : Nat} {l : Launch} {b Ln : Nat} {xs : Nat → Int32} {k n : Nat} {L : List (Nat × Value)} {g : List va_E} (hk : k ≤ 600000) (hn : n ≤ 7302250) : Wp D N l (EW D N b Ln xs) M_Lw_law room_1 lw_Z k n 1709 L [.int 1] g := by
  intro p e s m args below meth c C H locs ls hH hS hL
  obtain ⟨⟨rfl, hX, hXX⟩, rfl⟩ := C.2.2.2.2.2.2.2.2.2
  refine va_forget (fun q hq => hS.2.2 q hq) ?_
  refine W.widen (k := 600000) (n := 7302250) hk hn ?_
  exact lw_ret C.1 C.2.1 C.2.2.2.2.2.2.2.1 C.2.2.2.2.2.2.1 d_Lw_law_1709
theorem sub6 {Ln : Nat} (h : Ln ≤ 3072) : (nI Ln - nI 6).toInt = (Ln : Int) - 6 := by
  have h6 : (nI 6).toInt = 6 := by decide
  rw [Int32.toInt_sub, nI_toInt (by omega), h6, Int.bmod_eq_of_le (by omega) (by omega)]
theorem iinc6 {t : Nat} : nI (6 * t) + Int32.ofInt 6 = nI (6 * (t + 1)) := by
  rw [show Int32.ofInt 6 = nI 6 from rfl, nI_add, show 6 * (t + 1) = 6 * t + 6 by omega]
set_option maxHeartbeats 4000000 in
set_option maxRecDepth 100000 in
theorem law_one {D : xD} {N : Nat} {l : Launch} {b Ln : Nat} {xs : Nat → Int32} {t : Nat} {c x V z : T2} {P Q : FN} {ln df : Nat → Option Nat} {lines : List va_E} (hb : b < N) (hLn : Ln ≤ 3072) (ht : 6 * t ≤ Ln) (h : IE c P Q (2500 * t)) (hLK : LK D N c ln lines) (nx : 6 * t + 6 ≤ Ln → NX D N l b Ln xs t) : LWp D N l b Ln xs t 18 [] (HG D N c x V P Q ln df z lines) := by
  obtain ⟨nb, m, mq, nm, tu, e, nk, tp, h⟩ := h
  refine wp_iload_n d_Lw_law_18 rfl rfl ?_
  refine wp_aload_n d_Lw_law_19 rfl rfl ?_
  refine wp_slen2 (b := b) (fun s a meth q => q.1.2.1) hb d_Lw_law_20 rfl ?_
  refine wp_bipush d_Lw_law_21 rfl bp_6 ?_
  refine wp_isub d_Lw_law_23 rfl ?_
  have e1 := sub6 hLn
  have e2 : (nI (6 * t)).toInt = ((6 * t : Nat) : Int) := nI_toInt (by omega)
  refine wp_icmp_gt (q := 27) (tgt := 1708) d_Lw_law_24 (by decide) rfl (fun _ => ?_) (fun hq => ?_)
  · refine wp_iconst d_Lw_law_1708 rfl rfl ?_
    exact lw_end (by omega) (by omega)
  · rw [Int32.lt_iff_toInt_lt, e1, e2] at hq
    have hc : 6 * t + 6 ≤ Ln := by omega
    have nx := nx hc
    refine wp_aload_n d_Lw_law_27 rfl rfl ?_
    refine wp_iload_n d_Lw_law_28 rfl rfl ?_
    refine wp_sld (b := b) (fun s a meth q => q.1.2.1) hb d_Lw_law_29 rfl (by omega) (by omega) ?_
    refine wp_bipush d_Lw_law_30 rfl rfl ?_
    refine wp_iand d_Lw_law_32 rfl ?_
    generalize xs (6 * t) &&& (Int8.ofInt 63).toInt32 = v
    rcases sw v 42 (by decide) with ⟨k, hk, rfl⟩ | ⟨_, ho⟩
    · rcases (show k = 0 ∨ k = 1 ∨ k = 2 ∨ k = 3 ∨ k = 4 ∨ k = 5 ∨ k = 6 ∨ k = 7 ∨ k = 8 ∨ k = 9 ∨ k = 10 ∨ k = 11 ∨ k = 12 ∨ k = 13 ∨ k = 14 ∨ k = 15 ∨ k = 16 ∨ k = 17 ∨ k = 18 ∨ k = 19 ∨ k = 20 ∨ k = 21 ∨ k = 22 ∨ k = 23 ∨ k = 24 ∨ k = 25 ∨ k = 26 ∨ k = 27 ∨ k = 28 ∨ k = 29 ∨ k = 30 ∨ k = 31 ∨ k = 32 ∨ k = 33 ∨ k = 34 ∨ k = 35 ∨ k = 36 ∨ k = 37 ∨ k = 38 ∨ k = 39 ∨ k = 40 ∨ k = 41 ∨ k = 42 by omega) with rfl | rfl | rfl | rfl | rfl | rfl | rfl | rfl | rfl | rfl | rfl | rfl | rfl | rfl | rfl | rfl | rfl | rfl | rfl | rfl | rfl | rfl | rfl | rfl | rfl | rfl | rfl | rfl | rfl | rfl | rfl | rfl | rfl | rfl | rfl | rfl | rfl | rfl | rfl | rfl | rfl | rfl | rfl
      · refine wp_tabIn (tgt := 220) d_Lw_law_33 (by decide) (by decide) rfl (by decide) ?_
        exact lc_road hb hLn hc h hLK nx
      · refine wp_tabIn (tgt := 263) d_Lw_law_33 (by decide) (by decide) rfl (by decide) ?_
        exact lc_jam hb hLn hc h hLK nx
      · refine wp_tabIn (tgt := 296) d_Lw_law_33 (by decide) (by decide) rfl (by decide) ?_
        exact lc_people hb hLn hc h hLK nx
      · refine wp_tabIn (tgt := 339) d_Lw_law_33 (by decide) (by decide) rfl (by decide) ?_
        exact lc_rain hb hLn hc h hLK nx
      · refine wp_tabIn (tgt := 362) d_Lw_law_33 (by decide) (by decide) rfl (by decide) ?_
        exact lc_bus hb hLn hc h hLK nx
      · refine wp_tabIn (tgt := 415) d_Lw_law_33 (by decide) (by decide) rfl (by decide) ?_
        exact lc_queue hb hLn hc h hLK nx
      · refine wp_tabIn (tgt := 448) d_Lw_law_33 (by decide) (by decide) rfl (by decide) ?_
        exact lc_rest hb hLn hc h hLK nx
      · refine wp_tabIn (tgt := 471) d_Lw_law_33 (by decide) (by decide) rfl (by decide) ?_
        exact lc_jump hb hLn hc h hLK nx
      · refine wp_tabIn (tgt := 504) d_Lw_law_33 (by decide) (by decide) rfl (by decide) ?_
        exact lc_hold hb hLn hc h hLK nx
      · refine wp_tabIn (tgt := 537) d_Lw_law_33 (by decide) (by decide) rfl (by decide) ?_
        exact lc_wants hb hLn hc h hLK nx
      · refine wp_tabIn (tgt := 570) d_Lw_law_33 (by decide) (by decide) rfl (by decide) ?_
        exact lc_feed hb hLn hc h hLK nx
      · refine wp_tabIn (tgt := 633) d_Lw_law_33 (by decide) (by decide) rfl (by decide) ?_
        exact lc_custom hb hLn hc h hLK nx
      · refine wp_tabIn (tgt := 646) d_Lw_law_33 (by decide) (by decide) rfl (by decide) ?_
        exact lc_force hb hLn hc h hLK nx
      · refine wp_tabIn (tgt := 679) d_Lw_law_33 (by decide) (by decide) rfl (by decide) ?_
        exact lc_law hb hLn hc h hLK nx
      · refine wp_tabIn (tgt := 712) d_Lw_law_33 (by decide) (by decide) rfl (by decide) ?_
        exact lc_why hb hLn hc h hLK nx
      · refine wp_tabIn (tgt := 745) d_Lw_law_33 (by decide) (by decide) rfl (by decide) ?_
        exact lc_minutes hb hLn hc h hLK nx
      · refine wp_tabIn (tgt := 768) d_Lw_law_33 (by decide) (by decide) rfl (by decide) ?_
        exact lc_busTold hb hLn hc h hLK nx
      · refine wp_tabIn (tgt := 801) d_Lw_law_33 (by decide) (by decide) rfl (by decide) ?_
        exact lc_waiting hb hLn hc h hLK nx
      · refine wp_tabIn (tgt := 834) d_Lw_law_33 (by decide) (by decide) rfl (by decide) ?_
        exact lc_stageTold hb hLn hc h hLK nx
      · refine wp_tabIn (tgt := 867) d_Lw_law_33 (by decide) (by decide) rfl (by decide) ?_
        exact lc_kindTold hb hLn hc h hLK nx
      · refine wp_tabIn (tgt := 910) d_Lw_law_33 (by decide) (by decide) rfl (by decide) ?_
        exact lc_count hb hLn hc h hLK nx
      · refine wp_tabIn (tgt := 933) d_Lw_law_33 (by decide) (by decide) rfl (by decide) ?_
        exact lc_trip hb hLn hc h hLK nx
      · refine wp_tabIn (tgt := 966) d_Lw_law_33 (by decide) (by decide) rfl (by decide) ?_
        exact lc_foretell hb hLn hc h hLK nx
      · refine wp_tabIn (tgt := 999) d_Lw_law_33 (by decide) (by decide) rfl (by decide) ?_
        exact lc_beside hb hLn hc h hLK nx
      · refine wp_tabIn (tgt := 1043) d_Lw_law_33 (by decide) (by decide) rfl (by decide) ?_
        exact lc_plan hb hLn hc h hLK nx
      · refine wp_tabIn (tgt := 1087) d_Lw_law_33 (by decide) (by decide) rfl (by decide) ?_
        exact lc_planned hb hLn hc h hLK nx
      · refine wp_tabIn (tgt := 1100) d_Lw_law_33 (by decide) (by decide) rfl (by decide) ?_
        exact lc_gain hb hLn hc h hLK nx
      · refine wp_tabIn (tgt := 1143) d_Lw_law_33 (by decide) (by decide) rfl (by decide) ?_
        exact lc_fights hb hLn hc h hLK nx
      · refine wp_tabIn (tgt := 1166) d_Lw_law_33 (by decide) (by decide) rfl (by decide) ?_
        exact lc_part hb hLn hc h hLK nx
      · refine wp_tabIn (tgt := 1219) d_Lw_law_33 (by decide) (by decide) rfl (by decide) ?_
        exact lc_round hb hLn hc h hLK nx
      · refine wp_tabIn (tgt := 1252) d_Lw_law_33 (by decide) (by decide) rfl (by decide) ?_
        exact lc_stops hb hLn hc h hLK nx
      · refine wp_tabIn (tgt := 1275) d_Lw_law_33 (by decide) (by decide) rfl (by decide) ?_
        exact lc_turns hb hLn hc h hLK nx
      · refine wp_tabIn (tgt := 1288) d_Lw_law_33 (by decide) (by decide) rfl (by decide) ?_
        exact lc_saved hb hLn hc h hLK nx
      · refine wp_tabIn (tgt := 1321) d_Lw_law_33 (by decide) (by decide) rfl (by decide) ?_
        exact lc_book hb hLn hc h hLK nx
      · refine wp_tabIn (tgt := 1364) d_Lw_law_33 (by decide) (by decide) rfl (by decide) ?_
        exact lc_mend hb hLn hc h hLK nx
      · refine wp_tabIn (tgt := 1397) d_Lw_law_33 (by decide) (by decide) rfl (by decide) ?_
        exact lc_told hb hLn hc h hLK nx
      · refine wp_tabIn (tgt := 1441) d_Lw_law_33 (by decide) (by decide) rfl (by decide) ?_
        exact lc_image hb hLn hc h hLK nx
      · refine wp_tabIn (tgt := 1454) d_Lw_law_33 (by decide) (by decide) rfl (by decide) ?_
        exact lc_back hb hLn hc h hLK nx
      · refine wp_tabIn (tgt := 1467) d_Lw_law_33 (by decide) (by decide) rfl (by decide) ?_
        exact lc_sheet hb hLn hc h hLK nx
      · refine wp_tabIn (tgt := 1510) d_Lw_law_33 (by decide) (by decide) rfl (by decide) ?_
        exact lc_cell hb hLn hc h hLK nx
      · refine wp_tabIn (tgt := 1553) d_Lw_law_33 (by decide) (by decide) rfl (by decide) ?_
        exact lc_copy hb hLn hc h hLK nx
      · refine wp_tabIn (tgt := 1616) d_Lw_law_33 (by decide) (by decide) rfl (by decide) ?_
        exact lc_buses hb hLn hc h hLK nx
      · refine wp_tabIn (tgt := 1669) d_Lw_law_33 (by decide) (by decide) rfl (by decide) ?_
        exact lc_taken hb hLn hc h hLK nx
    · refine wp_tabOut (tgt := 1702) d_Lw_law_33 ho (by decide) ?_
      exact wp_widen (by omega) (by omega) (nx _ _ _ _ _ _ _ _ _ (iv_same h).lift hLK)
theorem law_loop {D : xD} {N : Nat} {l : Launch} {b Ln : Nat} {xs : Nat → Int32} (hb : b < N) (hLn : Ln ≤ 3072) : ∀ f t, 6 * t ≤ Ln → Ln ≤ 6 * t + f → ∀ (c x V z : T2) (P Q : FN) (ln df : Nat → Option Nat) (lines : List va_E), IE c P Q (2500 * t) → LK D N c ln lines → LWp D N l b Ln xs t 18 [] (HG D N c x V P Q ln df z lines)
  | 0, t, h1, h2, c, x, V, z, P, Q, ln, df, lines, h, hLK => law_one hb hLn h1 h hLK (fun g => absurd g (by omega))
  | f + 1, t, h1, h2, c, x, V, z, P, Q, ln, df, lines, h, hLK => law_one hb hLn h1 h hLK (fun g => by
    intro c2 x2 V2 z2 P2 Q2 ln2 df2 lines2 h3 h4
    refine wp_iinc (L2 := LL N b (6 * (t + 1))) d_Lw_law_1702 rfl rfl iinc6 (by decide) rfl ?_
    refine wp_goto (tgt := 18) d_Lw_law_1705 (by decide) ?_
    exact wp_widen (Nat.le_of_eq (by omega)) (Nat.le_of_eq (by omega)) (law_loop hb hLn f (t + 1) (by omega) (by omega) c2 x2 V2 z2 P2 Q2 ln2 df2 lines2 (by rw [show 2500 * (t + 1) = 2500 * t + 2500 by omega]; exact h3) h4))
theorem vv0 : va_up (va_up z0 2 (fun _ => 0)) 0 (fun _ => 0) = z0 := by
  funext j
  by_cases h0 : j = 0
  · subst h0; rw [va_upeq]; rfl
  · rw [va_upne _ _ h0]
    by_cases h2 : j = 2
    · subst h2; rw [va_upeq]; rfl
    · rw [va_upne _ _ h2]
theorem iv_0 : IE c0 (fun _ => 0) (fun _ => 0) (2500 * 0) := by
  have hn : ∀ b, 0 < b → b < 2100000000 → isN (0 : Int32) b := fun b h1 h2 => isN_of (k := 0) h1 h2
  have hWI : WI (fun _ => 0) 0 0 := ⟨rfl, fun b hb => ⟨hn _ (by decide) (by decide), hn _ (by decide) (by decide), hn _ (by decide) (by decide), fun g => absurd g (show ¬ ((0 : Int32) = nI 3 ∨ (0 : Int32) = nI 4) by decide)⟩, fun b _ _ => rfl⟩
  have hGV : GV c0 (fun _ => 0) (490 + 0 % 10) (0 * 2100) (0 * 500) (0 * 18100) := ⟨fun k _ => hn _ (by decide) (by decide), fun k _ => hn _ (by decide) (by decide), fun b _ => hn _ (Nat.succ_pos _) (by show tn 0 + 1 < _; decide), hn _ (by decide) (by decide), hn _ (by decide) (by decide), hn _ (by decide) (by decide)⟩
  have hSt : St (fun _ => 0) (2500 * 0) := ⟨fun b _ => hn _ (by decide) (by decide), fun s _ => hn _ (by decide) (by decide)⟩
  refine ⟨0, 0, 0, 0, 0, 0, 0, 0, ⟨rfl, by decide, fun b _ => hn _ (by decide) (by decide), fun b _ _ => rfl⟩, ⟨⟨hWI, hGV⟩, by decide, hSt⟩, ⟨⟨hWI, hGV⟩, by decide, hSt⟩, ⟨fun i _ => ⟨hn _ (by decide) (by decide), hn _ (by decide) (by decide)⟩, fun h hh => ?_, fun b _ => hn _ (by decide) (by decide)⟩, ⟨hn _ (by decide) (by decide), fun s hs => Or.inl ?_, fun cu hcu => absurd hcu (Nat.not_lt_zero _)⟩, fun s _ => hn _ (by decide) (by decide), ⟨fun k _ => hn _ (by decide) (by decide), hn _ (by decide) (by decide)⟩, ⟨rfl, by decide, rfl, Or.inl ⟨rfl, rfl⟩, rfl, Or.inl rfl, by decide, fun i _ => Or.inl rfl⟩, ⟨rfl, by decide, fun k _ hk => ?_⟩, ⟨rfl, by decide, fun i hi => absurd hi (Nat.not_lt_zero _)⟩⟩
  · show isN (cfl 24 (nI 10) h) 51
    unfold cfl
    rw [if_pos hh]
    exact isN_of (by decide) (by decide)
  · show cfl 6 (-1) s = -1
    unfold cfl
    rw [if_pos hs]
  · show cfl 30 (-1) k = -1
    unfold cfl
    rw [if_pos hk]
theorem lk_0 {D : xD} {N : Nat} {ln : Nat → Option Nat} {lines : List va_E} : LK D N c0 ln lines := fun R _ cu i hcu _ => absurd hcu (Nat.not_lt_zero _)
set_option maxHeartbeats 4000000 in
set_option maxRecDepth 100000 in
theorem law_all {D : xD} {N : Nat} {l : Launch} {b Ln : Nat} {xs : Nat → Int32} (hb : b < N) (hLn : Ln ≤ 3072) : Wp D N l (EW D N b Ln xs) M_Lw_law room_1 lw_Z 0 0 0 [(0, .ref b)] [] [] := by
  refine wp_new (q := 3) (ci := 11) (Cn := RX11) (T := TX11) (nf := 18) (fs := fF N 0) (ty0 := tyX11) rfl inX11 tyX11_ok (gw 21 (by decide +kernel) (by decide +kernel)) (gw 22 (by decide +kernel) (by decide +kernel)) (gw 1 (by decide +kernel) (by decide +kernel)) d_Lw_law_0 rfl (fun j hj => by rcases (show j = 0 ∨ j = 1 ∨ j = 2 ∨ j = 3 ∨ j = 4 ∨ j = 5 ∨ j = 6 ∨ j = 7 ∨ j = 8 ∨ j = 9 ∨ j = 10 ∨ j = 11 ∨ j = 12 ∨ j = 13 ∨ j = 14 ∨ j = 15 ∨ j = 16 ∨ j = 17 by omega) with rfl | rfl | rfl | rfl | rfl | rfl | rfl | rfl | rfl | rfl | rfl | rfl | rfl | rfl | rfl | rfl | rfl | rfl <;> rfl) (show 0 + 1 ≤ 600000 by decide) (show 0 + 18 ≤ 7302250 by decide) ?_
  refine wp_dup d_Lw_law_3 rfl rfl ?_
  refine wp_callIX (i := 0) (d := 0 + 5) (q := 7) (mc := 123) (ms := 1616) [] (fun s a meth q => q.1.2.2) lk_Lw_9 (ro_law (by decide)) d_Lw_law_4 rfl rfl rfl (Nat.le_of_ble_eq_true rfl) (show 0 + 1 + 123 ≤ 600000 by decide) (show 0 + 18 + 1616 ≤ 7302250 by decide) ?_
  refine ok_FG_init (d := 0) ?_
  show Wp D N l (EW D N b Ln xs) M_Lw_law room_1 lw_Z 124 1634 7 [(0, .ref b)] [.ref (N + 0)] (fL D N 11 (cfl 4 (-1)))
  rw [encC0]
  refine wp_astore_n (L2 := [(1, .ref (N + 0)), (0, .ref b)]) d_Lw_law_7 rfl (by decide) rfl ?_
  refine wp_new (q := 11) (ci := 12) (Cn := RX12) (T := TX12) (nf := 50) (fs := rFl (N + 124) 0) (ty0 := tyX12) rfl inX12 tyX12_ok (gw 944 (by decide +kernel) (by decide +kernel)) (gw 945 (by decide +kernel) (by decide +kernel)) (gw 12 (by decide +kernel) (by decide +kernel)) d_Lw_law_8 rfl (fun j hj => by rcases (show j = 0 ∨ j = 1 ∨ j = 2 ∨ j = 3 ∨ j = 4 ∨ j = 5 ∨ j = 6 ∨ j = 7 ∨ j = 8 ∨ j = 9 ∨ j = 10 ∨ j = 11 ∨ j = 12 ∨ j = 13 ∨ j = 14 ∨ j = 15 ∨ j = 16 ∨ j = 17 ∨ j = 18 ∨ j = 19 ∨ j = 20 ∨ j = 21 ∨ j = 22 ∨ j = 23 ∨ j = 24 ∨ j = 25 ∨ j = 26 ∨ j = 27 ∨ j = 28 ∨ j = 29 ∨ j = 30 ∨ j = 31 ∨ j = 32 ∨ j = 33 ∨ j = 34 ∨ j = 35 ∨ j = 36 ∨ j = 37 ∨ j = 38 ∨ j = 39 ∨ j = 40 ∨ j = 41 ∨ j = 42 ∨ j = 43 ∨ j = 44 ∨ j = 45 ∨ j = 46 ∨ j = 47 ∨ j = 48 ∨ j = 49 by omega) with rfl | rfl | rfl | rfl | rfl | rfl | rfl | rfl | rfl | rfl | rfl | rfl | rfl | rfl | rfl | rfl | rfl | rfl | rfl | rfl | rfl | rfl | rfl | rfl | rfl | rfl | rfl | rfl | rfl | rfl | rfl | rfl | rfl | rfl | rfl | rfl | rfl | rfl | rfl | rfl | rfl | rfl | rfl | rfl | rfl | rfl | rfl | rfl | rfl | rfl <;> rfl) (show 124 + 1 ≤ 600000 by decide) (show 1634 + 50 ≤ 7302250 by decide) ?_
  rw [encC_len]
  refine wp_dup d_Lw_law_11 rfl rfl ?_
  refine wp_callI (i := 124) (d := 0 + 1) (q := 15) (mc := 39) (ms := 2055) [] lk_Lw_12 (ro_law (by decide)) d_Lw_law_12 rfl rfl rfl (Nat.le_of_ble_eq_true rfl) (show 124 + 1 + 39 ≤ 600000 by decide) (show 1634 + 50 + 2055 ≤ 7302250 by decide) ?_
  refine ok_sh (g2 := rS D (N + 124) 0) encC_len (ok_Rf_init (d := 0) ?_)
  show Wp D N l (EW D N b Ln xs) M_Lw_law room_1 lw_Z 164 3739 15 [(1, .ref (N + 0)), (0, .ref b)] [.ref (N + 124)] (encC D N c0 z0 z0 (fun _ => none) (fun _ => none) ++ rS D (N + 124) 39)
  rw [encR0]
  refine wp_astore_n (L2 := [(2, .ref (N + 124)), (1, .ref (N + 0)), (0, .ref b)]) d_Lw_law_15 rfl (by decide) rfl ?_
  refine wp_iconst d_Lw_law_16 rfl rfl ?_
  refine wp_istore_n (L2 := LL N b (6 * 0)) d_Lw_law_17 rfl (by decide) rfl ?_
  have h := law_loop (D := D) (N := N) (l := l) (xs := xs) hb hLn Ln 0 (Nat.zero_le _) (by omega) c0 z0 z0 z0 (fun _ => 0) (fun _ => 0) (fun _ => none) (fun _ => none) [] iv_0 lk_0
  unfold LWp HG at h
  rw [vv0, List.append_nil] at h
  exact h
