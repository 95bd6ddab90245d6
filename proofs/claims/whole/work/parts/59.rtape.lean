def zp (z : T2) (p : Nat) : T2 := tput z 5 (upd (z 5) 0 (nI p))
theorem zp_at (z : T2) (p : Nat) : zp z p 5 0 = nI p := by unfold zp; rw [tput_eq, upd_eq]
theorem zp_zp (z : T2) (p q : Nat) : zp (zp z p) q = zp z q := by
  unfold zp
  rw [tput2, tput_eq, upd_upd]
theorem zp_self {z : T2} {p : Nat} (h : z 5 0 = nI p) : zp z p = z := by
  unfold zp
  rw [upd_id h, tput_id]
theorem bit_0 : ∀ w, w < 11 → ∀ a, a < 64 → ∀ b, b < 32 → nI (32 * a + b) >>> (nI w &&& 31) &&& nI 1 = nI ((32 * a + b) / 2 ^ w % 2) := by decide +kernel
theorem bitW {w m : Nat} (hw : w < 11) (hm : m < 2048) : nI m >>> (nI w &&& 31) &&& nI 1 = nI (m / 2 ^ w % 2) := by
  have := bit_0 w hw (m / 32) (by omega) (m % 32) (by omega)
  rw [show 32 * (m / 32) + m % 32 = m by omega] at this
  exact this
theorem p2_le : ∀ w, w < 11 → 2 ^ w ≤ 1024 := by decide
theorem or_0 : ∀ w, w < 11 → ∀ a, a < 32 → ∀ b, b < 32 → 32 * a + b < 2 ^ w → nI (32 * a + b) ||| nI (2 ^ w) = nI (32 * a + b + 2 ^ w) := by decide +kernel
theorem orW {w m : Nat} (hw : w < 11) (hm : m < 2 ^ w) : nI m ||| nI (2 ^ w) = nI (m + 2 ^ w) := by
  have h := p2_le w hw
  have := or_0 w hw (m / 32) (by omega) (m % 32) (by omega)
  rw [show 32 * (m / 32) + m % 32 = m by omega] at this
  exact this hm
theorem bad_0 : ∀ w, w < 11 → ∀ v, v < 11 → ∀ a, a < 32 → ∀ b, b < 32 → 32 * a + b < 2 ^ w → (32 * a + b + 2 ^ w) / 2 ^ v % 2 = if v = w then 1 else (32 * a + b) / 2 ^ v % 2 := by decide +kernel
theorem addW {w m v : Nat} (hw : w < 11) (hm : m < 2 ^ w) (hv : v < 11) : (m + 2 ^ w) / 2 ^ v % 2 = 1 ↔ (v = w ∨ m / 2 ^ v % 2 = 1) := by
  have h := p2_le w hw
  have := bad_0 w hw v hv (m / 32) (by omega) (m % 32) (by omega)
  rw [show 32 * (m / 32) + m % 32 = m by omega] at this
  rw [this hm]
  by_cases e : v = w
  · rw [if_pos e]; exact ⟨fun _ => Or.inl e, fun _ => rfl⟩
  · rw [if_neg e]; exact ⟨Or.inr, fun g => g.elim (fun q => absurd q e) id⟩
theorem nz_0 : ∀ a, a < 64 → ∀ b, b < 32 → 32 * a + b = 0 ∨ ∃ v, v < 11 ∧ (32 * a + b) / 2 ^ v % 2 = 1 := by decide +kernel
theorem nzW {m : Nat} (hm : m < 2048) (h0 : ¬ m = 0) : ∃ v, v < 11 ∧ m / 2 ^ v % 2 = 1 := by
  have := nz_0 (m / 32) (by omega) (m % 32) (by omega)
  rw [show 32 * (m / 32) + m % 32 = m by omega] at this
  rcases this with e | e
  · exact absurd e h0
  · exact e
theorem shW : ∀ w, w < 11 → nI 1 <<< (nI w &&& 31) = nI (2 ^ w) := by decide +kernel
theorem in_0 : ∀ w, w < 11 → ∀ f, f ≤ w → nI (2 ^ w - 2 ^ f) ||| nI (2 ^ w) = nI (2 ^ (w + 1) - 2 ^ f) := by decide +kernel
theorem szF : ∀ w, w < 11 → sizesF w = nI (szW w) := by decide +kernel
theorem sz6 : ∀ w, w < 11 → szW w ≤ 6 := by decide
theorem ch_0 : ∀ w, w < 11 → ∀ n, n < 6 → n < szW w → wordsF w >>> ((nI (8 * (szW w - 1 - n))).toInt64 &&& 63) &&& 255 = (chW w n).toInt64 := by decide +kernel
theorem lc_0 {a b : Int32} : lg_cmp a.toInt64 b.toInt64 = 0 ↔ b = a := by
  rw [lg_cmp_eq]
  constructor
  · intro h
    have := congrArg Int64.toInt h
    rw [Int32.toInt_toInt64, Int32.toInt_toInt64] at this
    exact (Int32.toInt_inj.mp this).symm
  · intro h; rw [h]
theorem d_Rf_byteHere_0 : decode M_Rf_byteHere.2.1 0 = .ok (.aload_n 0, 1) := by decide +kernel
theorem d_Rf_byteHere_1 : decode M_Rf_byteHere.2.1 1 = .ok (.getfield 196, 3) := by decide +kernel
theorem d_Rf_byteHere_4 : decode M_Rf_byteHere.2.1 4 = .ok (.aload_n 0, 1) := by decide +kernel
theorem d_Rf_byteHere_5 : decode M_Rf_byteHere.2.1 5 = .ok (.getfield 191, 3) := by decide +kernel
theorem d_Rf_byteHere_8 : decode M_Rf_byteHere.2.1 8 = .ok (.if_icmp .ge 15, 3) := by decide +kernel
theorem d_Rf_byteHere_11 : decode M_Rf_byteHere.2.1 11 = .ok (.aload_n 0, 1) := by decide +kernel
theorem d_Rf_byteHere_12 : decode M_Rf_byteHere.2.1 12 = .ok (.getfield 77, 3) := by decide +kernel
theorem d_Rf_byteHere_15 : decode M_Rf_byteHere.2.1 15 = .ok (.aload_n 0, 1) := by decide +kernel
theorem d_Rf_byteHere_16 : decode M_Rf_byteHere.2.1 16 = .ok (.getfield 196, 3) := by decide +kernel
theorem d_Rf_byteHere_19 : decode M_Rf_byteHere.2.1 19 = .ok (.iaload, 1) := by decide +kernel
theorem d_Rf_byteHere_20 : decode M_Rf_byteHere.2.1 20 = .ok (.goto 4, 3) := by decide +kernel
theorem d_Rf_byteHere_23 : decode M_Rf_byteHere.2.1 23 = .ok (.iconst (-1), 1) := by decide +kernel
theorem d_Rf_byteHere_24 : decode M_Rf_byteHere.2.1 24 = .ok (.ireturn, 1) := by decide +kernel
set_option maxHeartbeats 4000000 in
set_option maxRecDepth 100000 in
theorem ok_Rf_byteHere {D : xD} {N : Nat} {l : Launch} {d : Nat} {c z : T2} {P Q : Nat → Int32} {rest : List va_E} {K : Option Value → List va_E → Prop} {tp : Nat} (htp : c 32 8 = nI tp) (h160 : tp ≤ 160) {p : Nat} (hz : z 5 0 = nI p) (hp : p < 1000000) (hK : K (some (.int (byB c tp p))) (encR D N c z P Q ++ rest)) : Ok D N l d M_Rf_byteHere [.ref (N + 0)] (encR D N c z P Q ++ rest) 0 0 K := by
  refine ok_of (L := [(0, _)]) (by decide) (Nat.le_of_ble_eq_true rfl) rfl ?_
  by_cases hlt : p < tp
  · skip
    refine wp_aload_n (q := 1) d_Rf_byteHere_0 rfl rfl ?_
    refine wp_get (q := 4) fl_Rf_196 d_Rf_byteHere_1 rfl rfl rfl ?_
    refine wp_aload_n (q := 5) d_Rf_byteHere_4 rfl rfl ?_
    refine wp_get (q := 8) fl_Rf_191 d_Rf_byteHere_5 rfl rfl rfl ?_
    rw [hz, htp]
    refine wp_icmp_ge_f (q := 11) (tgt := 23) d_Rf_byteHere_8 (by decide) rfl (nI_ge hlt (by omega)) ?_
    refine wp_aload_n (q := 12) d_Rf_byteHere_11 rfl rfl ?_
    refine wp_get (q := 15) fl_Rf_77 d_Rf_byteHere_12 rfl rfl rfl ?_
    refine wp_aload_n (q := 16) d_Rf_byteHere_15 rfl rfl ?_
    refine wp_get (q := 19) fl_Rf_196 d_Rf_byteHere_16 rfl rfl rfl ?_
    rw [hz]
    refine wp_iald (q := 20) d_Rf_byteHere_19 rfl (rfl) (by omega) (by decide) ?_
    refine wp_goto (tgt := 24) d_Rf_byteHere_20 (by decide) ?_
    refine wp_iret d_Rf_byteHere_24 rfl (Nat.le_refl _) (Nat.le_refl _) ?_
    unfold byB at hK; rw [if_pos hlt] at hK; exact hK
  · skip
    refine wp_aload_n (q := 1) d_Rf_byteHere_0 rfl rfl ?_
    refine wp_get (q := 4) fl_Rf_196 d_Rf_byteHere_1 rfl rfl rfl ?_
    refine wp_aload_n (q := 5) d_Rf_byteHere_4 rfl rfl ?_
    refine wp_get (q := 8) fl_Rf_191 d_Rf_byteHere_5 rfl rfl rfl ?_
    rw [hz, htp]
    refine wp_icmp_ge_t (tgt := 23) d_Rf_byteHere_8 (by decide) (nI_le (by omega) (by omega)) ?_
    refine wp_iconst (q := 24) d_Rf_byteHere_23 rfl ic_m1 ?_
    refine wp_iret d_Rf_byteHere_24 rfl (Nat.le_refl _) (Nat.le_refl _) ?_
    unfold byB at hK; rw [if_neg hlt] at hK; exact hK
theorem d_Rf_number_0 : decode M_Rf_number.2.1 0 = .ok (.iconst 0, 1) := by decide +kernel
theorem d_Rf_number_1 : decode M_Rf_number.2.1 1 = .ok (.istore_n 1, 1) := by decide +kernel
theorem d_Rf_number_2 : decode M_Rf_number.2.1 2 = .ok (.iconst 0, 1) := by decide +kernel
theorem d_Rf_number_3 : decode M_Rf_number.2.1 3 = .ok (.istore_n 2, 1) := by decide +kernel
theorem d_Rf_number_4 : decode M_Rf_number.2.1 4 = .ok (.iload_n 2, 1) := by decide +kernel
theorem d_Rf_number_5 : decode M_Rf_number.2.1 5 = .ok (.iconst 4, 1) := by decide +kernel
theorem d_Rf_number_6 : decode M_Rf_number.2.1 6 = .ok (.if_icmp .ge 46, 3) := by decide +kernel
theorem d_Rf_number_9 : decode M_Rf_number.2.1 9 = .ok (.aload_n 0, 1) := by decide +kernel
theorem d_Rf_number_10 : decode M_Rf_number.2.1 10 = .ok (.invokevirtual 199, 3) := by decide +kernel
theorem d_Rf_number_13 : decode M_Rf_number.2.1 13 = .ok (.bipush 48, 2) := by decide +kernel
theorem d_Rf_number_15 : decode M_Rf_number.2.1 15 = .ok (.bipush 57, 2) := by decide +kernel
theorem d_Rf_number_17 : decode M_Rf_number.2.1 17 = .ok (.invokestatic 151, 3) := by decide +kernel
theorem d_Rf_number_20 : decode M_Rf_number.2.1 20 = .ok (.ifCond .eq 32, 3) := by decide +kernel
theorem d_Rf_number_23 : decode M_Rf_number.2.1 23 = .ok (.bipush 10, 2) := by decide +kernel
theorem d_Rf_number_25 : decode M_Rf_number.2.1 25 = .ok (.iload_n 1, 1) := by decide +kernel
theorem d_Rf_number_26 : decode M_Rf_number.2.1 26 = .ok (.imul, 1) := by decide +kernel
theorem d_Rf_number_27 : decode M_Rf_number.2.1 27 = .ok (.aload_n 0, 1) := by decide +kernel
theorem d_Rf_number_28 : decode M_Rf_number.2.1 28 = .ok (.invokevirtual 199, 3) := by decide +kernel
theorem d_Rf_number_31 : decode M_Rf_number.2.1 31 = .ok (.iadd, 1) := by decide +kernel
theorem d_Rf_number_32 : decode M_Rf_number.2.1 32 = .ok (.bipush 48, 2) := by decide +kernel
theorem d_Rf_number_34 : decode M_Rf_number.2.1 34 = .ok (.isub, 1) := by decide +kernel
theorem d_Rf_number_35 : decode M_Rf_number.2.1 35 = .ok (.istore_n 1, 1) := by decide +kernel
theorem d_Rf_number_36 : decode M_Rf_number.2.1 36 = .ok (.iinc 2 1, 3) := by decide +kernel
theorem d_Rf_number_39 : decode M_Rf_number.2.1 39 = .ok (.aload_n 0, 1) := by decide +kernel
theorem d_Rf_number_40 : decode M_Rf_number.2.1 40 = .ok (.dup, 1) := by decide +kernel
theorem d_Rf_number_41 : decode M_Rf_number.2.1 41 = .ok (.getfield 196, 3) := by decide +kernel
theorem d_Rf_number_44 : decode M_Rf_number.2.1 44 = .ok (.iconst 1, 1) := by decide +kernel
theorem d_Rf_number_45 : decode M_Rf_number.2.1 45 = .ok (.iadd, 1) := by decide +kernel
theorem d_Rf_number_46 : decode M_Rf_number.2.1 46 = .ok (.putfield 196, 3) := by decide +kernel
theorem d_Rf_number_49 : decode M_Rf_number.2.1 49 = .ok (.goto (-45), 3) := by decide +kernel
theorem d_Rf_number_52 : decode M_Rf_number.2.1 52 = .ok (.iload_n 2, 1) := by decide +kernel
theorem d_Rf_number_53 : decode M_Rf_number.2.1 53 = .ok (.ifCond .ne 7, 3) := by decide +kernel
theorem d_Rf_number_56 : decode M_Rf_number.2.1 56 = .ok (.iconst (-1), 1) := by decide +kernel
theorem d_Rf_number_57 : decode M_Rf_number.2.1 57 = .ok (.goto 4, 3) := by decide +kernel
theorem d_Rf_number_60 : decode M_Rf_number.2.1 60 = .ok (.iload_n 1, 1) := by decide +kernel
theorem d_Rf_number_61 : decode M_Rf_number.2.1 61 = .ok (.ireturn, 1) := by decide +kernel
set_option maxHeartbeats 4000000 in
set_option maxRecDepth 100000 in
theorem rn_end {D : xD} {N : Nat} {l : Launch} {d : Nat} {c z : T2} {P Q : Nat → Int32} {rest : List va_E} {K : Option Value → List va_E → Prop} {k : Nat} {v : Int32} (hk : k ≤ 4) (hE : K (some (.int (if k = 0 then -1 else v))) (encR D N c z P Q ++ rest)) : Wp D N l (EI M_Rf_number) M_Rf_number (Rm (d + 1) 0 0) (Qm D N K 0 0) 0 0 52 [(2, .int (nI k)), (1, .int v), (0, .ref (N + 0))] [] (encR D N c z P Q ++ rest) := by
  by_cases hk0 : k = 0
  · subst hk0
    refine wp_iload_n (q := 53) d_Rf_number_52 rfl rfl ?_
    refine wp_if_ne_f (q := 56) (tgt := 60) d_Rf_number_53 (by decide) rfl (nI_0) ?_
    refine wp_iconst (q := 57) d_Rf_number_56 rfl ic_m1 ?_
    refine wp_goto (tgt := 61) d_Rf_number_57 (by decide) ?_
    refine wp_iret d_Rf_number_61 rfl (Nat.le_refl _) (Nat.le_refl _) ?_
    rw [if_pos rfl] at hE; exact hE
  · skip
    refine wp_iload_n (q := 53) d_Rf_number_52 rfl rfl ?_
    refine wp_if_ne_t (tgt := 60) d_Rf_number_53 (by decide) (nI_ne0 (by omega) (by omega)) ?_
    refine wp_iload_n (q := 61) d_Rf_number_60 rfl rfl ?_
    refine wp_iret d_Rf_number_61 rfl (Nat.le_refl _) (Nat.le_refl _) ?_
    rw [if_neg hk0] at hE; exact hE
set_option maxHeartbeats 4000000 in
set_option maxRecDepth 100000 in
theorem rn_Rf_number {D : xD} {N : Nat} {l : Launch} {d : Nat} {c : T2} {P Q : Nat → Int32} {rest : List va_E} {K : Option Value → List va_E → Prop} {tp : Nat} (htp : c 32 8 = nI tp) (h160 : tp ≤ 160) : ∀ (f k p : Nat) (v : Int32) (z : T2), k + f = 4 → z 5 0 = nI p → p ≤ tp → K (some (.int (if k + ((nmV (byB c tp) f p v).2 - p) = 0 then -1 else (nmV (byB c tp) f p v).1))) (encR D N c (zp z (nmV (byB c tp) f p v).2) P Q ++ rest) → Wp D N l (EI M_Rf_number) M_Rf_number (Rm (d + 1) 0 0) (Qm D N K 0 0) 0 0 4 [(2, .int (nI k)), (1, .int v), (0, .ref (N + 0))] [] (encR D N c z P Q ++ rest) := by
  intro f
  induction f with
  | zero =>
    intro k p v z hk hz hp hE
    refine wp_iload_n (q := 5) d_Rf_number_4 rfl rfl ?_
    refine wp_iconst (q := 6) d_Rf_number_5 rfl ic_4 ?_
    refine wp_icmp_ge_t (tgt := 52) d_Rf_number_6 (by decide) (nI_le (by omega) (by omega)) ?_
    refine rn_end (by omega) ?_
    rw [nmV, Nat.sub_self, Nat.add_zero, zp_self hz] at hE
    exact hE
  | succ f ih =>
    intro k p v z hk hz hp hE
    refine wp_iload_n (q := 5) d_Rf_number_4 rfl rfl ?_
    refine wp_iconst (q := 6) d_Rf_number_5 rfl ic_4 ?_
    refine wp_icmp_ge_f (q := 9) (tgt := 52) d_Rf_number_6 (by decide) rfl (nI_ge (by omega) (by decide)) ?_
    refine wp_aload_n (q := 10) d_Rf_number_9 rfl rfl ?_
    refine wp_cv0 (q := 13) lk_Rf_199 (ro _ _ _) d_Rf_number_10 rfl (Nat.le_of_ble_eq_true rfl) (rfl) rfl (Nat.zero_le _) (Nat.zero_le _) ?_
    refine ok_Rf_byteHere htp h160 hz (by omega) ?_
    refine wp_bipush (q := 15) d_Rf_number_13 rfl bp_48 ?_
    refine wp_bipush (q := 17) d_Rf_number_15 rfl bp_57 ?_
    refine wp_cs3 (q := 20) lk_Rf_151 (ro _ _ _) d_Rf_number_17 rfl (Nat.le_of_ble_eq_true rfl) (Nat.zero_le _) (Nat.zero_le _) ?_
    refine ok_Rf_in (fun g1 g2 => ?_) (fun g0 => ?_)
    · refine wp_if_eq_f (q := 23) (tgt := 52) d_Rf_number_20 (by decide) rfl (by decide) ?_
      refine wp_bipush (q := 25) d_Rf_number_23 rfl bp_10 ?_
      refine wp_iload_n (q := 26) d_Rf_number_25 rfl rfl ?_
      first | refine wp_imulN (q := 27) d_Rf_number_26 rfl ?_ | refine wp_imul (q := 27) d_Rf_number_26 rfl ?_
      refine wp_aload_n (q := 28) d_Rf_number_27 rfl rfl ?_
      refine wp_cv0 (q := 31) lk_Rf_199 (ro _ _ _) d_Rf_number_28 rfl (Nat.le_of_ble_eq_true rfl) (rfl) rfl (Nat.zero_le _) (Nat.zero_le _) ?_
      refine ok_Rf_byteHere htp h160 hz (by omega) ?_
      refine wp_iadd (q := 32) d_Rf_number_31 rfl ?_
      refine wp_bipush (q := 34) d_Rf_number_32 rfl bp_48 ?_
      refine wp_isub (q := 35) d_Rf_number_34 rfl ?_
      refine wp_istore_n (q := 36) (L2 := [(1, _), (2, _), (0, _)]) d_Rf_number_35 rfl (by decide) rfl ?_
      refine wp_iinc (q := 39) (L2 := [(2, _), (1, _), (0, _)]) d_Rf_number_36 rfl rfl (iinc_1) (by decide) rfl ?_
      refine wp_aload_n (q := 40) d_Rf_number_39 rfl rfl ?_
      refine wp_dup (q := 41) d_Rf_number_40 rfl rfl ?_
      refine wp_get (q := 44) fl_Rf_196 d_Rf_number_41 rfl rfl rfl ?_
      rw [hz]
      refine wp_iconst (q := 45) d_Rf_number_44 rfl ic_1 ?_
      first | refine wp_iaddN (q := 46) d_Rf_number_45 rfl ?_ | refine wp_iadd (q := 46) d_Rf_number_45 rfl ?_
      refine wp_put (q := 49) fl_Rf_196 d_Rf_number_46 rfl rfl (Nat.le_of_ble_eq_true rfl) rfl rfl (fr_at) ?_
      refine wp_goto (tgt := 4) d_Rf_number_49 (by decide) ?_
      rw [nmV_y ⟨g1, g2⟩] at hE
      refine ih (k + 1) (p + 1) _ (zp z (p + 1)) (by omega) (zp_at z (p + 1)) ?_ ?_
      · have : ¬ tp ≤ p := fun q => by rw [byB_out p q] at g1; exact absurd g1 (by decide)
        omega
      · rw [zp_zp]
        have hge := nmV_ge (byB c tp) f (p + 1) (nI 10 * v + byB c tp p - nI 48)
        rw [show k + 1 + ((nmV (byB c tp) f (p + 1) (nI 10 * v + byB c tp p - nI 48)).2 - (p + 1)) = k + ((nmV (byB c tp) f (p + 1) (nI 10 * v + byB c tp p - nI 48)).2 - p) by omega]
        exact hE
    · refine wp_if_eq_t (tgt := 52) d_Rf_number_20 (by decide) (by decide) ?_
      refine rn_end (by omega) ?_
      rw [nmV_n g0, Nat.sub_self, Nat.add_zero, zp_self hz] at hE
      exact hE
set_option maxHeartbeats 4000000 in
set_option maxRecDepth 100000 in
theorem ok_Rf_number {D : xD} {N : Nat} {l : Launch} {d : Nat} {c z : T2} {P Q : Nat → Int32} {rest : List va_E} {K : Option Value → List va_E → Prop} {tp : Nat} (htp : c 32 8 = nI tp) (h160 : tp ≤ 160) {p : Nat} (hz : z 5 0 = nI p) (hp : p ≤ tp) (hK : K (some (.int (spN (byB c tp) p).1)) (encR D N c (zp z (spN (byB c tp) p).2) P Q ++ rest)) : Ok D N l (d + 1) M_Rf_number [.ref (N + 0)] (encR D N c z P Q ++ rest) 0 0 K := by
  refine ok_of (L := [(0, _)]) (by decide) (Nat.le_of_ble_eq_true rfl) rfl ?_
  refine wp_iconst (q := 1) d_Rf_number_0 rfl ic_0 ?_
  refine wp_istore_n (q := 2) (L2 := [(1, _), (0, _)]) d_Rf_number_1 rfl (by decide) rfl ?_
  refine wp_iconst (q := 3) d_Rf_number_2 rfl ic_0 ?_
  refine wp_istore_n (q := 4) (L2 := [(2, _), (1, _), (0, _)]) d_Rf_number_3 rfl (by decide) rfl ?_
  refine rn_Rf_number htp h160 4 0 p (nI 0) z (by decide) hz hp ?_
  unfold spN at hK
  have hge := nmV_ge (byB c tp) 4 p (nI 0)
  by_cases e : (nmV (byB c tp) 4 p (nI 0)).2 = p
  · rw [if_pos e] at hK
    rw [if_pos (by omega), e]
    exact hK
  · rw [if_neg e] at hK
    rw [if_neg (by omega)]
    exact hK
theorem d_Rf_wordOf_0 : decode M_Rf_wordOf.2.1 0 = .ok (.iconst 0, 1) := by decide +kernel
theorem d_Rf_wordOf_1 : decode M_Rf_wordOf.2.1 1 = .ok (.istore_n 3, 1) := by decide +kernel
theorem d_Rf_wordOf_2 : decode M_Rf_wordOf.2.1 2 = .ok (.iload_n 1, 1) := by decide +kernel
theorem d_Rf_wordOf_3 : decode M_Rf_wordOf.2.1 3 = .ok (.istore 4, 2) := by decide +kernel
theorem d_Rf_wordOf_5 : decode M_Rf_wordOf.2.1 5 = .ok (.iload 4, 2) := by decide +kernel
theorem d_Rf_wordOf_7 : decode M_Rf_wordOf.2.1 7 = .ok (.iload_n 2, 1) := by decide +kernel
theorem d_Rf_wordOf_8 : decode M_Rf_wordOf.2.1 8 = .ok (.if_icmp .ge 16, 3) := by decide +kernel
theorem d_Rf_wordOf_11 : decode M_Rf_wordOf.2.1 11 = .ok (.iload_n 3, 1) := by decide +kernel
theorem d_Rf_wordOf_12 : decode M_Rf_wordOf.2.1 12 = .ok (.iconst 1, 1) := by decide +kernel
theorem d_Rf_wordOf_13 : decode M_Rf_wordOf.2.1 13 = .ok (.iload 4, 2) := by decide +kernel
theorem d_Rf_wordOf_15 : decode M_Rf_wordOf.2.1 15 = .ok (.ishl, 1) := by decide +kernel
theorem d_Rf_wordOf_16 : decode M_Rf_wordOf.2.1 16 = .ok (.ior, 1) := by decide +kernel
theorem d_Rf_wordOf_17 : decode M_Rf_wordOf.2.1 17 = .ok (.istore_n 3, 1) := by decide +kernel
theorem d_Rf_wordOf_18 : decode M_Rf_wordOf.2.1 18 = .ok (.iinc 4 1, 3) := by decide +kernel
theorem d_Rf_wordOf_21 : decode M_Rf_wordOf.2.1 21 = .ok (.goto (-16), 3) := by decide +kernel
theorem d_Rf_wordOf_24 : decode M_Rf_wordOf.2.1 24 = .ok (.iconst 0, 1) := by decide +kernel
theorem d_Rf_wordOf_25 : decode M_Rf_wordOf.2.1 25 = .ok (.istore 4, 2) := by decide +kernel
theorem d_Rf_wordOf_27 : decode M_Rf_wordOf.2.1 27 = .ok (.iload_n 3, 1) := by decide +kernel
theorem d_Rf_wordOf_28 : decode M_Rf_wordOf.2.1 28 = .ok (.ifCond .eq 120, 3) := by decide +kernel
theorem d_Rf_wordOf_31 : decode M_Rf_wordOf.2.1 31 = .ok (.iconst 0, 1) := by decide +kernel
theorem d_Rf_wordOf_32 : decode M_Rf_wordOf.2.1 32 = .ok (.istore 5, 2) := by decide +kernel
theorem d_Rf_wordOf_34 : decode M_Rf_wordOf.2.1 34 = .ok (.iload_n 1, 1) := by decide +kernel
theorem d_Rf_wordOf_35 : decode M_Rf_wordOf.2.1 35 = .ok (.istore 6, 2) := by decide +kernel
theorem d_Rf_wordOf_37 : decode M_Rf_wordOf.2.1 37 = .ok (.iload 6, 2) := by decide +kernel
theorem d_Rf_wordOf_39 : decode M_Rf_wordOf.2.1 39 = .ok (.iload_n 2, 1) := by decide +kernel
theorem d_Rf_wordOf_40 : decode M_Rf_wordOf.2.1 40 = .ok (.if_icmp .ge 85, 3) := by decide +kernel
theorem d_Rf_wordOf_43 : decode M_Rf_wordOf.2.1 43 = .ok (.iload_n 3, 1) := by decide +kernel
theorem d_Rf_wordOf_44 : decode M_Rf_wordOf.2.1 44 = .ok (.iload 6, 2) := by decide +kernel
theorem d_Rf_wordOf_46 : decode M_Rf_wordOf.2.1 46 = .ok (.ishr, 1) := by decide +kernel
theorem d_Rf_wordOf_47 : decode M_Rf_wordOf.2.1 47 = .ok (.iconst 1, 1) := by decide +kernel
theorem d_Rf_wordOf_48 : decode M_Rf_wordOf.2.1 48 = .ok (.iand, 1) := by decide +kernel
theorem d_Rf_wordOf_49 : decode M_Rf_wordOf.2.1 49 = .ok (.iconst 1, 1) := by decide +kernel
theorem d_Rf_wordOf_50 : decode M_Rf_wordOf.2.1 50 = .ok (.if_icmp .ne 69, 3) := by decide +kernel
theorem d_Rf_wordOf_53 : decode M_Rf_wordOf.2.1 53 = .ok (.iload 4, 2) := by decide +kernel
theorem d_Rf_wordOf_55 : decode M_Rf_wordOf.2.1 55 = .ok (.aload_n 0, 1) := by decide +kernel
theorem d_Rf_wordOf_56 : decode M_Rf_wordOf.2.1 56 = .ok (.getfield 136, 3) := by decide +kernel
theorem d_Rf_wordOf_59 : decode M_Rf_wordOf.2.1 59 = .ok (.iload 6, 2) := by decide +kernel
theorem d_Rf_wordOf_61 : decode M_Rf_wordOf.2.1 61 = .ok (.iaload, 1) := by decide +kernel
theorem d_Rf_wordOf_62 : decode M_Rf_wordOf.2.1 62 = .ok (.if_icmp .ne 8, 3) := by decide +kernel
theorem d_Rf_wordOf_65 : decode M_Rf_wordOf.2.1 65 = .ok (.iload 6, 2) := by decide +kernel
theorem d_Rf_wordOf_67 : decode M_Rf_wordOf.2.1 67 = .ok (.iload_n 1, 1) := by decide +kernel
theorem d_Rf_wordOf_68 : decode M_Rf_wordOf.2.1 68 = .ok (.isub, 1) := by decide +kernel
theorem d_Rf_wordOf_69 : decode M_Rf_wordOf.2.1 69 = .ok (.ireturn, 1) := by decide +kernel
theorem d_Rf_wordOf_70 : decode M_Rf_wordOf.2.1 70 = .ok (.iload 5, 2) := by decide +kernel
theorem d_Rf_wordOf_72 : decode M_Rf_wordOf.2.1 72 = .ok (.aload_n 0, 1) := by decide +kernel
theorem d_Rf_wordOf_73 : decode M_Rf_wordOf.2.1 73 = .ok (.getfield 132, 3) := by decide +kernel
theorem d_Rf_wordOf_76 : decode M_Rf_wordOf.2.1 76 = .ok (.iload 6, 2) := by decide +kernel
theorem d_Rf_wordOf_78 : decode M_Rf_wordOf.2.1 78 = .ok (.laload, 1) := by decide +kernel
theorem d_Rf_wordOf_79 : decode M_Rf_wordOf.2.1 79 = .ok (.bipush 8, 2) := by decide +kernel
theorem d_Rf_wordOf_81 : decode M_Rf_wordOf.2.1 81 = .ok (.aload_n 0, 1) := by decide +kernel
theorem d_Rf_wordOf_82 : decode M_Rf_wordOf.2.1 82 = .ok (.getfield 136, 3) := by decide +kernel
theorem d_Rf_wordOf_85 : decode M_Rf_wordOf.2.1 85 = .ok (.iload 6, 2) := by decide +kernel
theorem d_Rf_wordOf_87 : decode M_Rf_wordOf.2.1 87 = .ok (.iaload, 1) := by decide +kernel
theorem d_Rf_wordOf_88 : decode M_Rf_wordOf.2.1 88 = .ok (.iconst 1, 1) := by decide +kernel
theorem d_Rf_wordOf_89 : decode M_Rf_wordOf.2.1 89 = .ok (.isub, 1) := by decide +kernel
theorem d_Rf_wordOf_90 : decode M_Rf_wordOf.2.1 90 = .ok (.iload 4, 2) := by decide +kernel
theorem d_Rf_wordOf_92 : decode M_Rf_wordOf.2.1 92 = .ok (.isub, 1) := by decide +kernel
theorem d_Rf_wordOf_93 : decode M_Rf_wordOf.2.1 93 = .ok (.imul, 1) := by decide +kernel
theorem d_Rf_wordOf_94 : decode M_Rf_wordOf.2.1 94 = .ok (.lshr, 1) := by decide +kernel
theorem d_Rf_wordOf_95 : decode M_Rf_wordOf.2.1 95 = .ok (.ldc2_w 194, 3) := by decide +kernel
theorem d_Rf_wordOf_98 : decode M_Rf_wordOf.2.1 98 = .ok (.land, 1) := by decide +kernel
theorem d_Rf_wordOf_99 : decode M_Rf_wordOf.2.1 99 = .ok (.aload_n 0, 1) := by decide +kernel
theorem d_Rf_wordOf_100 : decode M_Rf_wordOf.2.1 100 = .ok (.invokevirtual 199, 3) := by decide +kernel
theorem d_Rf_wordOf_103 : decode M_Rf_wordOf.2.1 103 = .ok (.i2l, 1) := by decide +kernel
theorem d_Rf_wordOf_104 : decode M_Rf_wordOf.2.1 104 = .ok (.lcmp, 1) := by decide +kernel
theorem d_Rf_wordOf_105 : decode M_Rf_wordOf.2.1 105 = .ok (.ifCond .ne 10, 3) := by decide +kernel
theorem d_Rf_wordOf_108 : decode M_Rf_wordOf.2.1 108 = .ok (.iconst 1, 1) := by decide +kernel
theorem d_Rf_wordOf_109 : decode M_Rf_wordOf.2.1 109 = .ok (.iload 6, 2) := by decide +kernel
theorem d_Rf_wordOf_111 : decode M_Rf_wordOf.2.1 111 = .ok (.ishl, 1) := by decide +kernel
theorem d_Rf_wordOf_112 : decode M_Rf_wordOf.2.1 112 = .ok (.goto 4, 3) := by decide +kernel
theorem d_Rf_wordOf_115 : decode M_Rf_wordOf.2.1 115 = .ok (.iconst 0, 1) := by decide +kernel
theorem d_Rf_wordOf_116 : decode M_Rf_wordOf.2.1 116 = .ok (.ior, 1) := by decide +kernel
theorem d_Rf_wordOf_117 : decode M_Rf_wordOf.2.1 117 = .ok (.istore 5, 2) := by decide +kernel
theorem d_Rf_wordOf_119 : decode M_Rf_wordOf.2.1 119 = .ok (.iinc 6 1, 3) := by decide +kernel
theorem d_Rf_wordOf_122 : decode M_Rf_wordOf.2.1 122 = .ok (.goto (-85), 3) := by decide +kernel
theorem d_Rf_wordOf_125 : decode M_Rf_wordOf.2.1 125 = .ok (.iload 5, 2) := by decide +kernel
theorem d_Rf_wordOf_127 : decode M_Rf_wordOf.2.1 127 = .ok (.istore_n 3, 1) := by decide +kernel
theorem d_Rf_wordOf_128 : decode M_Rf_wordOf.2.1 128 = .ok (.iload_n 3, 1) := by decide +kernel
theorem d_Rf_wordOf_129 : decode M_Rf_wordOf.2.1 129 = .ok (.ifCond .eq 16, 3) := by decide +kernel
theorem d_Rf_wordOf_132 : decode M_Rf_wordOf.2.1 132 = .ok (.aload_n 0, 1) := by decide +kernel
theorem d_Rf_wordOf_133 : decode M_Rf_wordOf.2.1 133 = .ok (.dup, 1) := by decide +kernel
theorem d_Rf_wordOf_134 : decode M_Rf_wordOf.2.1 134 = .ok (.getfield 196, 3) := by decide +kernel
theorem d_Rf_wordOf_137 : decode M_Rf_wordOf.2.1 137 = .ok (.iconst 1, 1) := by decide +kernel
theorem d_Rf_wordOf_138 : decode M_Rf_wordOf.2.1 138 = .ok (.iadd, 1) := by decide +kernel
theorem d_Rf_wordOf_139 : decode M_Rf_wordOf.2.1 139 = .ok (.putfield 196, 3) := by decide +kernel
theorem d_Rf_wordOf_142 : decode M_Rf_wordOf.2.1 142 = .ok (.iinc 4 1, 3) := by decide +kernel
theorem d_Rf_wordOf_145 : decode M_Rf_wordOf.2.1 145 = .ok (.goto (-118), 3) := by decide +kernel
theorem d_Rf_wordOf_148 : decode M_Rf_wordOf.2.1 148 = .ok (.iconst (-1), 1) := by decide +kernel
theorem d_Rf_wordOf_149 : decode M_Rf_wordOf.2.1 149 = .ok (.ireturn, 1) := by decide +kernel
def MB (B : FN) (p fi be n m : Nat) : Prop := m < 2048 ∧ ∀ w, w < 11 → (m / 2 ^ w % 2 = 1 ↔ fi ≤ w ∧ w < be ∧ n ≤ cpW B p w)
def LBw (B : FN) (p fi n w m : Nat) : Prop := m < 2 ^ w ∧ ∀ v, v < 11 → (m / 2 ^ v % 2 = 1 ↔ fi ≤ v ∧ v < w ∧ n + 1 ≤ cpW B p v)
theorem LBw.skip {B : FN} {p fi n w m : Nat} (h : LBw B p fi n w m) (hw : w < 11) (hn : ¬ (fi ≤ w ∧ n + 1 ≤ cpW B p w)) : LBw B p fi n (w + 1) m := by
  refine ⟨Nat.lt_of_lt_of_le h.1 (Nat.pow_le_pow_right (by decide) (by omega)), fun v hv => ?_⟩
  rw [h.2 v hv]
  constructor
  · intro g; exact ⟨g.1, by omega, g.2.2⟩
  · intro g
    refine ⟨g.1, ?_, g.2.2⟩
    by_cases e : v = w
    · subst e; exact absurd ⟨g.1, g.2.2⟩ hn
    · omega
theorem LBw.put {B : FN} {p fi n w m : Nat} (h : LBw B p fi n w m) (hw : w < 11) (hf : fi ≤ w) (hn : n + 1 ≤ cpW B p w) : LBw B p fi n (w + 1) (m + 2 ^ w) := by
  refine ⟨by rw [Nat.pow_succ]; have := h.1; omega, fun v hv => ?_⟩
  rw [addW hw h.1 hv, h.2 v hv]
  constructor
  · rintro (e | g)
    · subst e; exact ⟨hf, by omega, hn⟩
    · exact ⟨g.1, by omega, g.2.2⟩
  · intro g
    by_cases e : v = w
    · exact Or.inl e
    · exact Or.inr ⟨g.1, by omega, g.2.2⟩
set_option maxHeartbeats 4000000 in
set_option maxRecDepth 100000 in
theorem wo_in {D : xD} {N : Nat} {l : Launch} {d : Nat} {c z : T2} {P Q : Nat → Int32} {rest : List va_E} {K : Option Value → List va_E → Prop} {tp : Nat} (htp : c 32 8 = nI tp) (h160 : tp ≤ 160) {p fi be : Nat} (hp : p ≤ tp) (hbe : be ≤ 11) (hfb : fi ≤ be) (hF : ∀ w, fi ≤ w → w < be → (cpW (byB c tp) p w) = szW w → K (some (.int (nI (w - fi)))) (encR D N c (zp z (p + szW w)) P Q ++ rest)) {n m : Nat} (hn : n ≤ 6) (hz : z 5 0 = nI (p + n)) (hM : MB (byB c tp) p fi be n m) (hFl : ∀ w, fi ≤ w → w < be → (cpW (byB c tp) p w) = szW w → n ≤ szW w) (hend : ∀ lf, LBw (byB c tp) p fi n be lf → (∀ v, fi ≤ v → v < be → (cpW (byB c tp) p v) = szW v → n + 1 ≤ szW v) → Wp D N l (EI M_Rf_wordOf) M_Rf_wordOf (Rm (d + 1) 0 0) (Qm D N K 0 0) 0 0 125 [(6, .int (nI be)), (5, .int (nI lf)), (4, .int (nI n)), (3, .int (nI m)), (0, .ref (N + 0)), (1, .int (nI fi)), (2, .int (nI be))] [] (encR D N c z P Q ++ rest)) : ∀ w : Nat, w ≤ be → ∀ lf : Nat, fi ≤ w → LBw (byB c tp) p fi n w lf → (∀ v, fi ≤ v → v < w → (cpW (byB c tp) p v) = szW v → n + 1 ≤ szW v) → Wp D N l (EI M_Rf_wordOf) M_Rf_wordOf (Rm (d + 1) 0 0) (Qm D N K 0 0) 0 0 37 [(6, .int (nI w)), (5, .int (nI lf)), (4, .int (nI n)), (3, .int (nI m)), (0, .ref (N + 0)), (1, .int (nI fi)), (2, .int (nI be))] [] (encR D N c z P Q ++ rest) := by
  refine up_loop ?_ ?_
  · intro lf hfw hL hFw
    refine wp_iload (q := 39) d_Rf_wordOf_37 rfl rfl ?_
    refine wp_iload_n (q := 40) d_Rf_wordOf_39 rfl rfl ?_
    refine wp_icmp_ge_t (tgt := 125) d_Rf_wordOf_40 (by decide) (nI_le (Nat.le_refl _) (by omega)) ?_
    exact hend lf hL hFw
  · intro w hw ih lf hfw hL hFw
    have h6 := sz6 w (by omega)
    have h2 := p2_le w (by omega)
    by_cases hbit : m / 2 ^ w % 2 = 1
    · have hcw := ((hM.2 w (by omega)).mp hbit).2.2
      have hle := cpW_le (B := byB c tp) (p := p) w
      by_cases hsz : n = szW w
      · skip
        refine wp_iload (q := 39) d_Rf_wordOf_37 rfl rfl ?_
        refine wp_iload_n (q := 40) d_Rf_wordOf_39 rfl rfl ?_
        refine wp_icmp_ge_f (q := 43) (tgt := 125) d_Rf_wordOf_40 (by decide) rfl (nI_ge hw (by omega)) ?_
        refine wp_iload_n (q := 44) d_Rf_wordOf_43 rfl rfl ?_
        refine wp_iload (q := 46) d_Rf_wordOf_44 rfl rfl ?_
        refine wp_ishr (q := 47) d_Rf_wordOf_46 rfl ?_
        refine wp_iconst (q := 48) d_Rf_wordOf_47 rfl ic_1 ?_
        refine wp_iand (q := 49) d_Rf_wordOf_48 rfl ?_
        rw [bitW (by omega) hM.1]
        refine wp_iconst (q := 50) d_Rf_wordOf_49 rfl ic_1 ?_
        refine wp_icmp_ne_f (q := 53) (tgt := 119) d_Rf_wordOf_50 (by decide) rfl (by rw [hbit]) ?_
        refine wp_iload (q := 55) d_Rf_wordOf_53 rfl rfl ?_
        refine wp_aload_n (q := 56) d_Rf_wordOf_55 rfl rfl ?_
        refine wp_get (q := 59) fl_Rf_136 d_Rf_wordOf_56 rfl rfl rfl ?_
        refine wp_iload (q := 61) d_Rf_wordOf_59 rfl rfl ?_
        refine wp_iald (q := 62) d_Rf_wordOf_61 rfl (rfl) (by omega) (by decide) ?_
        rw [szF w (by omega)]
        refine wp_icmp_ne_f (q := 65) (tgt := 70) d_Rf_wordOf_62 (by decide) rfl (by rw [hsz]) ?_
        refine wp_iload (q := 67) d_Rf_wordOf_65 rfl rfl ?_
        refine wp_iload_n (q := 68) d_Rf_wordOf_67 rfl rfl ?_
        refine wp_isubN (q := 69) d_Rf_wordOf_68 rfl (by omega) ?_
        refine wp_iret d_Rf_wordOf_69 rfl (Nat.le_refl _) (Nat.le_refl _) ?_
        have h := hF w hfw hw (by have := cpW_le (B := byB c tp) (p := p) w; omega)
        rw [← hsz, zp_self hz] at h
        exact h
      · have hcp := cpW_s (B := byB c tp) (p := p) hcw (by omega)
        by_cases hch : byB c tp (p + n) = chW w n
        · skip
          refine wp_iload (q := 39) d_Rf_wordOf_37 rfl rfl ?_
          refine wp_iload_n (q := 40) d_Rf_wordOf_39 rfl rfl ?_
          refine wp_icmp_ge_f (q := 43) (tgt := 125) d_Rf_wordOf_40 (by decide) rfl (nI_ge hw (by omega)) ?_
          refine wp_iload_n (q := 44) d_Rf_wordOf_43 rfl rfl ?_
          refine wp_iload (q := 46) d_Rf_wordOf_44 rfl rfl ?_
          refine wp_ishr (q := 47) d_Rf_wordOf_46 rfl ?_
          refine wp_iconst (q := 48) d_Rf_wordOf_47 rfl ic_1 ?_
          refine wp_iand (q := 49) d_Rf_wordOf_48 rfl ?_
          rw [bitW (by omega) hM.1]
          refine wp_iconst (q := 50) d_Rf_wordOf_49 rfl ic_1 ?_
          refine wp_icmp_ne_f (q := 53) (tgt := 119) d_Rf_wordOf_50 (by decide) rfl (by rw [hbit]) ?_
          refine wp_iload (q := 55) d_Rf_wordOf_53 rfl rfl ?_
          refine wp_aload_n (q := 56) d_Rf_wordOf_55 rfl rfl ?_
          refine wp_get (q := 59) fl_Rf_136 d_Rf_wordOf_56 rfl rfl rfl ?_
          refine wp_iload (q := 61) d_Rf_wordOf_59 rfl rfl ?_
          refine wp_iald (q := 62) d_Rf_wordOf_61 rfl (rfl) (by omega) (by decide) ?_
          rw [szF w (by omega)]
          refine wp_icmp_ne_t (tgt := 70) d_Rf_wordOf_62 (by decide) (fun e => hsz ((nI_eq (by omega) (by omega)).mp e)) ?_
          refine wp_iload (q := 72) d_Rf_wordOf_70 rfl rfl ?_
          refine wp_aload_n (q := 73) d_Rf_wordOf_72 rfl rfl ?_
          refine wp_get (q := 76) fl_Rf_132 d_Rf_wordOf_73 rfl rfl rfl ?_
          refine wp_iload (q := 78) d_Rf_wordOf_76 rfl rfl ?_
          refine wp_lald (q := 79) d_Rf_wordOf_78 rfl (rfl) (by omega) (by decide) ?_
          refine wp_bipush (q := 81) d_Rf_wordOf_79 rfl bp_8 ?_
          refine wp_aload_n (q := 82) d_Rf_wordOf_81 rfl rfl ?_
          refine wp_get (q := 85) fl_Rf_136 d_Rf_wordOf_82 rfl rfl rfl ?_
          refine wp_iload (q := 87) d_Rf_wordOf_85 rfl rfl ?_
          refine wp_iald (q := 88) d_Rf_wordOf_87 rfl (rfl) (by omega) (by decide) ?_
          rw [szF w (by omega)]
          refine wp_iconst (q := 89) d_Rf_wordOf_88 rfl ic_1 ?_
          refine wp_isubN (q := 90) d_Rf_wordOf_89 rfl (by omega) ?_
          refine wp_iload (q := 92) d_Rf_wordOf_90 rfl rfl ?_
          refine wp_isubN (q := 93) d_Rf_wordOf_92 rfl (by omega) ?_
          first | refine wp_imulN (q := 94) d_Rf_wordOf_93 rfl ?_ | refine wp_imul (q := 94) d_Rf_wordOf_93 rfl ?_
          refine wp_lshr (q := 95) d_Rf_wordOf_94 rfl ?_
          refine wp_ldc2 (q := 98) d_Rf_wordOf_95 rfl kl_Rf_194 ?_
          refine wp_land (q := 99) d_Rf_wordOf_98 rfl ?_
          rw [ch_0 w (by omega) n (by omega) (by omega)]
          refine wp_aload_n (q := 100) d_Rf_wordOf_99 rfl rfl ?_
          refine wp_cv0 (q := 103) lk_Rf_199 (ro _ _ _) d_Rf_wordOf_100 rfl (Nat.le_of_ble_eq_true rfl) (rfl) rfl (Nat.zero_le _) (Nat.zero_le _) ?_
          refine ok_Rf_byteHere htp h160 hz (by omega) ?_
          refine wp_i2l (q := 104) d_Rf_wordOf_103 rfl ?_
          refine wp_lcmp (q := 105) d_Rf_wordOf_104 rfl ?_
          refine wp_if_ne_f (q := 108) (tgt := 115) d_Rf_wordOf_105 (by decide) rfl (lc_0.mpr hch) ?_
          refine wp_iconst (q := 109) d_Rf_wordOf_108 rfl ic_1 ?_
          refine wp_iload (q := 111) d_Rf_wordOf_109 rfl rfl ?_
          refine wp_ishl (q := 112) d_Rf_wordOf_111 rfl ?_
          rw [shW w (by omega)]
          refine wp_goto (tgt := 116) d_Rf_wordOf_112 (by decide) ?_
          refine wp_ior (q := 117) d_Rf_wordOf_116 rfl ?_
          rw [orW (by omega) hL.1]
          refine wp_istore (q := 119) (L2 := [(5, _), (6, _), (4, _), (3, _), (0, _), (1, _), (2, _)]) d_Rf_wordOf_117 rfl (by decide) rfl ?_
          refine wp_iinc (q := 122) (L2 := [(6, _), (5, _), (4, _), (3, _), (0, _), (1, _), (2, _)]) d_Rf_wordOf_119 rfl rfl (iinc_1) (by decide) rfl ?_
          refine wp_goto (tgt := 37) d_Rf_wordOf_122 (by decide) ?_
          refine ih _ (by omega) (hL.put (by omega) hfw (hcp.mp hch)) (fun v h1 h2 h3 => ?_)
          by_cases e : v = w
          · rw [e]; omega
          · exact hFw v h1 (by omega) h3
        · skip
          refine wp_iload (q := 39) d_Rf_wordOf_37 rfl rfl ?_
          refine wp_iload_n (q := 40) d_Rf_wordOf_39 rfl rfl ?_
          refine wp_icmp_ge_f (q := 43) (tgt := 125) d_Rf_wordOf_40 (by decide) rfl (nI_ge hw (by omega)) ?_
          refine wp_iload_n (q := 44) d_Rf_wordOf_43 rfl rfl ?_
          refine wp_iload (q := 46) d_Rf_wordOf_44 rfl rfl ?_
          refine wp_ishr (q := 47) d_Rf_wordOf_46 rfl ?_
          refine wp_iconst (q := 48) d_Rf_wordOf_47 rfl ic_1 ?_
          refine wp_iand (q := 49) d_Rf_wordOf_48 rfl ?_
          rw [bitW (by omega) hM.1]
          refine wp_iconst (q := 50) d_Rf_wordOf_49 rfl ic_1 ?_
          refine wp_icmp_ne_f (q := 53) (tgt := 119) d_Rf_wordOf_50 (by decide) rfl (by rw [hbit]) ?_
          refine wp_iload (q := 55) d_Rf_wordOf_53 rfl rfl ?_
          refine wp_aload_n (q := 56) d_Rf_wordOf_55 rfl rfl ?_
          refine wp_get (q := 59) fl_Rf_136 d_Rf_wordOf_56 rfl rfl rfl ?_
          refine wp_iload (q := 61) d_Rf_wordOf_59 rfl rfl ?_
          refine wp_iald (q := 62) d_Rf_wordOf_61 rfl (rfl) (by omega) (by decide) ?_
          rw [szF w (by omega)]
          refine wp_icmp_ne_t (tgt := 70) d_Rf_wordOf_62 (by decide) (fun e => hsz ((nI_eq (by omega) (by omega)).mp e)) ?_
          refine wp_iload (q := 72) d_Rf_wordOf_70 rfl rfl ?_
          refine wp_aload_n (q := 73) d_Rf_wordOf_72 rfl rfl ?_
          refine wp_get (q := 76) fl_Rf_132 d_Rf_wordOf_73 rfl rfl rfl ?_
          refine wp_iload (q := 78) d_Rf_wordOf_76 rfl rfl ?_
          refine wp_lald (q := 79) d_Rf_wordOf_78 rfl (rfl) (by omega) (by decide) ?_
          refine wp_bipush (q := 81) d_Rf_wordOf_79 rfl bp_8 ?_
          refine wp_aload_n (q := 82) d_Rf_wordOf_81 rfl rfl ?_
          refine wp_get (q := 85) fl_Rf_136 d_Rf_wordOf_82 rfl rfl rfl ?_
          refine wp_iload (q := 87) d_Rf_wordOf_85 rfl rfl ?_
          refine wp_iald (q := 88) d_Rf_wordOf_87 rfl (rfl) (by omega) (by decide) ?_
          rw [szF w (by omega)]
          refine wp_iconst (q := 89) d_Rf_wordOf_88 rfl ic_1 ?_
          refine wp_isubN (q := 90) d_Rf_wordOf_89 rfl (by omega) ?_
          refine wp_iload (q := 92) d_Rf_wordOf_90 rfl rfl ?_
          refine wp_isubN (q := 93) d_Rf_wordOf_92 rfl (by omega) ?_
          first | refine wp_imulN (q := 94) d_Rf_wordOf_93 rfl ?_ | refine wp_imul (q := 94) d_Rf_wordOf_93 rfl ?_
          refine wp_lshr (q := 95) d_Rf_wordOf_94 rfl ?_
          refine wp_ldc2 (q := 98) d_Rf_wordOf_95 rfl kl_Rf_194 ?_
          refine wp_land (q := 99) d_Rf_wordOf_98 rfl ?_
          rw [ch_0 w (by omega) n (by omega) (by omega)]
          refine wp_aload_n (q := 100) d_Rf_wordOf_99 rfl rfl ?_
          refine wp_cv0 (q := 103) lk_Rf_199 (ro _ _ _) d_Rf_wordOf_100 rfl (Nat.le_of_ble_eq_true rfl) (rfl) rfl (Nat.zero_le _) (Nat.zero_le _) ?_
          refine ok_Rf_byteHere htp h160 hz (by omega) ?_
          refine wp_i2l (q := 104) d_Rf_wordOf_103 rfl ?_
          refine wp_lcmp (q := 105) d_Rf_wordOf_104 rfl ?_
          refine wp_if_ne_t (tgt := 115) d_Rf_wordOf_105 (by decide) (fun e => hch (lc_0.mp e)) ?_
          refine wp_iconst (q := 116) d_Rf_wordOf_115 rfl ic_0 ?_
          refine wp_ior (q := 117) d_Rf_wordOf_116 rfl ?_
          rw [show nI 0 = (0 : Int32) from nI_0, Int32.or_zero]
          refine wp_istore (q := 119) (L2 := [(5, _), (6, _), (4, _), (3, _), (0, _), (1, _), (2, _)]) d_Rf_wordOf_117 rfl (by decide) rfl ?_
          refine wp_iinc (q := 122) (L2 := [(6, _), (5, _), (4, _), (3, _), (0, _), (1, _), (2, _)]) d_Rf_wordOf_119 rfl rfl (iinc_1) (by decide) rfl ?_
          refine wp_goto (tgt := 37) d_Rf_wordOf_122 (by decide) ?_
          refine ih lf (by omega) (hL.skip (by omega) (fun g => hch (hcp.mpr g.2))) (fun v h1 h2 h3 => ?_)
          by_cases e : v = w
          · rw [e]; omega
          · exact hFw v h1 (by omega) h3
    · have hb0 : m / 2 ^ w % 2 = 0 := by omega
      refine wp_iload (q := 39) d_Rf_wordOf_37 rfl rfl ?_
      refine wp_iload_n (q := 40) d_Rf_wordOf_39 rfl rfl ?_
      refine wp_icmp_ge_f (q := 43) (tgt := 125) d_Rf_wordOf_40 (by decide) rfl (nI_ge hw (by omega)) ?_
      refine wp_iload_n (q := 44) d_Rf_wordOf_43 rfl rfl ?_
      refine wp_iload (q := 46) d_Rf_wordOf_44 rfl rfl ?_
      refine wp_ishr (q := 47) d_Rf_wordOf_46 rfl ?_
      refine wp_iconst (q := 48) d_Rf_wordOf_47 rfl ic_1 ?_
      refine wp_iand (q := 49) d_Rf_wordOf_48 rfl ?_
      rw [bitW (by omega) hM.1]
      refine wp_iconst (q := 50) d_Rf_wordOf_49 rfl ic_1 ?_
      refine wp_icmp_ne_t (tgt := 119) d_Rf_wordOf_50 (by decide) (by rw [hb0]; decide) ?_
      refine wp_iinc (q := 122) (L2 := [(6, _), (5, _), (4, _), (3, _), (0, _), (1, _), (2, _)]) d_Rf_wordOf_119 rfl rfl (iinc_1) (by decide) rfl ?_
      refine wp_goto (tgt := 37) d_Rf_wordOf_122 (by decide) ?_
      refine ih lf (by omega) (hL.skip (by omega) (fun g => hbit ((hM.2 w (by omega)).mpr ⟨hfw, hw, by omega⟩))) (fun v h1 h2 h3 => ?_)
      by_cases e : v = w
      · rw [e] at h1 h3
        exact absurd ((hM.2 w (by omega)).mpr ⟨h1, hw, by have := hFl w h1 hw h3; omega⟩) hbit
      · exact hFw v h1 (by omega) h3
set_option maxHeartbeats 4000000 in
set_option maxRecDepth 100000 in
theorem wo_out {D : xD} {N : Nat} {l : Launch} {d : Nat} {c : T2} {P Q : Nat → Int32} {rest : List va_E} {K : Option Value → List va_E → Prop} {tp : Nat} (htp : c 32 8 = nI tp) (h160 : tp ≤ 160) {p fi be : Nat} (hp : p ≤ tp) (hbe : be ≤ 11) (hfb : fi ≤ be) : ∀ (f n m : Nat) (z : T2), n + f = 7 → z 5 0 = nI (p + n) → MB (byB c tp) p fi be n m → ¬ m = 0 → (∀ w, fi ≤ w → w < be → (cpW (byB c tp) p w) = szW w → n ≤ szW w) → (∀ w, fi ≤ w → w < be → (cpW (byB c tp) p w) = szW w → K (some (.int (nI (w - fi)))) (encR D N c (zp z (p + szW w)) P Q ++ rest)) → (∀ n, (∀ w, fi ≤ w → w < be → (cpW (byB c tp) p w) ≤ n ∧ ¬ (cpW (byB c tp) p w) = szW w) → (∃ w, fi ≤ w ∧ w < be ∧ (cpW (byB c tp) p w) = n) → K (some (.int (-1))) (encR D N c (zp z (p + n)) P Q ++ rest)) → Wp D N l (EI M_Rf_wordOf) M_Rf_wordOf (Rm (d + 1) 0 0) (Qm D N K 0 0) 0 0 27 [(4, .int (nI n)), (3, .int (nI m)), (0, .ref (N + 0)), (1, .int (nI fi)), (2, .int (nI be))] [] (encR D N c z P Q ++ rest) := by
  intro f
  induction f with
  | zero =>
    intro n m z hn hz hM hm0 hFl hF hN
    exfalso
    obtain ⟨w, hw, hb⟩ := nzW hM.1 hm0
    have h1 := ((hM.2 w hw).mp hb).2.2
    have h2 := cpW_le (B := byB c tp) (p := p) w
    have h3 := sz6 w hw
    omega
  | succ f ih =>
    intro n m z hn hz hM hm0 hFl hF hN
    refine wp_iload_n (q := 28) d_Rf_wordOf_27 rfl rfl ?_
    refine wp_if_eq_f (q := 31) (tgt := 148) d_Rf_wordOf_28 (by decide) rfl (nI_ne0 (by omega) (by have := hM.1; omega)) ?_
    refine wp_iconst (q := 32) d_Rf_wordOf_31 rfl ic_0 ?_
    refine wp_istore (q := 34) (L2 := [(5, _), (4, _), (3, _), (0, _), (1, _), (2, _)]) d_Rf_wordOf_32 rfl (by decide) rfl ?_
    refine wp_iload_n (q := 35) d_Rf_wordOf_34 rfl rfl ?_
    refine wp_istore (q := 37) (L2 := [(6, _), (5, _), (4, _), (3, _), (0, _), (1, _), (2, _)]) d_Rf_wordOf_35 rfl (by decide) rfl ?_
    refine wo_in htp h160 hp hbe hfb (z := z) (fun w h1 h2 h3 => ?_) (by omega) hz hM hFl (fun lf hL hFw => ?_) fi hfb 0 (Nat.le_refl _) ⟨Nat.pow_pos (by decide), fun v hv => ?_⟩ (fun v h1 h2 => by omega)
    · exact hF w h1 h2 h3
    · by_cases h0 : lf = 0
      · subst h0
        refine wp_iload (q := 127) d_Rf_wordOf_125 rfl rfl ?_
        refine wp_istore_n (q := 128) (L2 := [(3, _), (6, _), (5, _), (4, _), (0, _), (1, _), (2, _)]) d_Rf_wordOf_127 rfl (by decide) rfl ?_
        refine wp_iload_n (q := 129) d_Rf_wordOf_128 rfl rfl ?_
        refine wp_if_eq_t (tgt := 145) d_Rf_wordOf_129 (by decide) (nI_0) ?_
        refine wp_goto (tgt := 27) d_Rf_wordOf_145 (by decide) ?_
        refine wp_iload_n (q := 28) d_Rf_wordOf_27 rfl rfl ?_
        refine wp_if_eq_t (tgt := 148) d_Rf_wordOf_28 (by decide) (nI_0) ?_
        refine wp_iconst (q := 149) d_Rf_wordOf_148 rfl ic_m1 ?_
        refine wp_iret d_Rf_wordOf_149 rfl (Nat.le_refl _) (Nat.le_refl _) ?_
        have hn0 : ∀ v, fi ≤ v → v < be → cpW (byB c tp) p v ≤ n := fun v h1 h2 => by
          have hx := (hL.2 v (by omega)).mpr
          rw [Nat.zero_div] at hx
          exact Nat.le_of_not_lt (fun g => absurd (hx ⟨h1, h2, g⟩) (by decide))
        have h := hN n (fun v h1 h2 => ⟨hn0 v h1 h2, fun g => by have := hFw v h1 h2 g; have := hn0 v h1 h2; omega⟩) (by
          obtain ⟨w, hw, hb⟩ := nzW hM.1 hm0
          obtain ⟨g1, g2, g3⟩ := (hM.2 w hw).mp hb
          exact ⟨w, g1, g2, Nat.le_antisymm (hn0 w g1 g2) g3⟩)
        rw [zp_self hz] at h
        exact h
      · skip
        refine wp_iload (q := 127) d_Rf_wordOf_125 rfl rfl ?_
        refine wp_istore_n (q := 128) (L2 := [(3, _), (6, _), (5, _), (4, _), (0, _), (1, _), (2, _)]) d_Rf_wordOf_127 rfl (by decide) rfl ?_
        refine wp_iload_n (q := 129) d_Rf_wordOf_128 rfl rfl ?_
        refine wp_if_eq_f (q := 132) (tgt := 145) d_Rf_wordOf_129 (by decide) rfl (nI_ne0 (by omega) (by have := hL.1; have := Nat.pow_le_pow_right (show 0 < 2 by decide) hbe; omega)) ?_
        refine wp_aload_n (q := 133) d_Rf_wordOf_132 rfl rfl ?_
        refine wp_dup (q := 134) d_Rf_wordOf_133 rfl rfl ?_
        refine wp_get (q := 137) fl_Rf_196 d_Rf_wordOf_134 rfl rfl rfl ?_
        rw [hz]
        refine wp_iconst (q := 138) d_Rf_wordOf_137 rfl ic_1 ?_
        first | refine wp_iaddN (q := 139) d_Rf_wordOf_138 rfl ?_ | refine wp_iadd (q := 139) d_Rf_wordOf_138 rfl ?_
        refine wp_put (q := 142) fl_Rf_196 d_Rf_wordOf_139 rfl rfl (Nat.le_of_ble_eq_true rfl) rfl rfl (fr_at) ?_
        refine wp_iinc (q := 145) (L2 := [(4, _), (3, _), (6, _), (5, _), (0, _), (1, _), (2, _)]) d_Rf_wordOf_142 rfl rfl (iinc_1) (by decide) rfl ?_
        refine wp_goto (tgt := 27) d_Rf_wordOf_145 (by decide) ?_
        refine wp_sub [0, 1, 4, 5, 6] rfl ?_
        refine ih (n + 1) lf (zp z (p + n + 1)) (by omega) (by rw [zp_at]; rfl) ⟨?_, fun w hw => ?_⟩ h0 hFw (fun w h1 h2 h3 => ?_) (fun n2 g1 g2 => ?_)
        · have := hL.1; have := Nat.pow_le_pow_right (show 0 < 2 by decide) hbe; omega
        · exact hL.2 w hw
        · rw [zp_zp]; exact hF w h1 h2 h3
        · rw [zp_zp]; exact hN n2 g1 g2
    · rw [Nat.zero_div]
      constructor
      · intro g; exact absurd g (by decide)
      · intro g; omega
set_option maxHeartbeats 4000000 in
set_option maxRecDepth 100000 in
theorem ok_Rf_wordOf_K {D : xD} {N : Nat} {l : Launch} {d : Nat} {c z : T2} {P Q : Nat → Int32} {rest : List va_E} {K : Option Value → List va_E → Prop} {tp : Nat} (htp : c 32 8 = nI tp) (h160 : tp ≤ 160) {p : Nat} (hp : p ≤ tp) (hz : z 5 0 = nI p) (hK : K (some (.int (wdK (byB c tp) p).1)) (encR D N c (zp z (wdK (byB c tp) p).2) P Q ++ rest)) : Ok D N l (d + 1) M_Rf_wordOf [.ref (N + 0), .int (nI 0), .int (nI 3)] (encR D N c z P Q ++ rest) 0 0 K := by
  have lp : ∀ w : Nat, w ≤ 3 → 0 ≤ w → Wp D N l (EI M_Rf_wordOf) M_Rf_wordOf (Rm (d + 1) 0 0) (Qm D N K 0 0) 0 0 5 [(4, .int (nI w)), (3, .int (nI (2 ^ w - 2 ^ 0))), (0, .ref (N + 0)), (1, .int (nI 0)), (2, .int (nI 3))] [] (encR D N c z P Q ++ rest) := by
    refine up_loop ?_ ?_
    · intro hfw
      refine wp_iload (q := 7) d_Rf_wordOf_5 rfl rfl ?_
      refine wp_iload_n (q := 8) d_Rf_wordOf_7 rfl rfl ?_
      refine wp_icmp_ge_t (tgt := 24) d_Rf_wordOf_8 (by decide) (nI_le (Nat.le_refl _) (by decide)) ?_
      refine wp_iconst (q := 25) d_Rf_wordOf_24 rfl ic_0 ?_
      refine wp_istore (q := 27) (L2 := [(4, _), (3, _), (0, _), (1, _), (2, _)]) d_Rf_wordOf_25 rfl (by decide) rfl ?_
      refine wo_out (fi := 0) (be := 3) htp h160 hp (by decide) (by decide) 7 0 7 z (by decide) hz ⟨by decide, fun w hw => ?_⟩ (by decide) (fun w h1 h2 h3 => Nat.zero_le _) (fun w h1 h2 h3 => ?_) (fun n g1 g2 => ?_)
      · have hx : ∀ w, w < 11 → (7 / 2 ^ w % 2 = 1 ↔ 0 ≤ w ∧ w < 3) := by decide
        rw [hx w hw]
        exact ⟨fun g => ⟨g.1, g.2, Nat.zero_le _⟩, fun g => ⟨g.1, g.2.1⟩⟩
      · rw [wdK_y h2 h3] at hK; exact hK
      · rw [wdK_n (fun w hw => g1 w (Nat.zero_le _) hw) (by obtain ⟨w, q1, q2, q3⟩ := g2; exact ⟨w, q2, q3⟩)] at hK; exact hK
    · intro w hw ih hfw
      refine wp_iload (q := 7) d_Rf_wordOf_5 rfl rfl ?_
      refine wp_iload_n (q := 8) d_Rf_wordOf_7 rfl rfl ?_
      refine wp_icmp_ge_f (q := 11) (tgt := 24) d_Rf_wordOf_8 (by decide) rfl (nI_ge hw (by decide)) ?_
      refine wp_iload_n (q := 12) d_Rf_wordOf_11 rfl rfl ?_
      refine wp_iconst (q := 13) d_Rf_wordOf_12 rfl ic_1 ?_
      refine wp_iload (q := 15) d_Rf_wordOf_13 rfl rfl ?_
      refine wp_ishl (q := 16) d_Rf_wordOf_15 rfl ?_
      rw [shW w (by omega)]
      refine wp_ior (q := 17) d_Rf_wordOf_16 rfl ?_
      rw [in_0 w (by omega) 0 (by omega)]
      refine wp_istore_n (q := 18) (L2 := [(3, _), (4, _), (0, _), (1, _), (2, _)]) d_Rf_wordOf_17 rfl (by decide) rfl ?_
      refine wp_iinc (q := 21) (L2 := [(4, _), (3, _), (0, _), (1, _), (2, _)]) d_Rf_wordOf_18 rfl rfl (iinc_1) (by decide) rfl ?_
      refine wp_goto (tgt := 5) d_Rf_wordOf_21 (by decide) ?_
      exact ih (by omega)
  refine ok_of (L := [(0, _), (1, _), (2, _)]) (by decide) (Nat.le_of_ble_eq_true rfl) rfl ?_
  refine wp_iconst (q := 1) d_Rf_wordOf_0 rfl ic_0 ?_
  refine wp_istore_n (q := 2) (L2 := [(3, _), (0, _), (1, _), (2, _)]) d_Rf_wordOf_1 rfl (by decide) rfl ?_
  refine wp_iload_n (q := 3) d_Rf_wordOf_2 rfl rfl ?_
  refine wp_istore (q := 5) (L2 := [(4, _), (3, _), (0, _), (1, _), (2, _)]) d_Rf_wordOf_3 rfl (by decide) rfl ?_
  exact lp 0 (by decide) (by decide)
set_option maxHeartbeats 4000000 in
set_option maxRecDepth 100000 in
theorem ok_Rf_wordOf_F {D : xD} {N : Nat} {l : Launch} {d : Nat} {c z : T2} {P Q : Nat → Int32} {rest : List va_E} {K : Option Value → List va_E → Prop} {tp : Nat} (htp : c 32 8 = nI tp) (h160 : tp ≤ 160) {p : Nat} (hp : p ≤ tp) (hz : z 5 0 = nI p) (hK : K (some (.int (wdF (byB c tp) p).1)) (encR D N c (zp z (wdF (byB c tp) p).2) P Q ++ rest)) : Ok D N l (d + 1) M_Rf_wordOf [.ref (N + 0), .int (nI 3), .int (nI 11)] (encR D N c z P Q ++ rest) 0 0 K := by
  have lp : ∀ w : Nat, w ≤ 11 → 3 ≤ w → Wp D N l (EI M_Rf_wordOf) M_Rf_wordOf (Rm (d + 1) 0 0) (Qm D N K 0 0) 0 0 5 [(4, .int (nI w)), (3, .int (nI (2 ^ w - 2 ^ 3))), (0, .ref (N + 0)), (1, .int (nI 3)), (2, .int (nI 11))] [] (encR D N c z P Q ++ rest) := by
    refine up_loop ?_ ?_
    · intro hfw
      refine wp_iload (q := 7) d_Rf_wordOf_5 rfl rfl ?_
      refine wp_iload_n (q := 8) d_Rf_wordOf_7 rfl rfl ?_
      refine wp_icmp_ge_t (tgt := 24) d_Rf_wordOf_8 (by decide) (nI_le (Nat.le_refl _) (by decide)) ?_
      refine wp_iconst (q := 25) d_Rf_wordOf_24 rfl ic_0 ?_
      refine wp_istore (q := 27) (L2 := [(4, _), (3, _), (0, _), (1, _), (2, _)]) d_Rf_wordOf_25 rfl (by decide) rfl ?_
      refine wo_out (fi := 3) (be := 11) htp h160 hp (by decide) (by decide) 7 0 2040 z (by decide) hz ⟨by decide, fun w hw => ?_⟩ (by decide) (fun w h1 h2 h3 => Nat.zero_le _) (fun w h1 h2 h3 => ?_) (fun n g1 g2 => ?_)
      · have hx : ∀ w, w < 11 → (2040 / 2 ^ w % 2 = 1 ↔ 3 ≤ w ∧ w < 11) := by decide
        rw [hx w hw]
        exact ⟨fun g => ⟨g.1, g.2, Nat.zero_le _⟩, fun g => ⟨g.1, g.2.1⟩⟩
      · rw [wdF_y h1 h2 h3] at hK; exact hK
      · rw [wdF_n g1 g2] at hK; exact hK
    · intro w hw ih hfw
      refine wp_iload (q := 7) d_Rf_wordOf_5 rfl rfl ?_
      refine wp_iload_n (q := 8) d_Rf_wordOf_7 rfl rfl ?_
      refine wp_icmp_ge_f (q := 11) (tgt := 24) d_Rf_wordOf_8 (by decide) rfl (nI_ge hw (by decide)) ?_
      refine wp_iload_n (q := 12) d_Rf_wordOf_11 rfl rfl ?_
      refine wp_iconst (q := 13) d_Rf_wordOf_12 rfl ic_1 ?_
      refine wp_iload (q := 15) d_Rf_wordOf_13 rfl rfl ?_
      refine wp_ishl (q := 16) d_Rf_wordOf_15 rfl ?_
      rw [shW w (by omega)]
      refine wp_ior (q := 17) d_Rf_wordOf_16 rfl ?_
      rw [in_0 w (by omega) 3 (by omega)]
      refine wp_istore_n (q := 18) (L2 := [(3, _), (4, _), (0, _), (1, _), (2, _)]) d_Rf_wordOf_17 rfl (by decide) rfl ?_
      refine wp_iinc (q := 21) (L2 := [(4, _), (3, _), (0, _), (1, _), (2, _)]) d_Rf_wordOf_18 rfl rfl (iinc_1) (by decide) rfl ?_
      refine wp_goto (tgt := 5) d_Rf_wordOf_21 (by decide) ?_
      exact ih (by omega)
  refine ok_of (L := [(0, _), (1, _), (2, _)]) (by decide) (Nat.le_of_ble_eq_true rfl) rfl ?_
  refine wp_iconst (q := 1) d_Rf_wordOf_0 rfl ic_0 ?_
  refine wp_istore_n (q := 2) (L2 := [(3, _), (0, _), (1, _), (2, _)]) d_Rf_wordOf_1 rfl (by decide) rfl ?_
  refine wp_iload_n (q := 3) d_Rf_wordOf_2 rfl rfl ?_
  refine wp_istore (q := 5) (L2 := [(4, _), (3, _), (0, _), (1, _), (2, _)]) d_Rf_wordOf_3 rfl (by decide) rfl ?_
  exact lp 3 (by decide) (by decide)
