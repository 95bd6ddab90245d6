theorem nI_nm1 {j : Nat} (h : j < 1000) : ¬ nI j = -1 := fun e => by
  have := congrArg Int32.toInt e
  rw [nI_toInt (by omega)] at this
  have h2 : (-1 : Int32).toInt = -1 := by decide
  omega
def qc (P : Nat → Int32) (s : Nat) : Nat → Nat
  | 0 => 0
  | b + 1 => qc P s b + if P (72 + b) = nI 1 ∧ P (84 + b) = nI s then 1 else 0
def ff (P : Nat → Int32) (s : Nat) : Nat → Option Nat
  | 0 => none
  | b + 1 => if P (72 + b) = nI 1 ∧ P (84 + b) = nI s then (match ff P s b with
    | none => some b
    | some j => if P (96 + b) < P (96 + j) then some b else some j) else ff P s b
def lf (P : Nat → Int32) (s : Nat) : Nat → Option Nat
  | 0 => none
  | b + 1 => match lf P s b with
    | some j => some j
    | none => if P (72 + b) = nI 2 ∧ P (84 + b) = nI s then some b else none
def am (c : T2) (P : Nat → Int32) (s : Nat) : Nat → Option Nat
  | 0 => none
  | t + 1 => if 0 < c 2 (6 * s + t) then (match am c P s t with
    | none => some t
    | some j => if P (6 * s + j) < P (6 * s + t) then some t else some j) else am c P s t
theorem ff_lt {P : Nat → Int32} {s : Nat} : ∀ {n j : Nat}, ff P s n = some j → j < n ∧ P (72 + j) = nI 1 ∧ P (84 + j) = nI s
  | 0, j, h => by cases h
  | n + 1, j, h => by
    unfold ff at h
    by_cases c : P (72 + n) = nI 1 ∧ P (84 + n) = nI s
    · rw [if_pos c] at h
      cases e : ff P s n with
      | none => rw [e] at h; cases h; exact ⟨by omega, c⟩
      | some i =>
        rw [e] at h
        have hi := ff_lt e
        dsimp only at h
        by_cases c2 : P (96 + n) < P (96 + i)
        · rw [if_pos c2] at h; cases h; exact ⟨by omega, c⟩
        · rw [if_neg c2] at h; cases h; exact ⟨by omega, hi.2⟩
    · rw [if_neg c] at h
      have hi := ff_lt h
      exact ⟨by omega, hi.2⟩
theorem lf_lt {P : Nat → Int32} {s : Nat} : ∀ {n j : Nat}, lf P s n = some j → j < n ∧ P (72 + j) = nI 2 ∧ P (84 + j) = nI s
  | 0, j, h => by cases h
  | n + 1, j, h => by
    unfold lf at h
    cases e : lf P s n with
    | some i =>
      rw [e] at h
      cases h
      have hi := lf_lt e
      exact ⟨by omega, hi.2⟩
    | none =>
      rw [e] at h
      dsimp only at h
      by_cases c : P (72 + n) = nI 2 ∧ P (84 + n) = nI s
      · rw [if_pos c] at h; cases h; exact ⟨by omega, c⟩
      · rw [if_neg c] at h; cases h
theorem lf_stay {P : Nat → Int32} {s b j : Nat} (h : lf P s b = some j) : ∀ n, b ≤ n → lf P s n = some j := by
  intro n hn
  induction n with
  | zero => have : b = 0 := by omega
            subst this; exact h
  | succ n ih =>
    by_cases e : b = n + 1
    · subst e; exact h
    · unfold lf; rw [ih (by omega)]
theorem am_lt {c : T2} {P : Nat → Int32} {s : Nat} : ∀ {n j : Nat}, am c P s n = some j → j < n ∧ 0 < c 2 (6 * s + j)
  | 0, j, h => by cases h
  | n + 1, j, h => by
    unfold am at h
    by_cases cc : 0 < c 2 (6 * s + n)
    · rw [if_pos cc] at h
      cases e : am c P s n with
      | none => rw [e] at h; cases h; exact ⟨by omega, cc⟩
      | some i =>
        rw [e] at h
        have hi := am_lt e
        dsimp only at h
        by_cases c2 : P (6 * s + i) < P (6 * s + n)
        · rw [if_pos c2] at h; cases h; exact ⟨by omega, cc⟩
        · rw [if_neg c2] at h; cases h; exact ⟨by omega, hi.2⟩
    · rw [if_neg cc] at h
      have hi := am_lt h
      exact ⟨by omega, hi.2⟩
theorem at_rest {P : Nat → Int32} {b : Nat} (h : P (72 + b) = nI 0) : ¬ P (72 + b) = nI 1 ∧ ¬ P (72 + b) = nI 2 := by rw [h]; decide
theorem qc_12 {P : Nat → Int32} {s nb : Nat} (hz : ∀ b, nb ≤ b → b < 12 → P (72 + b) = nI 0) : ∀ n, nb ≤ n → n ≤ 12 → qc P s n = qc P s nb := by
  intro n h1 h2
  induction n with
  | zero => rw [show nb = 0 by omega]
  | succ n ih =>
    by_cases e : nb = n + 1
    · rw [e]
    · unfold qc
      rw [ih (by omega) (by omega), if_neg (fun z => (at_rest (hz n (by omega) (by omega))).1 z.1)]
      cases nb <;> rfl
theorem ff_12 {P : Nat → Int32} {s nb : Nat} (hz : ∀ b, nb ≤ b → b < 12 → P (72 + b) = nI 0) : ∀ n, nb ≤ n → n ≤ 12 → ff P s n = ff P s nb := by
  intro n h1 h2
  induction n with
  | zero => rw [show nb = 0 by omega]
  | succ n ih =>
    by_cases e : nb = n + 1
    · rw [e]
    · rw [ff, if_neg (fun z => (at_rest (hz n (by omega) (by omega))).1 z.1)]
      exact ih (by omega) (by omega)
theorem lf_12 {P : Nat → Int32} {s nb : Nat} (hz : ∀ b, nb ≤ b → b < 12 → P (72 + b) = nI 0) : ∀ n, nb ≤ n → n ≤ 12 → lf P s n = lf P s nb := by
  intro n h1 h2
  induction n with
  | zero => rw [show nb = 0 by omega]
  | succ n ih =>
    by_cases e : nb = n + 1
    · rw [e]
    · rw [lf, ih (by omega) (by omega), if_neg (fun z => (at_rest (hz n (by omega) (by omega))).2 z.1)]
      cases lf P s nb <;> rfl
theorem d_Rd_isIn_0 : decode M_Rd_isIn.2.1 0 = .ok (.aload_n 0, 1) := by decide +kernel
theorem d_Rd_isIn_1 : decode M_Rd_isIn.2.1 1 = .ok (.getfield 7, 3) := by decide +kernel
theorem d_Rd_isIn_4 : decode M_Rd_isIn.2.1 4 = .ok (.iload_n 1, 1) := by decide +kernel
theorem d_Rd_isIn_5 : decode M_Rd_isIn.2.1 5 = .ok (.if_icmp .ne 15, 3) := by decide +kernel
theorem d_Rd_isIn_8 : decode M_Rd_isIn.2.1 8 = .ok (.aload_n 0, 1) := by decide +kernel
theorem d_Rd_isIn_9 : decode M_Rd_isIn.2.1 9 = .ok (.getfield 13, 3) := by decide +kernel
theorem d_Rd_isIn_12 : decode M_Rd_isIn.2.1 12 = .ok (.iload_n 2, 1) := by decide +kernel
theorem d_Rd_isIn_13 : decode M_Rd_isIn.2.1 13 = .ok (.if_icmp .ne 7, 3) := by decide +kernel
theorem d_Rd_isIn_16 : decode M_Rd_isIn.2.1 16 = .ok (.iconst 1, 1) := by decide +kernel
theorem d_Rd_isIn_17 : decode M_Rd_isIn.2.1 17 = .ok (.goto 4, 3) := by decide +kernel
theorem d_Rd_isIn_20 : decode M_Rd_isIn.2.1 20 = .ok (.iconst 0, 1) := by decide +kernel
theorem d_Rd_isIn_21 : decode M_Rd_isIn.2.1 21 = .ok (.ireturn, 1) := by decide +kernel
set_option maxHeartbeats 4000000 in
set_option maxRecDepth 100000 in
theorem ok_Rd_isIn {D : xD} {N : Nat} {l : Launch} {d : Nat} {c x V : T2} {P : Nat → Int32} {w : Nat} {ln df : Nat → Option Nat} {rest : List va_E} {K : Option Value → List va_E → Prop} {b : Nat} {s t : Int32} (hw : w < 3) (hb : b < 12) (h1 : P (72 + b) = s ∧ P (84 + b) = t → K (some (.int (nI 1))) (encC D N c x (va_up V w P) ln df ++ rest)) (h0 : ¬ (P (72 + b) = s ∧ P (84 + b) = t) → K (some (.int (nI 0))) (encC D N c x (va_up V w P) ln df ++ rest)) : Ok D N l d M_Rd_isIn [.ref (N + (wA w + (5 + b))), .int s, .int t] (encC D N c x (va_up V w P) ln df ++ rest) 0 0 K := by
  refine ok_of (L := [(0, _), (1, _), (2, _)]) (by decide) (Nat.le_of_ble_eq_true rfl) rfl ?_
  refine wp_aload_n d_Rd_isIn_0 rfl rfl ?_
  refine wp_get fl_Rd_7 d_Rd_isIn_1 rfl (rdR (w := w) hw hb) rfl ?_
  refine wp_iload_n d_Rd_isIn_4 rfl rfl ?_
  refine wp_icmp_ne (tgt := 20) d_Rd_isIn_5 (by decide) rfl (fun hc_5 => ?_) (fun hc_5 => ?_)
  · refine wp_iconst d_Rd_isIn_20 rfl ic_0 ?_
    refine wp_zret d_Rd_isIn_21 rfl (rfl) (Nat.le_refl _) (Nat.le_refl _) ?_
    first | exact h1 ⟨hc_5, hc_13⟩ | exact h0 (fun z => hc_5 z.1) | exact h0 (fun z => hc_13 z.2)
  · refine wp_aload_n d_Rd_isIn_8 rfl rfl ?_
    refine wp_get fl_Rd_13 d_Rd_isIn_9 rfl (rdR (w := w) hw hb) rfl ?_
    refine wp_iload_n d_Rd_isIn_12 rfl rfl ?_
    refine wp_icmp_ne (tgt := 20) d_Rd_isIn_13 (by decide) rfl (fun hc_13 => ?_) (fun hc_13 => ?_)
    · refine wp_iconst d_Rd_isIn_20 rfl ic_0 ?_
      refine wp_zret d_Rd_isIn_21 rfl (rfl) (Nat.le_refl _) (Nat.le_refl _) ?_
      first | exact h1 ⟨hc_5, hc_13⟩ | exact h0 (fun z => hc_5 z.1) | exact h0 (fun z => hc_13 z.2)
    · refine wp_iconst d_Rd_isIn_16 rfl ic_1 ?_
      refine wp_goto (tgt := 21) d_Rd_isIn_17 (by decide) ?_
      refine wp_zret d_Rd_isIn_21 rfl (rfl) (Nat.le_refl _) (Nat.le_refl _) ?_
      first | exact h1 ⟨hc_5, hc_13⟩ | exact h0 (fun z => hc_5 z.1) | exact h0 (fun z => hc_13 z.2)
theorem d_Rf_queueAt_0 : decode M_Rf_queueAt.2.1 0 = .ok (.iconst 0, 1) := by decide +kernel
theorem d_Rf_queueAt_1 : decode M_Rf_queueAt.2.1 1 = .ok (.istore_n 2, 1) := by decide +kernel
theorem d_Rf_queueAt_2 : decode M_Rf_queueAt.2.1 2 = .ok (.iconst 0, 1) := by decide +kernel
theorem d_Rf_queueAt_3 : decode M_Rf_queueAt.2.1 3 = .ok (.istore_n 3, 1) := by decide +kernel
theorem d_Rf_queueAt_4 : decode M_Rf_queueAt.2.1 4 = .ok (.iload_n 3, 1) := by decide +kernel
theorem d_Rf_queueAt_5 : decode M_Rf_queueAt.2.1 5 = .ok (.aload_n 0, 1) := by decide +kernel
theorem d_Rf_queueAt_6 : decode M_Rf_queueAt.2.1 6 = .ok (.getfield 155, 3) := by decide +kernel
theorem d_Rf_queueAt_9 : decode M_Rf_queueAt.2.1 9 = .ok (.if_icmp .ge 43, 3) := by decide +kernel
theorem d_Rf_queueAt_12 : decode M_Rf_queueAt.2.1 12 = .ok (.iload_n 2, 1) := by decide +kernel
theorem d_Rf_queueAt_13 : decode M_Rf_queueAt.2.1 13 = .ok (.aload_n 0, 1) := by decide +kernel
theorem d_Rf_queueAt_14 : decode M_Rf_queueAt.2.1 14 = .ok (.getfield 7, 3) := by decide +kernel
theorem d_Rf_queueAt_17 : decode M_Rf_queueAt.2.1 17 = .ok (.bipush 72, 2) := by decide +kernel
theorem d_Rf_queueAt_19 : decode M_Rf_queueAt.2.1 19 = .ok (.iload_n 3, 1) := by decide +kernel
theorem d_Rf_queueAt_20 : decode M_Rf_queueAt.2.1 20 = .ok (.iadd, 1) := by decide +kernel
theorem d_Rf_queueAt_21 : decode M_Rf_queueAt.2.1 21 = .ok (.iaload, 1) := by decide +kernel
theorem d_Rf_queueAt_22 : decode M_Rf_queueAt.2.1 22 = .ok (.iconst 1, 1) := by decide +kernel
theorem d_Rf_queueAt_23 : decode M_Rf_queueAt.2.1 23 = .ok (.if_icmp .ne 20, 3) := by decide +kernel
theorem d_Rf_queueAt_26 : decode M_Rf_queueAt.2.1 26 = .ok (.aload_n 0, 1) := by decide +kernel
theorem d_Rf_queueAt_27 : decode M_Rf_queueAt.2.1 27 = .ok (.getfield 7, 3) := by decide +kernel
theorem d_Rf_queueAt_30 : decode M_Rf_queueAt.2.1 30 = .ok (.bipush 84, 2) := by decide +kernel
theorem d_Rf_queueAt_32 : decode M_Rf_queueAt.2.1 32 = .ok (.iload_n 3, 1) := by decide +kernel
theorem d_Rf_queueAt_33 : decode M_Rf_queueAt.2.1 33 = .ok (.iadd, 1) := by decide +kernel
theorem d_Rf_queueAt_34 : decode M_Rf_queueAt.2.1 34 = .ok (.iaload, 1) := by decide +kernel
theorem d_Rf_queueAt_35 : decode M_Rf_queueAt.2.1 35 = .ok (.iload_n 1, 1) := by decide +kernel
theorem d_Rf_queueAt_36 : decode M_Rf_queueAt.2.1 36 = .ok (.if_icmp .ne 7, 3) := by decide +kernel
theorem d_Rf_queueAt_39 : decode M_Rf_queueAt.2.1 39 = .ok (.iconst 1, 1) := by decide +kernel
theorem d_Rf_queueAt_40 : decode M_Rf_queueAt.2.1 40 = .ok (.goto 4, 3) := by decide +kernel
theorem d_Rf_queueAt_43 : decode M_Rf_queueAt.2.1 43 = .ok (.iconst 0, 1) := by decide +kernel
theorem d_Rf_queueAt_44 : decode M_Rf_queueAt.2.1 44 = .ok (.iadd, 1) := by decide +kernel
theorem d_Rf_queueAt_45 : decode M_Rf_queueAt.2.1 45 = .ok (.istore_n 2, 1) := by decide +kernel
theorem d_Rf_queueAt_46 : decode M_Rf_queueAt.2.1 46 = .ok (.iinc 3 1, 3) := by decide +kernel
theorem d_Rf_queueAt_49 : decode M_Rf_queueAt.2.1 49 = .ok (.goto (-45), 3) := by decide +kernel
theorem d_Rf_queueAt_52 : decode M_Rf_queueAt.2.1 52 = .ok (.iload_n 2, 1) := by decide +kernel
theorem d_Rf_queueAt_53 : decode M_Rf_queueAt.2.1 53 = .ok (.ireturn, 1) := by decide +kernel
set_option maxHeartbeats 4000000 in
set_option maxRecDepth 100000 in
theorem ok_Rf_queueAt {D : xD} {N : Nat} {l : Launch} {d : Nat} {c z : T2} {P Q : Nat → Int32} {rest : List va_E} {K : Option Value → List va_E → Prop} {nb : Nat} (hnb : c 32 1 = nI nb) (h12 : nb ≤ 12) {s : Nat} (hs : s < 6) (hK : K (some (.int (nI (qc P s nb)))) (encR D N c z P Q ++ rest)) : Ok D N l d M_Rf_queueAt [.ref (N + 0), .int (nI s)] (encR D N c z P Q ++ rest) 0 0 K := by
  have lp : ∀ b : Nat, b ≤ nb → Wp D N l (EI M_Rf_queueAt) M_Rf_queueAt (Rm d 0 0) (Qm D N K 0 0) 0 0 4 [(3, .int (nI b)), (2, .int (nI (qc P s b))), (0, .ref (N + 0)), (1, .int (nI s))] [] (encR D N c z P Q ++ rest) := by
    refine up_loop ?_ ?_
    · skip
      refine wp_iload_n d_Rf_queueAt_4 rfl rfl ?_
      refine wp_aload_n d_Rf_queueAt_5 rfl rfl ?_
      refine wp_get fl_Rf_155 d_Rf_queueAt_6 rfl rfl rfl ?_
      refine wp_icmp_ge_t (tgt := 52) d_Rf_queueAt_9 (by decide) (by rw [hnb]; exact nI_le (Nat.le_refl _) (by omega)) ?_
      refine wp_iload_n d_Rf_queueAt_52 rfl rfl ?_
      refine wp_iret d_Rf_queueAt_53 rfl (Nat.le_refl _) (Nat.le_refl _) ?_
      exact hK
    · intro b hb ih
      refine wp_iload_n d_Rf_queueAt_4 rfl rfl ?_
      refine wp_aload_n d_Rf_queueAt_5 rfl rfl ?_
      refine wp_get fl_Rf_155 d_Rf_queueAt_6 rfl rfl rfl ?_
      refine wp_icmp_ge_f (tgt := 52) d_Rf_queueAt_9 (by decide) rfl (by rw [hnb]; exact nI_ge hb (by omega)) ?_
      refine wp_iload_n d_Rf_queueAt_12 rfl rfl ?_
      refine wp_aload_n d_Rf_queueAt_13 rfl rfl ?_
      refine wp_get fl_Rf_7 d_Rf_queueAt_14 rfl rfl rfl ?_
      refine wp_bipush d_Rf_queueAt_17 rfl bp_72 ?_
      refine wp_iload_n d_Rf_queueAt_19 rfl rfl ?_
      first | refine wp_iaddN d_Rf_queueAt_20 rfl ?_ | refine wp_iadd d_Rf_queueAt_20 rfl ?_
      refine wp_iald d_Rf_queueAt_21 rfl (rfl) (by omega) (by decide) ?_
      refine wp_iconst d_Rf_queueAt_22 rfl ic_1 ?_
      refine wp_icmp_ne (tgt := 43) d_Rf_queueAt_23 (by decide) rfl (fun hc_23 => ?_) (fun hc_23 => ?_)
      · refine wp_iconst d_Rf_queueAt_43 rfl ic_0 ?_
        first | refine wp_iaddN d_Rf_queueAt_44 rfl ?_ | refine wp_iadd d_Rf_queueAt_44 rfl ?_
        refine wp_istore_n (L2 := [(2, _), (3, _), (0, _), (1, _)]) d_Rf_queueAt_45 rfl (by decide) rfl ?_
        refine wp_iinc (L2 := [(3, _), (2, _), (0, _), (1, _)]) d_Rf_queueAt_46 rfl rfl (iinc_1) (by decide) rfl ?_
        refine wp_goto (tgt := 4) d_Rf_queueAt_49 (by decide) ?_
        first | (rw [qc, if_pos ⟨hc_23, hc_36⟩] at ih; exact ih) | (rw [qc, if_neg (fun z => hc_23 z.1)] at ih; exact ih) | (rw [qc, if_neg (fun z => hc_36 z.2)] at ih; exact ih)
      · refine wp_aload_n d_Rf_queueAt_26 rfl rfl ?_
        refine wp_get fl_Rf_7 d_Rf_queueAt_27 rfl rfl rfl ?_
        refine wp_bipush d_Rf_queueAt_30 rfl bp_84 ?_
        refine wp_iload_n d_Rf_queueAt_32 rfl rfl ?_
        first | refine wp_iaddN d_Rf_queueAt_33 rfl ?_ | refine wp_iadd d_Rf_queueAt_33 rfl ?_
        refine wp_iald d_Rf_queueAt_34 rfl (rfl) (by omega) (by decide) ?_
        refine wp_iload_n d_Rf_queueAt_35 rfl rfl ?_
        refine wp_icmp_ne (tgt := 43) d_Rf_queueAt_36 (by decide) rfl (fun hc_36 => ?_) (fun hc_36 => ?_)
        · refine wp_iconst d_Rf_queueAt_43 rfl ic_0 ?_
          first | refine wp_iaddN d_Rf_queueAt_44 rfl ?_ | refine wp_iadd d_Rf_queueAt_44 rfl ?_
          refine wp_istore_n (L2 := [(2, _), (3, _), (0, _), (1, _)]) d_Rf_queueAt_45 rfl (by decide) rfl ?_
          refine wp_iinc (L2 := [(3, _), (2, _), (0, _), (1, _)]) d_Rf_queueAt_46 rfl rfl (iinc_1) (by decide) rfl ?_
          refine wp_goto (tgt := 4) d_Rf_queueAt_49 (by decide) ?_
          first | (rw [qc, if_pos ⟨hc_23, hc_36⟩] at ih; exact ih) | (rw [qc, if_neg (fun z => hc_23 z.1)] at ih; exact ih) | (rw [qc, if_neg (fun z => hc_36 z.2)] at ih; exact ih)
        · refine wp_iconst d_Rf_queueAt_39 rfl ic_1 ?_
          refine wp_goto (tgt := 44) d_Rf_queueAt_40 (by decide) ?_
          first | refine wp_iaddN d_Rf_queueAt_44 rfl ?_ | refine wp_iadd d_Rf_queueAt_44 rfl ?_
          refine wp_istore_n (L2 := [(2, _), (3, _), (0, _), (1, _)]) d_Rf_queueAt_45 rfl (by decide) rfl ?_
          refine wp_iinc (L2 := [(3, _), (2, _), (0, _), (1, _)]) d_Rf_queueAt_46 rfl rfl (iinc_1) (by decide) rfl ?_
          refine wp_goto (tgt := 4) d_Rf_queueAt_49 (by decide) ?_
          first | (rw [qc, if_pos ⟨hc_23, hc_36⟩] at ih; exact ih) | (rw [qc, if_neg (fun z => hc_23 z.1)] at ih; exact ih) | (rw [qc, if_neg (fun z => hc_36 z.2)] at ih; exact ih)
  refine ok_of (L := [(0, _), (1, _)]) (by decide) (Nat.le_of_ble_eq_true rfl) rfl ?_
  refine wp_iconst d_Rf_queueAt_0 rfl ic_0 ?_
  refine wp_istore_n (L2 := [(2, _), (0, _), (1, _)]) d_Rf_queueAt_1 rfl (by decide) rfl ?_
  refine wp_iconst d_Rf_queueAt_2 rfl ic_0 ?_
  refine wp_istore_n (L2 := [(3, _), (2, _), (0, _), (1, _)]) d_Rf_queueAt_3 rfl (by decide) rfl ?_
  exact lp 0 (Nat.zero_le _)
theorem d_Wd_inLine_0 : decode M_Wd_inLine.2.1 0 = .ok (.iconst 0, 1) := by decide +kernel
theorem d_Wd_inLine_1 : decode M_Wd_inLine.2.1 1 = .ok (.istore_n 2, 1) := by decide +kernel
theorem d_Wd_inLine_2 : decode M_Wd_inLine.2.1 2 = .ok (.iconst 0, 1) := by decide +kernel
theorem d_Wd_inLine_3 : decode M_Wd_inLine.2.1 3 = .ok (.istore_n 3, 1) := by decide +kernel
theorem d_Wd_inLine_4 : decode M_Wd_inLine.2.1 4 = .ok (.iload_n 3, 1) := by decide +kernel
theorem d_Wd_inLine_5 : decode M_Wd_inLine.2.1 5 = .ok (.bipush 12, 2) := by decide +kernel
theorem d_Wd_inLine_7 : decode M_Wd_inLine.2.1 7 = .ok (.if_icmp .ge 26, 3) := by decide +kernel
theorem d_Wd_inLine_10 : decode M_Wd_inLine.2.1 10 = .ok (.aload_n 0, 1) := by decide +kernel
theorem d_Wd_inLine_11 : decode M_Wd_inLine.2.1 11 = .ok (.getfield 23, 3) := by decide +kernel
theorem d_Wd_inLine_14 : decode M_Wd_inLine.2.1 14 = .ok (.iload_n 3, 1) := by decide +kernel
theorem d_Wd_inLine_15 : decode M_Wd_inLine.2.1 15 = .ok (.aaload, 1) := by decide +kernel
theorem d_Wd_inLine_16 : decode M_Wd_inLine.2.1 16 = .ok (.iconst 1, 1) := by decide +kernel
theorem d_Wd_inLine_17 : decode M_Wd_inLine.2.1 17 = .ok (.iload_n 1, 1) := by decide +kernel
theorem d_Wd_inLine_18 : decode M_Wd_inLine.2.1 18 = .ok (.invokevirtual 72, 3) := by decide +kernel
theorem d_Wd_inLine_21 : decode M_Wd_inLine.2.1 21 = .ok (.ifCond .eq 6, 3) := by decide +kernel
theorem d_Wd_inLine_24 : decode M_Wd_inLine.2.1 24 = .ok (.iinc 2 1, 3) := by decide +kernel
theorem d_Wd_inLine_27 : decode M_Wd_inLine.2.1 27 = .ok (.iinc 3 1, 3) := by decide +kernel
theorem d_Wd_inLine_30 : decode M_Wd_inLine.2.1 30 = .ok (.goto (-26), 3) := by decide +kernel
theorem d_Wd_inLine_33 : decode M_Wd_inLine.2.1 33 = .ok (.iload_n 2, 1) := by decide +kernel
theorem d_Wd_inLine_34 : decode M_Wd_inLine.2.1 34 = .ok (.ireturn, 1) := by decide +kernel
set_option maxHeartbeats 4000000 in
set_option maxRecDepth 100000 in
theorem ok_Wd_inLine {D : xD} {N : Nat} {l : Launch} {d : Nat} {c x V : T2} {P : Nat → Int32} {w : Nat} {ln df : Nat → Option Nat} {rest : List va_E} {K : Option Value → List va_E → Prop} (hw : w < 3) {s : Nat} (hs : s < 6) (hK : K (some (.int (nI (qc P s 12)))) (encC D N c x (va_up V w P) ln df ++ rest)) : Ok D N l (d + 1) M_Wd_inLine [.ref (N + wA w), .int (nI s)] (encC D N c x (va_up V w P) ln df ++ rest) 0 0 K := by
  have lp : ∀ b : Nat, b ≤ 12 → Wp D N l (EI M_Wd_inLine) M_Wd_inLine (Rm (d + 1) 0 0) (Qm D N K 0 0) 0 0 4 [(3, .int (nI b)), (2, .int (nI (qc P s b))), (0, .ref (N + wA w)), (1, .int (nI s))] [] (encC D N c x (va_up V w P) ln df ++ rest) := by
    refine up_loop ?_ ?_
    · skip
      refine wp_iload_n d_Wd_inLine_4 rfl rfl ?_
      refine wp_bipush d_Wd_inLine_5 rfl bp_12 ?_
      refine wp_icmp_ge_t (tgt := 33) d_Wd_inLine_7 (by decide) (nI_le (Nat.le_refl _) (by decide)) ?_
      refine wp_iload_n d_Wd_inLine_33 rfl rfl ?_
      refine wp_iret d_Wd_inLine_34 rfl (Nat.le_refl _) (Nat.le_refl _) ?_
      exact hK
    · intro b hb ih
      refine wp_iload_n d_Wd_inLine_4 rfl rfl ?_
      refine wp_bipush d_Wd_inLine_5 rfl bp_12 ?_
      refine wp_icmp_ge_f (tgt := 33) d_Wd_inLine_7 (by decide) rfl (nI_ge hb (by decide)) ?_
      refine wp_aload_n d_Wd_inLine_10 rfl rfl ?_
      refine wp_get fl_Wd_23 d_Wd_inLine_11 rfl (rdO (w := w) hw) rfl ?_
      refine wp_iload_n d_Wd_inLine_14 rfl rfl ?_
      refine wp_aldR d_Wd_inLine_15 rfl (rd4 (w := w) hw) (by omega) (by decide) (rowsW_at (by omega)) ?_
      refine wp_iconst d_Wd_inLine_16 rfl ic_1 ?_
      refine wp_iload_n d_Wd_inLine_17 rfl rfl ?_
      refine wp_cv2 lk_Wd_72 (ro _ _ _) d_Wd_inLine_18 rfl (Nat.le_of_ble_eq_true rfl) (rdR (w := w) hw (by omega)) rfl (Nat.zero_le _) (Nat.zero_le _) ?_
      refine ok_Rd_isIn (w := w) hw (by omega) (fun hi => ?_) (fun hi => ?_)
      · refine wp_if_eq_f (tgt := 27) d_Wd_inLine_21 (by decide) rfl (by decide) ?_
        refine wp_iinc (L2 := [(2, _), (3, _), (0, _), (1, _)]) d_Wd_inLine_24 rfl rfl (iinc_1) (by decide) rfl ?_
        refine wp_iinc (L2 := [(3, _), (2, _), (0, _), (1, _)]) d_Wd_inLine_27 rfl rfl (iinc_1) (by decide) rfl ?_
        refine wp_goto (tgt := 4) d_Wd_inLine_30 (by decide) ?_
        first | (rw [qc, if_pos hi] at ih; exact ih) | (rw [qc, if_neg hi] at ih; exact ih)
      · refine wp_if_eq_t (tgt := 27) d_Wd_inLine_21 (by decide) (by decide) ?_
        refine wp_iinc (L2 := [(3, _), (2, _), (0, _), (1, _)]) d_Wd_inLine_27 rfl rfl (iinc_1) (by decide) rfl ?_
        refine wp_goto (tgt := 4) d_Wd_inLine_30 (by decide) ?_
        first | (rw [qc, if_pos hi] at ih; exact ih) | (rw [qc, if_neg hi] at ih; exact ih)
  refine ok_of (L := [(0, _), (1, _)]) (by decide) (Nat.le_of_ble_eq_true rfl) rfl ?_
  refine wp_iconst d_Wd_inLine_0 rfl ic_0 ?_
  refine wp_istore_n (L2 := [(2, _), (0, _), (1, _)]) d_Wd_inLine_1 rfl (by decide) rfl ?_
  refine wp_iconst d_Wd_inLine_2 rfl ic_0 ?_
  refine wp_istore_n (L2 := [(3, _), (2, _), (0, _), (1, _)]) d_Wd_inLine_3 rfl (by decide) rfl ?_
  exact lp 0 (Nat.zero_le _)
theorem d_Rf_loadsAt_0 : decode M_Rf_loadsAt.2.1 0 = .ok (.iconst 0, 1) := by decide +kernel
theorem d_Rf_loadsAt_1 : decode M_Rf_loadsAt.2.1 1 = .ok (.istore_n 2, 1) := by decide +kernel
theorem d_Rf_loadsAt_2 : decode M_Rf_loadsAt.2.1 2 = .ok (.iload_n 2, 1) := by decide +kernel
theorem d_Rf_loadsAt_3 : decode M_Rf_loadsAt.2.1 3 = .ok (.aload_n 0, 1) := by decide +kernel
theorem d_Rf_loadsAt_4 : decode M_Rf_loadsAt.2.1 4 = .ok (.getfield 155, 3) := by decide +kernel
theorem d_Rf_loadsAt_7 : decode M_Rf_loadsAt.2.1 7 = .ok (.if_icmp .ge 37, 3) := by decide +kernel
theorem d_Rf_loadsAt_10 : decode M_Rf_loadsAt.2.1 10 = .ok (.aload_n 0, 1) := by decide +kernel
theorem d_Rf_loadsAt_11 : decode M_Rf_loadsAt.2.1 11 = .ok (.getfield 7, 3) := by decide +kernel
theorem d_Rf_loadsAt_14 : decode M_Rf_loadsAt.2.1 14 = .ok (.bipush 72, 2) := by decide +kernel
theorem d_Rf_loadsAt_16 : decode M_Rf_loadsAt.2.1 16 = .ok (.iload_n 2, 1) := by decide +kernel
theorem d_Rf_loadsAt_17 : decode M_Rf_loadsAt.2.1 17 = .ok (.iadd, 1) := by decide +kernel
theorem d_Rf_loadsAt_18 : decode M_Rf_loadsAt.2.1 18 = .ok (.iaload, 1) := by decide +kernel
theorem d_Rf_loadsAt_19 : decode M_Rf_loadsAt.2.1 19 = .ok (.iconst 2, 1) := by decide +kernel
theorem d_Rf_loadsAt_20 : decode M_Rf_loadsAt.2.1 20 = .ok (.if_icmp .ne 18, 3) := by decide +kernel
theorem d_Rf_loadsAt_23 : decode M_Rf_loadsAt.2.1 23 = .ok (.aload_n 0, 1) := by decide +kernel
theorem d_Rf_loadsAt_24 : decode M_Rf_loadsAt.2.1 24 = .ok (.getfield 7, 3) := by decide +kernel
theorem d_Rf_loadsAt_27 : decode M_Rf_loadsAt.2.1 27 = .ok (.bipush 84, 2) := by decide +kernel
theorem d_Rf_loadsAt_29 : decode M_Rf_loadsAt.2.1 29 = .ok (.iload_n 2, 1) := by decide +kernel
theorem d_Rf_loadsAt_30 : decode M_Rf_loadsAt.2.1 30 = .ok (.iadd, 1) := by decide +kernel
theorem d_Rf_loadsAt_31 : decode M_Rf_loadsAt.2.1 31 = .ok (.iaload, 1) := by decide +kernel
theorem d_Rf_loadsAt_32 : decode M_Rf_loadsAt.2.1 32 = .ok (.iload_n 1, 1) := by decide +kernel
theorem d_Rf_loadsAt_33 : decode M_Rf_loadsAt.2.1 33 = .ok (.if_icmp .ne 5, 3) := by decide +kernel
theorem d_Rf_loadsAt_36 : decode M_Rf_loadsAt.2.1 36 = .ok (.iload_n 2, 1) := by decide +kernel
theorem d_Rf_loadsAt_37 : decode M_Rf_loadsAt.2.1 37 = .ok (.ireturn, 1) := by decide +kernel
theorem d_Rf_loadsAt_38 : decode M_Rf_loadsAt.2.1 38 = .ok (.iinc 2 1, 3) := by decide +kernel
theorem d_Rf_loadsAt_41 : decode M_Rf_loadsAt.2.1 41 = .ok (.goto (-39), 3) := by decide +kernel
theorem d_Rf_loadsAt_44 : decode M_Rf_loadsAt.2.1 44 = .ok (.iconst (-1), 1) := by decide +kernel
theorem d_Rf_loadsAt_45 : decode M_Rf_loadsAt.2.1 45 = .ok (.ireturn, 1) := by decide +kernel
set_option maxHeartbeats 4000000 in
set_option maxRecDepth 100000 in
theorem ok_Rf_loadsAt {D : xD} {N : Nat} {l : Launch} {d : Nat} {c z : T2} {P Q : Nat → Int32} {rest : List va_E} {K : Option Value → List va_E → Prop} {nb : Nat} (hnb : c 32 1 = nI nb) (h12 : nb ≤ 12) {s : Nat} (hs : s < 6) (hK : K (some (.int (ov (lf P s nb)))) (encR D N c z P Q ++ rest)) : Ok D N l d M_Rf_loadsAt [.ref (N + 0), .int (nI s)] (encR D N c z P Q ++ rest) 0 0 K := by
  have lp : ∀ b : Nat, b ≤ nb → lf P s b = none → Wp D N l (EI M_Rf_loadsAt) M_Rf_loadsAt (Rm d 0 0) (Qm D N K 0 0) 0 0 2 [(2, .int (nI b)), (0, .ref (N + 0)), (1, .int (nI s))] [] (encR D N c z P Q ++ rest) := by
    refine up_loop ?_ ?_
    · intro hno; skip
      refine wp_iload_n d_Rf_loadsAt_2 rfl rfl ?_
      refine wp_aload_n d_Rf_loadsAt_3 rfl rfl ?_
      refine wp_get fl_Rf_155 d_Rf_loadsAt_4 rfl rfl rfl ?_
      refine wp_icmp_ge_t (tgt := 44) d_Rf_loadsAt_7 (by decide) (by rw [hnb]; exact nI_le (Nat.le_refl _) (by omega)) ?_
      refine wp_iconst d_Rf_loadsAt_44 rfl ic_m1 ?_
      refine wp_iret d_Rf_loadsAt_45 rfl (Nat.le_refl _) (Nat.le_refl _) ?_
      rw [hno] at hK; exact hK
    · intro b hb ih hno
      refine wp_iload_n d_Rf_loadsAt_2 rfl rfl ?_
      refine wp_aload_n d_Rf_loadsAt_3 rfl rfl ?_
      refine wp_get fl_Rf_155 d_Rf_loadsAt_4 rfl rfl rfl ?_
      refine wp_icmp_ge_f (tgt := 44) d_Rf_loadsAt_7 (by decide) rfl (by rw [hnb]; exact nI_ge hb (by omega)) ?_
      refine wp_aload_n d_Rf_loadsAt_10 rfl rfl ?_
      refine wp_get fl_Rf_7 d_Rf_loadsAt_11 rfl rfl rfl ?_
      refine wp_bipush d_Rf_loadsAt_14 rfl bp_72 ?_
      refine wp_iload_n d_Rf_loadsAt_16 rfl rfl ?_
      first | refine wp_iaddN d_Rf_loadsAt_17 rfl ?_ | refine wp_iadd d_Rf_loadsAt_17 rfl ?_
      refine wp_iald d_Rf_loadsAt_18 rfl (rfl) (by omega) (by decide) ?_
      refine wp_iconst d_Rf_loadsAt_19 rfl ic_2 ?_
      refine wp_icmp_ne (tgt := 38) d_Rf_loadsAt_20 (by decide) rfl (fun hc_20 => ?_) (fun hc_20 => ?_)
      · refine wp_iinc (L2 := [(2, _), (0, _), (1, _)]) d_Rf_loadsAt_38 rfl rfl (iinc_1) (by decide) rfl ?_
        refine wp_goto (tgt := 2) d_Rf_loadsAt_41 (by decide) ?_
        first | exact ih (by rw [lf, hno, if_neg (fun z => hc_20 z.1)]) | exact ih (by rw [lf, hno, if_neg (fun z => hc_33 z.2)])
      · refine wp_aload_n d_Rf_loadsAt_23 rfl rfl ?_
        refine wp_get fl_Rf_7 d_Rf_loadsAt_24 rfl rfl rfl ?_
        refine wp_bipush d_Rf_loadsAt_27 rfl bp_84 ?_
        refine wp_iload_n d_Rf_loadsAt_29 rfl rfl ?_
        first | refine wp_iaddN d_Rf_loadsAt_30 rfl ?_ | refine wp_iadd d_Rf_loadsAt_30 rfl ?_
        refine wp_iald d_Rf_loadsAt_31 rfl (rfl) (by omega) (by decide) ?_
        refine wp_iload_n d_Rf_loadsAt_32 rfl rfl ?_
        refine wp_icmp_ne (tgt := 38) d_Rf_loadsAt_33 (by decide) rfl (fun hc_33 => ?_) (fun hc_33 => ?_)
        · refine wp_iinc (L2 := [(2, _), (0, _), (1, _)]) d_Rf_loadsAt_38 rfl rfl (iinc_1) (by decide) rfl ?_
          refine wp_goto (tgt := 2) d_Rf_loadsAt_41 (by decide) ?_
          first | exact ih (by rw [lf, hno, if_neg (fun z => hc_20 z.1)]) | exact ih (by rw [lf, hno, if_neg (fun z => hc_33 z.2)])
        · refine wp_iload_n d_Rf_loadsAt_36 rfl rfl ?_
          refine wp_iret d_Rf_loadsAt_37 rfl (Nat.le_refl _) (Nat.le_refl _) ?_
          rw [lf_stay (b := b + 1) (j := b) (by rw [lf, hno, if_pos ⟨hc_20, hc_33⟩]) nb (by omega)] at hK; exact hK
  refine ok_of (L := [(0, _), (1, _)]) (by decide) (Nat.le_of_ble_eq_true rfl) rfl ?_
  refine wp_iconst d_Rf_loadsAt_0 rfl ic_0 ?_
  refine wp_istore_n (L2 := [(2, _), (0, _), (1, _)]) d_Rf_loadsAt_1 rfl (by decide) rfl ?_
  exact lp 0 (Nat.zero_le _) rfl
theorem d_Wd_loadingAt_0 : decode M_Wd_loadingAt.2.1 0 = .ok (.iconst 0, 1) := by decide +kernel
theorem d_Wd_loadingAt_1 : decode M_Wd_loadingAt.2.1 1 = .ok (.istore_n 2, 1) := by decide +kernel
theorem d_Wd_loadingAt_2 : decode M_Wd_loadingAt.2.1 2 = .ok (.iload_n 2, 1) := by decide +kernel
theorem d_Wd_loadingAt_3 : decode M_Wd_loadingAt.2.1 3 = .ok (.bipush 12, 2) := by decide +kernel
theorem d_Wd_loadingAt_5 : decode M_Wd_loadingAt.2.1 5 = .ok (.if_icmp .ge 25, 3) := by decide +kernel
theorem d_Wd_loadingAt_8 : decode M_Wd_loadingAt.2.1 8 = .ok (.aload_n 0, 1) := by decide +kernel
theorem d_Wd_loadingAt_9 : decode M_Wd_loadingAt.2.1 9 = .ok (.getfield 23, 3) := by decide +kernel
theorem d_Wd_loadingAt_12 : decode M_Wd_loadingAt.2.1 12 = .ok (.iload_n 2, 1) := by decide +kernel
theorem d_Wd_loadingAt_13 : decode M_Wd_loadingAt.2.1 13 = .ok (.aaload, 1) := by decide +kernel
theorem d_Wd_loadingAt_14 : decode M_Wd_loadingAt.2.1 14 = .ok (.iconst 2, 1) := by decide +kernel
theorem d_Wd_loadingAt_15 : decode M_Wd_loadingAt.2.1 15 = .ok (.iload_n 1, 1) := by decide +kernel
theorem d_Wd_loadingAt_16 : decode M_Wd_loadingAt.2.1 16 = .ok (.invokevirtual 72, 3) := by decide +kernel
theorem d_Wd_loadingAt_19 : decode M_Wd_loadingAt.2.1 19 = .ok (.ifCond .eq 5, 3) := by decide +kernel
theorem d_Wd_loadingAt_22 : decode M_Wd_loadingAt.2.1 22 = .ok (.iload_n 2, 1) := by decide +kernel
theorem d_Wd_loadingAt_23 : decode M_Wd_loadingAt.2.1 23 = .ok (.ireturn, 1) := by decide +kernel
theorem d_Wd_loadingAt_24 : decode M_Wd_loadingAt.2.1 24 = .ok (.iinc 2 1, 3) := by decide +kernel
theorem d_Wd_loadingAt_27 : decode M_Wd_loadingAt.2.1 27 = .ok (.goto (-25), 3) := by decide +kernel
theorem d_Wd_loadingAt_30 : decode M_Wd_loadingAt.2.1 30 = .ok (.iconst (-1), 1) := by decide +kernel
theorem d_Wd_loadingAt_31 : decode M_Wd_loadingAt.2.1 31 = .ok (.ireturn, 1) := by decide +kernel
set_option maxHeartbeats 4000000 in
set_option maxRecDepth 100000 in
theorem ok_Wd_loadingAt {D : xD} {N : Nat} {l : Launch} {d : Nat} {c x V : T2} {P : Nat → Int32} {w : Nat} {ln df : Nat → Option Nat} {rest : List va_E} {K : Option Value → List va_E → Prop} (hw : w < 3) {s : Nat} (hs : s < 6) (hK : K (some (.int (ov (lf P s 12)))) (encC D N c x (va_up V w P) ln df ++ rest)) : Ok D N l (d + 1) M_Wd_loadingAt [.ref (N + wA w), .int (nI s)] (encC D N c x (va_up V w P) ln df ++ rest) 0 0 K := by
  have lp : ∀ b : Nat, b ≤ 12 → lf P s b = none → Wp D N l (EI M_Wd_loadingAt) M_Wd_loadingAt (Rm (d + 1) 0 0) (Qm D N K 0 0) 0 0 2 [(2, .int (nI b)), (0, .ref (N + wA w)), (1, .int (nI s))] [] (encC D N c x (va_up V w P) ln df ++ rest) := by
    refine up_loop ?_ ?_
    · intro hno; skip
      refine wp_iload_n d_Wd_loadingAt_2 rfl rfl ?_
      refine wp_bipush d_Wd_loadingAt_3 rfl bp_12 ?_
      refine wp_icmp_ge_t (tgt := 30) d_Wd_loadingAt_5 (by decide) (nI_le (Nat.le_refl _) (by decide)) ?_
      refine wp_iconst d_Wd_loadingAt_30 rfl ic_m1 ?_
      refine wp_iret d_Wd_loadingAt_31 rfl (Nat.le_refl _) (Nat.le_refl _) ?_
      rw [hno] at hK; exact hK
    · intro b hb ih hno
      refine wp_iload_n d_Wd_loadingAt_2 rfl rfl ?_
      refine wp_bipush d_Wd_loadingAt_3 rfl bp_12 ?_
      refine wp_icmp_ge_f (tgt := 30) d_Wd_loadingAt_5 (by decide) rfl (nI_ge hb (by decide)) ?_
      refine wp_aload_n d_Wd_loadingAt_8 rfl rfl ?_
      refine wp_get fl_Wd_23 d_Wd_loadingAt_9 rfl (rdO (w := w) hw) rfl ?_
      refine wp_iload_n d_Wd_loadingAt_12 rfl rfl ?_
      refine wp_aldR d_Wd_loadingAt_13 rfl (rd4 (w := w) hw) (by omega) (by decide) (rowsW_at (by omega)) ?_
      refine wp_iconst d_Wd_loadingAt_14 rfl ic_2 ?_
      refine wp_iload_n d_Wd_loadingAt_15 rfl rfl ?_
      refine wp_cv2 lk_Wd_72 (ro _ _ _) d_Wd_loadingAt_16 rfl (Nat.le_of_ble_eq_true rfl) (rdR (w := w) hw (by omega)) rfl (Nat.zero_le _) (Nat.zero_le _) ?_
      refine ok_Rd_isIn (w := w) hw (by omega) (fun hi => ?_) (fun hi => ?_)
      · refine wp_if_eq_f (tgt := 24) d_Wd_loadingAt_19 (by decide) rfl (by decide) ?_
        refine wp_iload_n d_Wd_loadingAt_22 rfl rfl ?_
        refine wp_iret d_Wd_loadingAt_23 rfl (Nat.le_refl _) (Nat.le_refl _) ?_
        rw [lf_stay (b := b + 1) (j := b) (by rw [lf, hno]; exact if_pos hi) 12 (by omega)] at hK; exact hK
      · refine wp_if_eq_t (tgt := 24) d_Wd_loadingAt_19 (by decide) (by decide) ?_
        refine wp_iinc (L2 := [(2, _), (0, _), (1, _)]) d_Wd_loadingAt_24 rfl rfl (iinc_1) (by decide) rfl ?_
        refine wp_goto (tgt := 2) d_Wd_loadingAt_27 (by decide) ?_
        exact ih (by rw [lf, hno]; exact if_neg hi)
  refine ok_of (L := [(0, _), (1, _)]) (by decide) (Nat.le_of_ble_eq_true rfl) rfl ?_
  refine wp_iconst d_Wd_loadingAt_0 rfl ic_0 ?_
  refine wp_istore_n (L2 := [(2, _), (0, _), (1, _)]) d_Wd_loadingAt_1 rfl (by decide) rfl ?_
  exact lp 0 (Nat.zero_le _) rfl
theorem d_Rf_firstAt_0 : decode M_Rf_firstAt.2.1 0 = .ok (.iconst (-1), 1) := by decide +kernel
theorem d_Rf_firstAt_1 : decode M_Rf_firstAt.2.1 1 = .ok (.istore_n 2, 1) := by decide +kernel
theorem d_Rf_firstAt_2 : decode M_Rf_firstAt.2.1 2 = .ok (.iconst 0, 1) := by decide +kernel
theorem d_Rf_firstAt_3 : decode M_Rf_firstAt.2.1 3 = .ok (.istore_n 3, 1) := by decide +kernel
theorem d_Rf_firstAt_4 : decode M_Rf_firstAt.2.1 4 = .ok (.iload_n 3, 1) := by decide +kernel
theorem d_Rf_firstAt_5 : decode M_Rf_firstAt.2.1 5 = .ok (.aload_n 0, 1) := by decide +kernel
theorem d_Rf_firstAt_6 : decode M_Rf_firstAt.2.1 6 = .ok (.getfield 155, 3) := by decide +kernel
theorem d_Rf_firstAt_9 : decode M_Rf_firstAt.2.1 9 = .ok (.if_icmp .ge 79, 3) := by decide +kernel
theorem d_Rf_firstAt_12 : decode M_Rf_firstAt.2.1 12 = .ok (.aload_n 0, 1) := by decide +kernel
theorem d_Rf_firstAt_13 : decode M_Rf_firstAt.2.1 13 = .ok (.getfield 7, 3) := by decide +kernel
theorem d_Rf_firstAt_16 : decode M_Rf_firstAt.2.1 16 = .ok (.bipush 72, 2) := by decide +kernel
theorem d_Rf_firstAt_18 : decode M_Rf_firstAt.2.1 18 = .ok (.iload_n 3, 1) := by decide +kernel
theorem d_Rf_firstAt_19 : decode M_Rf_firstAt.2.1 19 = .ok (.iadd, 1) := by decide +kernel
theorem d_Rf_firstAt_20 : decode M_Rf_firstAt.2.1 20 = .ok (.iaload, 1) := by decide +kernel
theorem d_Rf_firstAt_21 : decode M_Rf_firstAt.2.1 21 = .ok (.iconst 1, 1) := by decide +kernel
theorem d_Rf_firstAt_22 : decode M_Rf_firstAt.2.1 22 = .ok (.if_icmp .ne 20, 3) := by decide +kernel
theorem d_Rf_firstAt_25 : decode M_Rf_firstAt.2.1 25 = .ok (.aload_n 0, 1) := by decide +kernel
theorem d_Rf_firstAt_26 : decode M_Rf_firstAt.2.1 26 = .ok (.getfield 7, 3) := by decide +kernel
theorem d_Rf_firstAt_29 : decode M_Rf_firstAt.2.1 29 = .ok (.bipush 84, 2) := by decide +kernel
theorem d_Rf_firstAt_31 : decode M_Rf_firstAt.2.1 31 = .ok (.iload_n 3, 1) := by decide +kernel
theorem d_Rf_firstAt_32 : decode M_Rf_firstAt.2.1 32 = .ok (.iadd, 1) := by decide +kernel
theorem d_Rf_firstAt_33 : decode M_Rf_firstAt.2.1 33 = .ok (.iaload, 1) := by decide +kernel
theorem d_Rf_firstAt_34 : decode M_Rf_firstAt.2.1 34 = .ok (.iload_n 1, 1) := by decide +kernel
theorem d_Rf_firstAt_35 : decode M_Rf_firstAt.2.1 35 = .ok (.if_icmp .ne 7, 3) := by decide +kernel
theorem d_Rf_firstAt_38 : decode M_Rf_firstAt.2.1 38 = .ok (.iconst 1, 1) := by decide +kernel
theorem d_Rf_firstAt_39 : decode M_Rf_firstAt.2.1 39 = .ok (.goto 4, 3) := by decide +kernel
theorem d_Rf_firstAt_42 : decode M_Rf_firstAt.2.1 42 = .ok (.iconst 0, 1) := by decide +kernel
theorem d_Rf_firstAt_43 : decode M_Rf_firstAt.2.1 43 = .ok (.istore 4, 2) := by decide +kernel
theorem d_Rf_firstAt_45 : decode M_Rf_firstAt.2.1 45 = .ok (.iload 4, 2) := by decide +kernel
theorem d_Rf_firstAt_47 : decode M_Rf_firstAt.2.1 47 = .ok (.ifCond .eq 33, 3) := by decide +kernel
theorem d_Rf_firstAt_50 : decode M_Rf_firstAt.2.1 50 = .ok (.iload_n 2, 1) := by decide +kernel
theorem d_Rf_firstAt_51 : decode M_Rf_firstAt.2.1 51 = .ok (.iconst (-1), 1) := by decide +kernel
theorem d_Rf_firstAt_52 : decode M_Rf_firstAt.2.1 52 = .ok (.if_icmp .eq 24, 3) := by decide +kernel
theorem d_Rf_firstAt_55 : decode M_Rf_firstAt.2.1 55 = .ok (.aload_n 0, 1) := by decide +kernel
theorem d_Rf_firstAt_56 : decode M_Rf_firstAt.2.1 56 = .ok (.getfield 7, 3) := by decide +kernel
theorem d_Rf_firstAt_59 : decode M_Rf_firstAt.2.1 59 = .ok (.bipush 96, 2) := by decide +kernel
theorem d_Rf_firstAt_61 : decode M_Rf_firstAt.2.1 61 = .ok (.iload_n 3, 1) := by decide +kernel
theorem d_Rf_firstAt_62 : decode M_Rf_firstAt.2.1 62 = .ok (.iadd, 1) := by decide +kernel
theorem d_Rf_firstAt_63 : decode M_Rf_firstAt.2.1 63 = .ok (.iaload, 1) := by decide +kernel
theorem d_Rf_firstAt_64 : decode M_Rf_firstAt.2.1 64 = .ok (.aload_n 0, 1) := by decide +kernel
theorem d_Rf_firstAt_65 : decode M_Rf_firstAt.2.1 65 = .ok (.getfield 7, 3) := by decide +kernel
theorem d_Rf_firstAt_68 : decode M_Rf_firstAt.2.1 68 = .ok (.bipush 96, 2) := by decide +kernel
theorem d_Rf_firstAt_70 : decode M_Rf_firstAt.2.1 70 = .ok (.iload_n 2, 1) := by decide +kernel
theorem d_Rf_firstAt_71 : decode M_Rf_firstAt.2.1 71 = .ok (.iadd, 1) := by decide +kernel
theorem d_Rf_firstAt_72 : decode M_Rf_firstAt.2.1 72 = .ok (.iaload, 1) := by decide +kernel
theorem d_Rf_firstAt_73 : decode M_Rf_firstAt.2.1 73 = .ok (.if_icmp .ge 7, 3) := by decide +kernel
theorem d_Rf_firstAt_76 : decode M_Rf_firstAt.2.1 76 = .ok (.iload_n 3, 1) := by decide +kernel
theorem d_Rf_firstAt_77 : decode M_Rf_firstAt.2.1 77 = .ok (.goto 4, 3) := by decide +kernel
theorem d_Rf_firstAt_80 : decode M_Rf_firstAt.2.1 80 = .ok (.iload_n 2, 1) := by decide +kernel
theorem d_Rf_firstAt_81 : decode M_Rf_firstAt.2.1 81 = .ok (.istore_n 2, 1) := by decide +kernel
theorem d_Rf_firstAt_82 : decode M_Rf_firstAt.2.1 82 = .ok (.iinc 3 1, 3) := by decide +kernel
theorem d_Rf_firstAt_85 : decode M_Rf_firstAt.2.1 85 = .ok (.goto (-81), 3) := by decide +kernel
theorem d_Rf_firstAt_88 : decode M_Rf_firstAt.2.1 88 = .ok (.iload_n 2, 1) := by decide +kernel
theorem d_Rf_firstAt_89 : decode M_Rf_firstAt.2.1 89 = .ok (.ireturn, 1) := by decide +kernel
set_option maxHeartbeats 4000000 in
set_option maxRecDepth 100000 in
theorem ok_Rf_firstAt {D : xD} {N : Nat} {l : Launch} {d : Nat} {c z : T2} {P Q : Nat → Int32} {rest : List va_E} {K : Option Value → List va_E → Prop} {nb : Nat} (hnb : c 32 1 = nI nb) (h12 : nb ≤ 12) {s : Nat} (hs : s < 6) (hK : K (some (.int (ov (ff P s nb)))) (encR D N c z P Q ++ rest)) : Ok D N l d M_Rf_firstAt [.ref (N + 0), .int (nI s)] (encR D N c z P Q ++ rest) 0 0 K := by
  have lp : ∀ b : Nat, b ≤ nb → Wp D N l (EI M_Rf_firstAt) M_Rf_firstAt (Rm d 0 0) (Qm D N K 0 0) 0 0 4 [(3, .int (nI b)), (2, .int (ov (ff P s b))), (0, .ref (N + 0)), (1, .int (nI s))] [] (encR D N c z P Q ++ rest) := by
    refine up_loop ?_ ?_
    · skip
      refine wp_iload_n d_Rf_firstAt_4 rfl rfl ?_
      refine wp_aload_n d_Rf_firstAt_5 rfl rfl ?_
      refine wp_get fl_Rf_155 d_Rf_firstAt_6 rfl rfl rfl ?_
      refine wp_icmp_ge_t (tgt := 88) d_Rf_firstAt_9 (by decide) (by rw [hnb]; exact nI_le (Nat.le_refl _) (by omega)) ?_
      refine wp_iload_n d_Rf_firstAt_88 rfl rfl ?_
      refine wp_iret d_Rf_firstAt_89 rfl (Nat.le_refl _) (Nat.le_refl _) ?_
      exact hK
    · intro b hb ih
      cases ho : ff P s b with
      | none =>
        refine wp_iload_n d_Rf_firstAt_4 rfl rfl ?_
        refine wp_aload_n d_Rf_firstAt_5 rfl rfl ?_
        refine wp_get fl_Rf_155 d_Rf_firstAt_6 rfl rfl rfl ?_
        refine wp_icmp_ge_f (tgt := 88) d_Rf_firstAt_9 (by decide) rfl (by rw [hnb]; exact nI_ge hb (by omega)) ?_
        refine wp_aload_n d_Rf_firstAt_12 rfl rfl ?_
        refine wp_get fl_Rf_7 d_Rf_firstAt_13 rfl rfl rfl ?_
        refine wp_bipush d_Rf_firstAt_16 rfl bp_72 ?_
        refine wp_iload_n d_Rf_firstAt_18 rfl rfl ?_
        first | refine wp_iaddN d_Rf_firstAt_19 rfl ?_ | refine wp_iadd d_Rf_firstAt_19 rfl ?_
        refine wp_iald d_Rf_firstAt_20 rfl (rfl) (by omega) (by decide) ?_
        refine wp_iconst d_Rf_firstAt_21 rfl ic_1 ?_
        refine wp_icmp_ne (tgt := 42) d_Rf_firstAt_22 (by decide) rfl (fun hc_22 => ?_) (fun hc_22 => ?_)
        · refine wp_iconst d_Rf_firstAt_42 rfl ic_0 ?_
          refine wp_istore (L2 := [(4, _), (3, _), (2, _), (0, _), (1, _)]) d_Rf_firstAt_43 rfl (by decide) rfl ?_
          refine wp_iload d_Rf_firstAt_45 rfl rfl ?_
          refine wp_if_eq_t (tgt := 80) d_Rf_firstAt_47 (by decide) (by decide) ?_
          refine wp_iload_n d_Rf_firstAt_80 rfl rfl ?_
          refine wp_istore_n (L2 := [(2, _), (4, _), (3, _), (0, _), (1, _)]) d_Rf_firstAt_81 rfl (by decide) rfl ?_
          refine wp_iinc (L2 := [(3, _), (2, _), (4, _), (0, _), (1, _)]) d_Rf_firstAt_82 rfl rfl (iinc_1) (by decide) rfl ?_
          refine wp_goto (tgt := 4) d_Rf_firstAt_85 (by decide) ?_
          refine wp_sub [0, 1, 3, 4] rfl ?_
          first | (rw [ff, ho, if_pos ⟨hc_22, hc_35⟩] at ih; exact ih) | (rw [ff, ho, if_neg (fun z => hc_22 z.1)] at ih; exact ih) | (rw [ff, ho, if_neg (fun z => hc_35 z.2)] at ih; exact ih)
        · refine wp_aload_n d_Rf_firstAt_25 rfl rfl ?_
          refine wp_get fl_Rf_7 d_Rf_firstAt_26 rfl rfl rfl ?_
          refine wp_bipush d_Rf_firstAt_29 rfl bp_84 ?_
          refine wp_iload_n d_Rf_firstAt_31 rfl rfl ?_
          first | refine wp_iaddN d_Rf_firstAt_32 rfl ?_ | refine wp_iadd d_Rf_firstAt_32 rfl ?_
          refine wp_iald d_Rf_firstAt_33 rfl (rfl) (by omega) (by decide) ?_
          refine wp_iload_n d_Rf_firstAt_34 rfl rfl ?_
          refine wp_icmp_ne (tgt := 42) d_Rf_firstAt_35 (by decide) rfl (fun hc_35 => ?_) (fun hc_35 => ?_)
          · refine wp_iconst d_Rf_firstAt_42 rfl ic_0 ?_
            refine wp_istore (L2 := [(4, _), (3, _), (2, _), (0, _), (1, _)]) d_Rf_firstAt_43 rfl (by decide) rfl ?_
            refine wp_iload d_Rf_firstAt_45 rfl rfl ?_
            refine wp_if_eq_t (tgt := 80) d_Rf_firstAt_47 (by decide) (by decide) ?_
            refine wp_iload_n d_Rf_firstAt_80 rfl rfl ?_
            refine wp_istore_n (L2 := [(2, _), (4, _), (3, _), (0, _), (1, _)]) d_Rf_firstAt_81 rfl (by decide) rfl ?_
            refine wp_iinc (L2 := [(3, _), (2, _), (4, _), (0, _), (1, _)]) d_Rf_firstAt_82 rfl rfl (iinc_1) (by decide) rfl ?_
            refine wp_goto (tgt := 4) d_Rf_firstAt_85 (by decide) ?_
            refine wp_sub [0, 1, 3, 4] rfl ?_
            first | (rw [ff, ho, if_pos ⟨hc_22, hc_35⟩] at ih; exact ih) | (rw [ff, ho, if_neg (fun z => hc_22 z.1)] at ih; exact ih) | (rw [ff, ho, if_neg (fun z => hc_35 z.2)] at ih; exact ih)
          · refine wp_iconst d_Rf_firstAt_38 rfl ic_1 ?_
            refine wp_goto (tgt := 43) d_Rf_firstAt_39 (by decide) ?_
            refine wp_istore (L2 := [(4, _), (3, _), (2, _), (0, _), (1, _)]) d_Rf_firstAt_43 rfl (by decide) rfl ?_
            refine wp_iload d_Rf_firstAt_45 rfl rfl ?_
            refine wp_if_eq_f (tgt := 80) d_Rf_firstAt_47 (by decide) rfl (by decide) ?_
            refine wp_iload_n d_Rf_firstAt_50 rfl rfl ?_
            refine wp_iconst d_Rf_firstAt_51 rfl ic_m1 ?_
            refine wp_icmp_eq_t (tgt := 76) d_Rf_firstAt_52 (by decide) (rfl) ?_
            refine wp_iload_n d_Rf_firstAt_76 rfl rfl ?_
            refine wp_goto (tgt := 81) d_Rf_firstAt_77 (by decide) ?_
            refine wp_istore_n (L2 := [(2, _), (4, _), (3, _), (0, _), (1, _)]) d_Rf_firstAt_81 rfl (by decide) rfl ?_
            refine wp_iinc (L2 := [(3, _), (2, _), (4, _), (0, _), (1, _)]) d_Rf_firstAt_82 rfl rfl (iinc_1) (by decide) rfl ?_
            refine wp_goto (tgt := 4) d_Rf_firstAt_85 (by decide) ?_
            refine wp_sub [0, 1, 3, 4] rfl ?_
            first | (rw [ff, ho, if_pos ⟨hc_22, hc_35⟩] at ih; exact ih) | (rw [ff, ho, if_neg (fun z => hc_22 z.1)] at ih; exact ih) | (rw [ff, ho, if_neg (fun z => hc_35 z.2)] at ih; exact ih)
      | some j =>
        have hj := ff_lt ho
        refine wp_iload_n d_Rf_firstAt_4 rfl rfl ?_
        refine wp_aload_n d_Rf_firstAt_5 rfl rfl ?_
        refine wp_get fl_Rf_155 d_Rf_firstAt_6 rfl rfl rfl ?_
        refine wp_icmp_ge_f (tgt := 88) d_Rf_firstAt_9 (by decide) rfl (by rw [hnb]; exact nI_ge hb (by omega)) ?_
        refine wp_aload_n d_Rf_firstAt_12 rfl rfl ?_
        refine wp_get fl_Rf_7 d_Rf_firstAt_13 rfl rfl rfl ?_
        refine wp_bipush d_Rf_firstAt_16 rfl bp_72 ?_
        refine wp_iload_n d_Rf_firstAt_18 rfl rfl ?_
        first | refine wp_iaddN d_Rf_firstAt_19 rfl ?_ | refine wp_iadd d_Rf_firstAt_19 rfl ?_
        refine wp_iald d_Rf_firstAt_20 rfl (rfl) (by omega) (by decide) ?_
        refine wp_iconst d_Rf_firstAt_21 rfl ic_1 ?_
        refine wp_icmp_ne (tgt := 42) d_Rf_firstAt_22 (by decide) rfl (fun hc_22 => ?_) (fun hc_22 => ?_)
        · refine wp_iconst d_Rf_firstAt_42 rfl ic_0 ?_
          refine wp_istore (L2 := [(4, _), (3, _), (2, _), (0, _), (1, _)]) d_Rf_firstAt_43 rfl (by decide) rfl ?_
          refine wp_iload d_Rf_firstAt_45 rfl rfl ?_
          refine wp_if_eq_t (tgt := 80) d_Rf_firstAt_47 (by decide) (by decide) ?_
          refine wp_iload_n d_Rf_firstAt_80 rfl rfl ?_
          refine wp_istore_n (L2 := [(2, _), (4, _), (3, _), (0, _), (1, _)]) d_Rf_firstAt_81 rfl (by decide) rfl ?_
          refine wp_iinc (L2 := [(3, _), (2, _), (4, _), (0, _), (1, _)]) d_Rf_firstAt_82 rfl rfl (iinc_1) (by decide) rfl ?_
          refine wp_goto (tgt := 4) d_Rf_firstAt_85 (by decide) ?_
          refine wp_sub [0, 1, 3, 4] rfl ?_
          first | (rw [ff, ho, if_pos ⟨hc_22, hc_35⟩] at ih; dsimp only at ih; first | (rw [if_pos (nle_lt hc_73)] at ih; exact ih) | (rw [if_neg (le_nlt hc_73)] at ih; exact ih)) | (rw [ff, ho, if_neg (fun z => hc_22 z.1)] at ih; exact ih) | (rw [ff, ho, if_neg (fun z => hc_35 z.2)] at ih; exact ih)
        · refine wp_aload_n d_Rf_firstAt_25 rfl rfl ?_
          refine wp_get fl_Rf_7 d_Rf_firstAt_26 rfl rfl rfl ?_
          refine wp_bipush d_Rf_firstAt_29 rfl bp_84 ?_
          refine wp_iload_n d_Rf_firstAt_31 rfl rfl ?_
          first | refine wp_iaddN d_Rf_firstAt_32 rfl ?_ | refine wp_iadd d_Rf_firstAt_32 rfl ?_
          refine wp_iald d_Rf_firstAt_33 rfl (rfl) (by omega) (by decide) ?_
          refine wp_iload_n d_Rf_firstAt_34 rfl rfl ?_
          refine wp_icmp_ne (tgt := 42) d_Rf_firstAt_35 (by decide) rfl (fun hc_35 => ?_) (fun hc_35 => ?_)
          · refine wp_iconst d_Rf_firstAt_42 rfl ic_0 ?_
            refine wp_istore (L2 := [(4, _), (3, _), (2, _), (0, _), (1, _)]) d_Rf_firstAt_43 rfl (by decide) rfl ?_
            refine wp_iload d_Rf_firstAt_45 rfl rfl ?_
            refine wp_if_eq_t (tgt := 80) d_Rf_firstAt_47 (by decide) (by decide) ?_
            refine wp_iload_n d_Rf_firstAt_80 rfl rfl ?_
            refine wp_istore_n (L2 := [(2, _), (4, _), (3, _), (0, _), (1, _)]) d_Rf_firstAt_81 rfl (by decide) rfl ?_
            refine wp_iinc (L2 := [(3, _), (2, _), (4, _), (0, _), (1, _)]) d_Rf_firstAt_82 rfl rfl (iinc_1) (by decide) rfl ?_
            refine wp_goto (tgt := 4) d_Rf_firstAt_85 (by decide) ?_
            refine wp_sub [0, 1, 3, 4] rfl ?_
            first | (rw [ff, ho, if_pos ⟨hc_22, hc_35⟩] at ih; dsimp only at ih; first | (rw [if_pos (nle_lt hc_73)] at ih; exact ih) | (rw [if_neg (le_nlt hc_73)] at ih; exact ih)) | (rw [ff, ho, if_neg (fun z => hc_22 z.1)] at ih; exact ih) | (rw [ff, ho, if_neg (fun z => hc_35 z.2)] at ih; exact ih)
          · refine wp_iconst d_Rf_firstAt_38 rfl ic_1 ?_
            refine wp_goto (tgt := 43) d_Rf_firstAt_39 (by decide) ?_
            refine wp_istore (L2 := [(4, _), (3, _), (2, _), (0, _), (1, _)]) d_Rf_firstAt_43 rfl (by decide) rfl ?_
            refine wp_iload d_Rf_firstAt_45 rfl rfl ?_
            refine wp_if_eq_f (tgt := 80) d_Rf_firstAt_47 (by decide) rfl (by decide) ?_
            refine wp_iload_n d_Rf_firstAt_50 rfl rfl ?_
            refine wp_iconst d_Rf_firstAt_51 rfl ic_m1 ?_
            refine wp_icmp_eq_f (tgt := 76) d_Rf_firstAt_52 (by decide) rfl (nI_nm1 (by omega)) ?_
            refine wp_aload_n d_Rf_firstAt_55 rfl rfl ?_
            refine wp_get fl_Rf_7 d_Rf_firstAt_56 rfl rfl rfl ?_
            refine wp_bipush d_Rf_firstAt_59 rfl bp_96 ?_
            refine wp_iload_n d_Rf_firstAt_61 rfl rfl ?_
            first | refine wp_iaddN d_Rf_firstAt_62 rfl ?_ | refine wp_iadd d_Rf_firstAt_62 rfl ?_
            refine wp_iald d_Rf_firstAt_63 rfl (rfl) (by omega) (by decide) ?_
            refine wp_aload_n d_Rf_firstAt_64 rfl rfl ?_
            refine wp_get fl_Rf_7 d_Rf_firstAt_65 rfl rfl rfl ?_
            refine wp_bipush d_Rf_firstAt_68 rfl bp_96 ?_
            refine wp_iload_n d_Rf_firstAt_70 rfl rfl ?_
            first | refine wp_iaddN d_Rf_firstAt_71 rfl ?_ | refine wp_iadd d_Rf_firstAt_71 rfl ?_
            refine wp_iald d_Rf_firstAt_72 rfl (rfl) (by omega) (by decide) ?_
            refine wp_icmp_ge (tgt := 80) d_Rf_firstAt_73 (by decide) rfl (fun hc_73 => ?_) (fun hc_73 => ?_)
            · refine wp_iload_n d_Rf_firstAt_80 rfl rfl ?_
              refine wp_istore_n (L2 := [(2, _), (4, _), (3, _), (0, _), (1, _)]) d_Rf_firstAt_81 rfl (by decide) rfl ?_
              refine wp_iinc (L2 := [(3, _), (2, _), (4, _), (0, _), (1, _)]) d_Rf_firstAt_82 rfl rfl (iinc_1) (by decide) rfl ?_
              refine wp_goto (tgt := 4) d_Rf_firstAt_85 (by decide) ?_
              refine wp_sub [0, 1, 3, 4] rfl ?_
              first | (rw [ff, ho, if_pos ⟨hc_22, hc_35⟩] at ih; dsimp only at ih; first | (rw [if_pos (nle_lt hc_73)] at ih; exact ih) | (rw [if_neg (le_nlt hc_73)] at ih; exact ih)) | (rw [ff, ho, if_neg (fun z => hc_22 z.1)] at ih; exact ih) | (rw [ff, ho, if_neg (fun z => hc_35 z.2)] at ih; exact ih)
            · refine wp_iload_n d_Rf_firstAt_76 rfl rfl ?_
              refine wp_goto (tgt := 81) d_Rf_firstAt_77 (by decide) ?_
              refine wp_istore_n (L2 := [(2, _), (4, _), (3, _), (0, _), (1, _)]) d_Rf_firstAt_81 rfl (by decide) rfl ?_
              refine wp_iinc (L2 := [(3, _), (2, _), (4, _), (0, _), (1, _)]) d_Rf_firstAt_82 rfl rfl (iinc_1) (by decide) rfl ?_
              refine wp_goto (tgt := 4) d_Rf_firstAt_85 (by decide) ?_
              refine wp_sub [0, 1, 3, 4] rfl ?_
              first | (rw [ff, ho, if_pos ⟨hc_22, hc_35⟩] at ih; dsimp only at ih; first | (rw [if_pos (nle_lt hc_73)] at ih; exact ih) | (rw [if_neg (le_nlt hc_73)] at ih; exact ih)) | (rw [ff, ho, if_neg (fun z => hc_22 z.1)] at ih; exact ih) | (rw [ff, ho, if_neg (fun z => hc_35 z.2)] at ih; exact ih)
  refine ok_of (L := [(0, _), (1, _)]) (by decide) (Nat.le_of_ble_eq_true rfl) rfl ?_
  refine wp_iconst d_Rf_firstAt_0 rfl ic_m1 ?_
  refine wp_istore_n (L2 := [(2, _), (0, _), (1, _)]) d_Rf_firstAt_1 rfl (by decide) rfl ?_
  refine wp_iconst d_Rf_firstAt_2 rfl ic_0 ?_
  refine wp_istore_n (L2 := [(3, _), (2, _), (0, _), (1, _)]) d_Rf_firstAt_3 rfl (by decide) rfl ?_
  exact lp 0 (Nat.zero_le _)
theorem d_Wd_firstInLine_0 : decode M_Wd_firstInLine.2.1 0 = .ok (.iconst (-1), 1) := by decide +kernel
theorem d_Wd_firstInLine_1 : decode M_Wd_firstInLine.2.1 1 = .ok (.istore_n 2, 1) := by decide +kernel
theorem d_Wd_firstInLine_2 : decode M_Wd_firstInLine.2.1 2 = .ok (.iconst 0, 1) := by decide +kernel
theorem d_Wd_firstInLine_3 : decode M_Wd_firstInLine.2.1 3 = .ok (.istore_n 3, 1) := by decide +kernel
theorem d_Wd_firstInLine_4 : decode M_Wd_firstInLine.2.1 4 = .ok (.iload_n 3, 1) := by decide +kernel
theorem d_Wd_firstInLine_5 : decode M_Wd_firstInLine.2.1 5 = .ok (.bipush 12, 2) := by decide +kernel
theorem d_Wd_firstInLine_7 : decode M_Wd_firstInLine.2.1 7 = .ok (.if_icmp .ge 53, 3) := by decide +kernel
theorem d_Wd_firstInLine_10 : decode M_Wd_firstInLine.2.1 10 = .ok (.aload_n 0, 1) := by decide +kernel
theorem d_Wd_firstInLine_11 : decode M_Wd_firstInLine.2.1 11 = .ok (.getfield 23, 3) := by decide +kernel
theorem d_Wd_firstInLine_14 : decode M_Wd_firstInLine.2.1 14 = .ok (.iload_n 3, 1) := by decide +kernel
theorem d_Wd_firstInLine_15 : decode M_Wd_firstInLine.2.1 15 = .ok (.aaload, 1) := by decide +kernel
theorem d_Wd_firstInLine_16 : decode M_Wd_firstInLine.2.1 16 = .ok (.iconst 1, 1) := by decide +kernel
theorem d_Wd_firstInLine_17 : decode M_Wd_firstInLine.2.1 17 = .ok (.iload_n 1, 1) := by decide +kernel
theorem d_Wd_firstInLine_18 : decode M_Wd_firstInLine.2.1 18 = .ok (.invokevirtual 72, 3) := by decide +kernel
theorem d_Wd_firstInLine_21 : decode M_Wd_firstInLine.2.1 21 = .ok (.ifCond .ne 6, 3) := by decide +kernel
theorem d_Wd_firstInLine_24 : decode M_Wd_firstInLine.2.1 24 = .ok (.goto 30, 3) := by decide +kernel
theorem d_Wd_firstInLine_27 : decode M_Wd_firstInLine.2.1 27 = .ok (.iload_n 2, 1) := by decide +kernel
theorem d_Wd_firstInLine_28 : decode M_Wd_firstInLine.2.1 28 = .ok (.ifCond .lt 24, 3) := by decide +kernel
theorem d_Wd_firstInLine_31 : decode M_Wd_firstInLine.2.1 31 = .ok (.aload_n 0, 1) := by decide +kernel
theorem d_Wd_firstInLine_32 : decode M_Wd_firstInLine.2.1 32 = .ok (.getfield 23, 3) := by decide +kernel
theorem d_Wd_firstInLine_35 : decode M_Wd_firstInLine.2.1 35 = .ok (.iload_n 3, 1) := by decide +kernel
theorem d_Wd_firstInLine_36 : decode M_Wd_firstInLine.2.1 36 = .ok (.aaload, 1) := by decide +kernel
theorem d_Wd_firstInLine_37 : decode M_Wd_firstInLine.2.1 37 = .ok (.getfield 60, 3) := by decide +kernel
theorem d_Wd_firstInLine_40 : decode M_Wd_firstInLine.2.1 40 = .ok (.aload_n 0, 1) := by decide +kernel
theorem d_Wd_firstInLine_41 : decode M_Wd_firstInLine.2.1 41 = .ok (.getfield 23, 3) := by decide +kernel
theorem d_Wd_firstInLine_44 : decode M_Wd_firstInLine.2.1 44 = .ok (.iload_n 2, 1) := by decide +kernel
theorem d_Wd_firstInLine_45 : decode M_Wd_firstInLine.2.1 45 = .ok (.aaload, 1) := by decide +kernel
theorem d_Wd_firstInLine_46 : decode M_Wd_firstInLine.2.1 46 = .ok (.getfield 60, 3) := by decide +kernel
theorem d_Wd_firstInLine_49 : decode M_Wd_firstInLine.2.1 49 = .ok (.if_icmp .ge 5, 3) := by decide +kernel
theorem d_Wd_firstInLine_52 : decode M_Wd_firstInLine.2.1 52 = .ok (.iload_n 3, 1) := by decide +kernel
theorem d_Wd_firstInLine_53 : decode M_Wd_firstInLine.2.1 53 = .ok (.istore_n 2, 1) := by decide +kernel
theorem d_Wd_firstInLine_54 : decode M_Wd_firstInLine.2.1 54 = .ok (.iinc 3 1, 3) := by decide +kernel
theorem d_Wd_firstInLine_57 : decode M_Wd_firstInLine.2.1 57 = .ok (.goto (-53), 3) := by decide +kernel
theorem d_Wd_firstInLine_60 : decode M_Wd_firstInLine.2.1 60 = .ok (.iload_n 2, 1) := by decide +kernel
theorem d_Wd_firstInLine_61 : decode M_Wd_firstInLine.2.1 61 = .ok (.ireturn, 1) := by decide +kernel
set_option maxHeartbeats 4000000 in
set_option maxRecDepth 100000 in
theorem ok_Wd_firstInLine {D : xD} {N : Nat} {l : Launch} {d : Nat} {c x V : T2} {P : Nat → Int32} {w : Nat} {ln df : Nat → Option Nat} {rest : List va_E} {K : Option Value → List va_E → Prop} (hw : w < 3) {s : Nat} (hs : s < 6) (hK : K (some (.int (ov (ff P s 12)))) (encC D N c x (va_up V w P) ln df ++ rest)) : Ok D N l (d + 1) M_Wd_firstInLine [.ref (N + wA w), .int (nI s)] (encC D N c x (va_up V w P) ln df ++ rest) 0 0 K := by
  have lp : ∀ b : Nat, b ≤ 12 → Wp D N l (EI M_Wd_firstInLine) M_Wd_firstInLine (Rm (d + 1) 0 0) (Qm D N K 0 0) 0 0 4 [(3, .int (nI b)), (2, .int (ov (ff P s b))), (0, .ref (N + wA w)), (1, .int (nI s))] [] (encC D N c x (va_up V w P) ln df ++ rest) := by
    refine up_loop ?_ ?_
    · skip
      refine wp_iload_n d_Wd_firstInLine_4 rfl rfl ?_
      refine wp_bipush d_Wd_firstInLine_5 rfl bp_12 ?_
      refine wp_icmp_ge_t (tgt := 60) d_Wd_firstInLine_7 (by decide) (nI_le (Nat.le_refl _) (by decide)) ?_
      refine wp_iload_n d_Wd_firstInLine_60 rfl rfl ?_
      refine wp_iret d_Wd_firstInLine_61 rfl (Nat.le_refl _) (Nat.le_refl _) ?_
      exact hK
    · intro b hb ih
      cases ho : ff P s b with
      | none =>
        refine wp_iload_n d_Wd_firstInLine_4 rfl rfl ?_
        refine wp_bipush d_Wd_firstInLine_5 rfl bp_12 ?_
        refine wp_icmp_ge_f (tgt := 60) d_Wd_firstInLine_7 (by decide) rfl (nI_ge hb (by decide)) ?_
        refine wp_aload_n d_Wd_firstInLine_10 rfl rfl ?_
        refine wp_get fl_Wd_23 d_Wd_firstInLine_11 rfl (rdO (w := w) hw) rfl ?_
        refine wp_iload_n d_Wd_firstInLine_14 rfl rfl ?_
        refine wp_aldR d_Wd_firstInLine_15 rfl (rd4 (w := w) hw) (by omega) (by decide) (rowsW_at (by omega)) ?_
        refine wp_iconst d_Wd_firstInLine_16 rfl ic_1 ?_
        refine wp_iload_n d_Wd_firstInLine_17 rfl rfl ?_
        refine wp_cv2 lk_Wd_72 (ro _ _ _) d_Wd_firstInLine_18 rfl (Nat.le_of_ble_eq_true rfl) (rdR (w := w) hw (by omega)) rfl (Nat.zero_le _) (Nat.zero_le _) ?_
        refine ok_Rd_isIn (w := w) hw (by omega) (fun hi => ?_) (fun hi => ?_)
        · refine wp_if_ne_t (tgt := 27) d_Wd_firstInLine_21 (by decide) (by decide) ?_
          refine wp_iload_n d_Wd_firstInLine_27 rfl rfl ?_
          refine wp_if_lt_t (tgt := 52) d_Wd_firstInLine_28 (by decide) (by decide) ?_
          refine wp_iload_n d_Wd_firstInLine_52 rfl rfl ?_
          refine wp_istore_n (L2 := [(2, _), (3, _), (0, _), (1, _)]) d_Wd_firstInLine_53 rfl (by decide) rfl ?_
          refine wp_iinc (L2 := [(3, _), (2, _), (0, _), (1, _)]) d_Wd_firstInLine_54 rfl rfl (iinc_1) (by decide) rfl ?_
          refine wp_goto (tgt := 4) d_Wd_firstInLine_57 (by decide) ?_
          first | (rw [ff, ho, if_pos hi] at ih; exact ih) | (rw [ff, ho, if_neg hi] at ih; exact ih)
        · refine wp_if_ne_f (tgt := 27) d_Wd_firstInLine_21 (by decide) rfl (by decide) ?_
          refine wp_goto (tgt := 54) d_Wd_firstInLine_24 (by decide) ?_
          refine wp_iinc (L2 := [(3, _), (2, _), (0, _), (1, _)]) d_Wd_firstInLine_54 rfl rfl (iinc_1) (by decide) rfl ?_
          refine wp_goto (tgt := 4) d_Wd_firstInLine_57 (by decide) ?_
          first | (rw [ff, ho, if_pos hi] at ih; exact ih) | (rw [ff, ho, if_neg hi] at ih; exact ih)
      | some j =>
        have hj := ff_lt ho
        refine wp_iload_n d_Wd_firstInLine_4 rfl rfl ?_
        refine wp_bipush d_Wd_firstInLine_5 rfl bp_12 ?_
        refine wp_icmp_ge_f (tgt := 60) d_Wd_firstInLine_7 (by decide) rfl (nI_ge hb (by decide)) ?_
        refine wp_aload_n d_Wd_firstInLine_10 rfl rfl ?_
        refine wp_get fl_Wd_23 d_Wd_firstInLine_11 rfl (rdO (w := w) hw) rfl ?_
        refine wp_iload_n d_Wd_firstInLine_14 rfl rfl ?_
        refine wp_aldR d_Wd_firstInLine_15 rfl (rd4 (w := w) hw) (by omega) (by decide) (rowsW_at (by omega)) ?_
        refine wp_iconst d_Wd_firstInLine_16 rfl ic_1 ?_
        refine wp_iload_n d_Wd_firstInLine_17 rfl rfl ?_
        refine wp_cv2 lk_Wd_72 (ro _ _ _) d_Wd_firstInLine_18 rfl (Nat.le_of_ble_eq_true rfl) (rdR (w := w) hw (by omega)) rfl (Nat.zero_le _) (Nat.zero_le _) ?_
        refine ok_Rd_isIn (w := w) hw (by omega) (fun hi => ?_) (fun hi => ?_)
        · refine wp_if_ne_t (tgt := 27) d_Wd_firstInLine_21 (by decide) (by decide) ?_
          refine wp_iload_n d_Wd_firstInLine_27 rfl rfl ?_
          refine wp_if_lt_f (tgt := 52) d_Wd_firstInLine_28 (by decide) rfl (nI_pos (by omega)) ?_
          refine wp_aload_n d_Wd_firstInLine_31 rfl rfl ?_
          refine wp_get fl_Wd_23 d_Wd_firstInLine_32 rfl (rdO (w := w) hw) rfl ?_
          refine wp_iload_n d_Wd_firstInLine_35 rfl rfl ?_
          refine wp_aldR d_Wd_firstInLine_36 rfl (rd4 (w := w) hw) (by omega) (by decide) (rowsW_at (by omega)) ?_
          refine wp_get fl_Wd_60 d_Wd_firstInLine_37 rfl (rdR (w := w) hw (by omega)) rfl ?_
          refine wp_aload_n d_Wd_firstInLine_40 rfl rfl ?_
          refine wp_get fl_Wd_23 d_Wd_firstInLine_41 rfl (rdO (w := w) hw) rfl ?_
          refine wp_iload_n d_Wd_firstInLine_44 rfl rfl ?_
          refine wp_aldR d_Wd_firstInLine_45 rfl (rd4 (w := w) hw) (by omega) (by decide) (rowsW_at (by omega)) ?_
          refine wp_get fl_Wd_60 d_Wd_firstInLine_46 rfl (rdR (w := w) hw (by omega)) rfl ?_
          refine wp_icmp_ge (tgt := 54) d_Wd_firstInLine_49 (by decide) rfl (fun hc_49 => ?_) (fun hc_49 => ?_)
          · refine wp_iinc (L2 := [(3, _), (2, _), (0, _), (1, _)]) d_Wd_firstInLine_54 rfl rfl (iinc_1) (by decide) rfl ?_
            refine wp_goto (tgt := 4) d_Wd_firstInLine_57 (by decide) ?_
            first | (rw [ff, ho, if_pos hi] at ih; dsimp only at ih; first | (rw [if_pos (nle_lt hc_49)] at ih; exact ih) | (rw [if_neg (le_nlt hc_49)] at ih; exact ih)) | (rw [ff, ho, if_neg hi] at ih; exact ih)
          · refine wp_iload_n d_Wd_firstInLine_52 rfl rfl ?_
            refine wp_istore_n (L2 := [(2, _), (3, _), (0, _), (1, _)]) d_Wd_firstInLine_53 rfl (by decide) rfl ?_
            refine wp_iinc (L2 := [(3, _), (2, _), (0, _), (1, _)]) d_Wd_firstInLine_54 rfl rfl (iinc_1) (by decide) rfl ?_
            refine wp_goto (tgt := 4) d_Wd_firstInLine_57 (by decide) ?_
            first | (rw [ff, ho, if_pos hi] at ih; dsimp only at ih; first | (rw [if_pos (nle_lt hc_49)] at ih; exact ih) | (rw [if_neg (le_nlt hc_49)] at ih; exact ih)) | (rw [ff, ho, if_neg hi] at ih; exact ih)
        · refine wp_if_ne_f (tgt := 27) d_Wd_firstInLine_21 (by decide) rfl (by decide) ?_
          refine wp_goto (tgt := 54) d_Wd_firstInLine_24 (by decide) ?_
          refine wp_iinc (L2 := [(3, _), (2, _), (0, _), (1, _)]) d_Wd_firstInLine_54 rfl rfl (iinc_1) (by decide) rfl ?_
          refine wp_goto (tgt := 4) d_Wd_firstInLine_57 (by decide) ?_
          first | (rw [ff, ho, if_pos hi] at ih; dsimp only at ih; first | (rw [if_pos (nle_lt hc_49)] at ih; exact ih) | (rw [if_neg (le_nlt hc_49)] at ih; exact ih)) | (rw [ff, ho, if_neg hi] at ih; exact ih)
  refine ok_of (L := [(0, _), (1, _)]) (by decide) (Nat.le_of_ble_eq_true rfl) rfl ?_
  refine wp_iconst d_Wd_firstInLine_0 rfl ic_m1 ?_
  refine wp_istore_n (L2 := [(2, _), (0, _), (1, _)]) d_Wd_firstInLine_1 rfl (by decide) rfl ?_
  refine wp_iconst d_Wd_firstInLine_2 rfl ic_0 ?_
  refine wp_istore_n (L2 := [(3, _), (2, _), (0, _), (1, _)]) d_Wd_firstInLine_3 rfl (by decide) rfl ?_
  exact lp 0 (Nat.zero_le _)
theorem d_Rf_aimOf_0 : decode M_Rf_aimOf.2.1 0 = .ok (.iconst (-1), 1) := by decide +kernel
theorem d_Rf_aimOf_1 : decode M_Rf_aimOf.2.1 1 = .ok (.istore_n 2, 1) := by decide +kernel
theorem d_Rf_aimOf_2 : decode M_Rf_aimOf.2.1 2 = .ok (.iconst 0, 1) := by decide +kernel
theorem d_Rf_aimOf_3 : decode M_Rf_aimOf.2.1 3 = .ok (.istore_n 3, 1) := by decide +kernel
theorem d_Rf_aimOf_4 : decode M_Rf_aimOf.2.1 4 = .ok (.iload_n 3, 1) := by decide +kernel
theorem d_Rf_aimOf_5 : decode M_Rf_aimOf.2.1 5 = .ok (.bipush 6, 2) := by decide +kernel
theorem d_Rf_aimOf_7 : decode M_Rf_aimOf.2.1 7 = .ok (.if_icmp .ge 75, 3) := by decide +kernel
theorem d_Rf_aimOf_10 : decode M_Rf_aimOf.2.1 10 = .ok (.aload_n 0, 1) := by decide +kernel
theorem d_Rf_aimOf_11 : decode M_Rf_aimOf.2.1 11 = .ok (.getfield 19, 3) := by decide +kernel
theorem d_Rf_aimOf_14 : decode M_Rf_aimOf.2.1 14 = .ok (.bipush 6, 2) := by decide +kernel
theorem d_Rf_aimOf_16 : decode M_Rf_aimOf.2.1 16 = .ok (.iload_n 1, 1) := by decide +kernel
theorem d_Rf_aimOf_17 : decode M_Rf_aimOf.2.1 17 = .ok (.imul, 1) := by decide +kernel
theorem d_Rf_aimOf_18 : decode M_Rf_aimOf.2.1 18 = .ok (.iload_n 3, 1) := by decide +kernel
theorem d_Rf_aimOf_19 : decode M_Rf_aimOf.2.1 19 = .ok (.iadd, 1) := by decide +kernel
theorem d_Rf_aimOf_20 : decode M_Rf_aimOf.2.1 20 = .ok (.iaload, 1) := by decide +kernel
theorem d_Rf_aimOf_21 : decode M_Rf_aimOf.2.1 21 = .ok (.ifCond .le 7, 3) := by decide +kernel
theorem d_Rf_aimOf_24 : decode M_Rf_aimOf.2.1 24 = .ok (.iconst 1, 1) := by decide +kernel
theorem d_Rf_aimOf_25 : decode M_Rf_aimOf.2.1 25 = .ok (.goto 4, 3) := by decide +kernel
theorem d_Rf_aimOf_28 : decode M_Rf_aimOf.2.1 28 = .ok (.iconst 0, 1) := by decide +kernel
theorem d_Rf_aimOf_29 : decode M_Rf_aimOf.2.1 29 = .ok (.istore 4, 2) := by decide +kernel
theorem d_Rf_aimOf_31 : decode M_Rf_aimOf.2.1 31 = .ok (.iload 4, 2) := by decide +kernel
theorem d_Rf_aimOf_33 : decode M_Rf_aimOf.2.1 33 = .ok (.ifCond .eq 41, 3) := by decide +kernel
theorem d_Rf_aimOf_36 : decode M_Rf_aimOf.2.1 36 = .ok (.iload_n 2, 1) := by decide +kernel
theorem d_Rf_aimOf_37 : decode M_Rf_aimOf.2.1 37 = .ok (.iconst (-1), 1) := by decide +kernel
theorem d_Rf_aimOf_38 : decode M_Rf_aimOf.2.1 38 = .ok (.if_icmp .eq 32, 3) := by decide +kernel
theorem d_Rf_aimOf_41 : decode M_Rf_aimOf.2.1 41 = .ok (.aload_n 0, 1) := by decide +kernel
theorem d_Rf_aimOf_42 : decode M_Rf_aimOf.2.1 42 = .ok (.getfield 7, 3) := by decide +kernel
theorem d_Rf_aimOf_45 : decode M_Rf_aimOf.2.1 45 = .ok (.iconst 0, 1) := by decide +kernel
theorem d_Rf_aimOf_46 : decode M_Rf_aimOf.2.1 46 = .ok (.bipush 6, 2) := by decide +kernel
theorem d_Rf_aimOf_48 : decode M_Rf_aimOf.2.1 48 = .ok (.iload_n 1, 1) := by decide +kernel
theorem d_Rf_aimOf_49 : decode M_Rf_aimOf.2.1 49 = .ok (.imul, 1) := by decide +kernel
theorem d_Rf_aimOf_50 : decode M_Rf_aimOf.2.1 50 = .ok (.iadd, 1) := by decide +kernel
theorem d_Rf_aimOf_51 : decode M_Rf_aimOf.2.1 51 = .ok (.iload_n 3, 1) := by decide +kernel
theorem d_Rf_aimOf_52 : decode M_Rf_aimOf.2.1 52 = .ok (.iadd, 1) := by decide +kernel
theorem d_Rf_aimOf_53 : decode M_Rf_aimOf.2.1 53 = .ok (.iaload, 1) := by decide +kernel
theorem d_Rf_aimOf_54 : decode M_Rf_aimOf.2.1 54 = .ok (.aload_n 0, 1) := by decide +kernel
theorem d_Rf_aimOf_55 : decode M_Rf_aimOf.2.1 55 = .ok (.getfield 7, 3) := by decide +kernel
theorem d_Rf_aimOf_58 : decode M_Rf_aimOf.2.1 58 = .ok (.iconst 0, 1) := by decide +kernel
theorem d_Rf_aimOf_59 : decode M_Rf_aimOf.2.1 59 = .ok (.bipush 6, 2) := by decide +kernel
theorem d_Rf_aimOf_61 : decode M_Rf_aimOf.2.1 61 = .ok (.iload_n 1, 1) := by decide +kernel
theorem d_Rf_aimOf_62 : decode M_Rf_aimOf.2.1 62 = .ok (.imul, 1) := by decide +kernel
theorem d_Rf_aimOf_63 : decode M_Rf_aimOf.2.1 63 = .ok (.iadd, 1) := by decide +kernel
theorem d_Rf_aimOf_64 : decode M_Rf_aimOf.2.1 64 = .ok (.iload_n 2, 1) := by decide +kernel
theorem d_Rf_aimOf_65 : decode M_Rf_aimOf.2.1 65 = .ok (.iadd, 1) := by decide +kernel
theorem d_Rf_aimOf_66 : decode M_Rf_aimOf.2.1 66 = .ok (.iaload, 1) := by decide +kernel
theorem d_Rf_aimOf_67 : decode M_Rf_aimOf.2.1 67 = .ok (.if_icmp .le 7, 3) := by decide +kernel
theorem d_Rf_aimOf_70 : decode M_Rf_aimOf.2.1 70 = .ok (.iload_n 3, 1) := by decide +kernel
theorem d_Rf_aimOf_71 : decode M_Rf_aimOf.2.1 71 = .ok (.goto 4, 3) := by decide +kernel
theorem d_Rf_aimOf_74 : decode M_Rf_aimOf.2.1 74 = .ok (.iload_n 2, 1) := by decide +kernel
theorem d_Rf_aimOf_75 : decode M_Rf_aimOf.2.1 75 = .ok (.istore_n 2, 1) := by decide +kernel
theorem d_Rf_aimOf_76 : decode M_Rf_aimOf.2.1 76 = .ok (.iinc 3 1, 3) := by decide +kernel
theorem d_Rf_aimOf_79 : decode M_Rf_aimOf.2.1 79 = .ok (.goto (-75), 3) := by decide +kernel
theorem d_Rf_aimOf_82 : decode M_Rf_aimOf.2.1 82 = .ok (.iload_n 2, 1) := by decide +kernel
theorem d_Rf_aimOf_83 : decode M_Rf_aimOf.2.1 83 = .ok (.ireturn, 1) := by decide +kernel
set_option maxHeartbeats 4000000 in
set_option maxRecDepth 100000 in
theorem ok_Rf_aimOf {D : xD} {N : Nat} {l : Launch} {d : Nat} {c z : T2} {P Q : Nat → Int32} {rest : List va_E} {K : Option Value → List va_E → Prop} {s : Nat} (hs : s < 6) (hK : K (some (.int (ov (am c P s 6)))) (encR D N c z P Q ++ rest)) : Ok D N l d M_Rf_aimOf [.ref (N + 0), .int (nI s)] (encR D N c z P Q ++ rest) 0 0 K := by
  have lp : ∀ b : Nat, b ≤ 6 → Wp D N l (EI M_Rf_aimOf) M_Rf_aimOf (Rm d 0 0) (Qm D N K 0 0) 0 0 4 [(3, .int (nI b)), (2, .int (ov (am c P s b))), (0, .ref (N + 0)), (1, .int (nI s))] [] (encR D N c z P Q ++ rest) := by
    refine up_loop ?_ ?_
    · skip
      refine wp_iload_n d_Rf_aimOf_4 rfl rfl ?_
      refine wp_bipush d_Rf_aimOf_5 rfl bp_6 ?_
      refine wp_icmp_ge_t (tgt := 82) d_Rf_aimOf_7 (by decide) (nI_le (Nat.le_refl _) (by decide)) ?_
      refine wp_iload_n d_Rf_aimOf_82 rfl rfl ?_
      refine wp_iret d_Rf_aimOf_83 rfl (Nat.le_refl _) (Nat.le_refl _) ?_
      exact hK
    · intro b hb ih
      cases ho : am c P s b with
      | none =>
        refine wp_iload_n d_Rf_aimOf_4 rfl rfl ?_
        refine wp_bipush d_Rf_aimOf_5 rfl bp_6 ?_
        refine wp_icmp_ge_f (tgt := 82) d_Rf_aimOf_7 (by decide) rfl (nI_ge hb (by decide)) ?_
        refine wp_aload_n d_Rf_aimOf_10 rfl rfl ?_
        refine wp_get fl_Rf_19 d_Rf_aimOf_11 rfl rfl rfl ?_
        refine wp_bipush d_Rf_aimOf_14 rfl bp_6 ?_
        refine wp_iload_n d_Rf_aimOf_16 rfl rfl ?_
        first | refine wp_imulN d_Rf_aimOf_17 rfl ?_ | refine wp_imul d_Rf_aimOf_17 rfl ?_
        refine wp_iload_n d_Rf_aimOf_18 rfl rfl ?_
        first | refine wp_iaddN d_Rf_aimOf_19 rfl ?_ | refine wp_iadd d_Rf_aimOf_19 rfl ?_
        refine wp_iald d_Rf_aimOf_20 rfl (rfl) (by omega) (by decide) ?_
        refine wp_if_le (tgt := 28) d_Rf_aimOf_21 (by decide) rfl (fun hc_21 => ?_) (fun hc_21 => ?_)
        · refine wp_iconst d_Rf_aimOf_28 rfl ic_0 ?_
          refine wp_istore (L2 := [(4, _), (3, _), (2, _), (0, _), (1, _)]) d_Rf_aimOf_29 rfl (by decide) rfl ?_
          refine wp_iload d_Rf_aimOf_31 rfl rfl ?_
          refine wp_if_eq_t (tgt := 74) d_Rf_aimOf_33 (by decide) (by decide) ?_
          refine wp_iload_n d_Rf_aimOf_74 rfl rfl ?_
          refine wp_istore_n (L2 := [(2, _), (4, _), (3, _), (0, _), (1, _)]) d_Rf_aimOf_75 rfl (by decide) rfl ?_
          refine wp_iinc (L2 := [(3, _), (2, _), (4, _), (0, _), (1, _)]) d_Rf_aimOf_76 rfl rfl (iinc_1) (by decide) rfl ?_
          refine wp_goto (tgt := 4) d_Rf_aimOf_79 (by decide) ?_
          refine wp_sub [0, 1, 3, 4] rfl ?_
          first | (rw [am, ho, if_pos (nle_lt hc_21)] at ih; exact ih) | (rw [am, ho, if_neg (le_nlt hc_21)] at ih; exact ih)
        · refine wp_iconst d_Rf_aimOf_24 rfl ic_1 ?_
          refine wp_goto (tgt := 29) d_Rf_aimOf_25 (by decide) ?_
          refine wp_istore (L2 := [(4, _), (3, _), (2, _), (0, _), (1, _)]) d_Rf_aimOf_29 rfl (by decide) rfl ?_
          refine wp_iload d_Rf_aimOf_31 rfl rfl ?_
          refine wp_if_eq_f (tgt := 74) d_Rf_aimOf_33 (by decide) rfl (by decide) ?_
          refine wp_iload_n d_Rf_aimOf_36 rfl rfl ?_
          refine wp_iconst d_Rf_aimOf_37 rfl ic_m1 ?_
          refine wp_icmp_eq_t (tgt := 70) d_Rf_aimOf_38 (by decide) (rfl) ?_
          refine wp_iload_n d_Rf_aimOf_70 rfl rfl ?_
          refine wp_goto (tgt := 75) d_Rf_aimOf_71 (by decide) ?_
          refine wp_istore_n (L2 := [(2, _), (4, _), (3, _), (0, _), (1, _)]) d_Rf_aimOf_75 rfl (by decide) rfl ?_
          refine wp_iinc (L2 := [(3, _), (2, _), (4, _), (0, _), (1, _)]) d_Rf_aimOf_76 rfl rfl (iinc_1) (by decide) rfl ?_
          refine wp_goto (tgt := 4) d_Rf_aimOf_79 (by decide) ?_
          refine wp_sub [0, 1, 3, 4] rfl ?_
          first | (rw [am, ho, if_pos (nle_lt hc_21)] at ih; exact ih) | (rw [am, ho, if_neg (le_nlt hc_21)] at ih; exact ih)
      | some j =>
        have hj := am_lt ho
        refine wp_iload_n d_Rf_aimOf_4 rfl rfl ?_
        refine wp_bipush d_Rf_aimOf_5 rfl bp_6 ?_
        refine wp_icmp_ge_f (tgt := 82) d_Rf_aimOf_7 (by decide) rfl (nI_ge hb (by decide)) ?_
        refine wp_aload_n d_Rf_aimOf_10 rfl rfl ?_
        refine wp_get fl_Rf_19 d_Rf_aimOf_11 rfl rfl rfl ?_
        refine wp_bipush d_Rf_aimOf_14 rfl bp_6 ?_
        refine wp_iload_n d_Rf_aimOf_16 rfl rfl ?_
        first | refine wp_imulN d_Rf_aimOf_17 rfl ?_ | refine wp_imul d_Rf_aimOf_17 rfl ?_
        refine wp_iload_n d_Rf_aimOf_18 rfl rfl ?_
        first | refine wp_iaddN d_Rf_aimOf_19 rfl ?_ | refine wp_iadd d_Rf_aimOf_19 rfl ?_
        refine wp_iald d_Rf_aimOf_20 rfl (rfl) (by omega) (by decide) ?_
        refine wp_if_le (tgt := 28) d_Rf_aimOf_21 (by decide) rfl (fun hc_21 => ?_) (fun hc_21 => ?_)
        · refine wp_iconst d_Rf_aimOf_28 rfl ic_0 ?_
          refine wp_istore (L2 := [(4, _), (3, _), (2, _), (0, _), (1, _)]) d_Rf_aimOf_29 rfl (by decide) rfl ?_
          refine wp_iload d_Rf_aimOf_31 rfl rfl ?_
          refine wp_if_eq_t (tgt := 74) d_Rf_aimOf_33 (by decide) (by decide) ?_
          refine wp_iload_n d_Rf_aimOf_74 rfl rfl ?_
          refine wp_istore_n (L2 := [(2, _), (4, _), (3, _), (0, _), (1, _)]) d_Rf_aimOf_75 rfl (by decide) rfl ?_
          refine wp_iinc (L2 := [(3, _), (2, _), (4, _), (0, _), (1, _)]) d_Rf_aimOf_76 rfl rfl (iinc_1) (by decide) rfl ?_
          refine wp_goto (tgt := 4) d_Rf_aimOf_79 (by decide) ?_
          refine wp_sub [0, 1, 3, 4] rfl ?_
          first | (rw [am, ho, if_pos (nle_lt hc_21)] at ih; dsimp only at ih; first | (rw [if_pos (nle_lt hc_67)] at ih; exact ih) | (rw [if_neg (le_nlt hc_67)] at ih; exact ih)) | (rw [am, ho, if_neg (le_nlt hc_21)] at ih; exact ih)
        · refine wp_iconst d_Rf_aimOf_24 rfl ic_1 ?_
          refine wp_goto (tgt := 29) d_Rf_aimOf_25 (by decide) ?_
          refine wp_istore (L2 := [(4, _), (3, _), (2, _), (0, _), (1, _)]) d_Rf_aimOf_29 rfl (by decide) rfl ?_
          refine wp_iload d_Rf_aimOf_31 rfl rfl ?_
          refine wp_if_eq_f (tgt := 74) d_Rf_aimOf_33 (by decide) rfl (by decide) ?_
          refine wp_iload_n d_Rf_aimOf_36 rfl rfl ?_
          refine wp_iconst d_Rf_aimOf_37 rfl ic_m1 ?_
          refine wp_icmp_eq_f (tgt := 70) d_Rf_aimOf_38 (by decide) rfl (nI_nm1 (by omega)) ?_
          refine wp_aload_n d_Rf_aimOf_41 rfl rfl ?_
          refine wp_get fl_Rf_7 d_Rf_aimOf_42 rfl rfl rfl ?_
          refine wp_iconst d_Rf_aimOf_45 rfl ic_0 ?_
          refine wp_bipush d_Rf_aimOf_46 rfl bp_6 ?_
          refine wp_iload_n d_Rf_aimOf_48 rfl rfl ?_
          first | refine wp_imulN d_Rf_aimOf_49 rfl ?_ | refine wp_imul d_Rf_aimOf_49 rfl ?_
          first | refine wp_iaddN d_Rf_aimOf_50 rfl ?_ | refine wp_iadd d_Rf_aimOf_50 rfl ?_
          refine wp_iload_n d_Rf_aimOf_51 rfl rfl ?_
          first | refine wp_iaddN d_Rf_aimOf_52 rfl ?_ | refine wp_iadd d_Rf_aimOf_52 rfl ?_
          rw [Nat.zero_add]
          refine wp_iald d_Rf_aimOf_53 rfl (rfl) (by omega) (by decide) ?_
          refine wp_aload_n d_Rf_aimOf_54 rfl rfl ?_
          refine wp_get fl_Rf_7 d_Rf_aimOf_55 rfl rfl rfl ?_
          refine wp_iconst d_Rf_aimOf_58 rfl ic_0 ?_
          refine wp_bipush d_Rf_aimOf_59 rfl bp_6 ?_
          refine wp_iload_n d_Rf_aimOf_61 rfl rfl ?_
          first | refine wp_imulN d_Rf_aimOf_62 rfl ?_ | refine wp_imul d_Rf_aimOf_62 rfl ?_
          first | refine wp_iaddN d_Rf_aimOf_63 rfl ?_ | refine wp_iadd d_Rf_aimOf_63 rfl ?_
          refine wp_iload_n d_Rf_aimOf_64 rfl rfl ?_
          first | refine wp_iaddN d_Rf_aimOf_65 rfl ?_ | refine wp_iadd d_Rf_aimOf_65 rfl ?_
          rw [Nat.zero_add]
          refine wp_iald d_Rf_aimOf_66 rfl (rfl) (by omega) (by decide) ?_
          refine wp_icmp_le (tgt := 74) d_Rf_aimOf_67 (by decide) rfl (fun hc_67 => ?_) (fun hc_67 => ?_)
          · refine wp_iload_n d_Rf_aimOf_74 rfl rfl ?_
            refine wp_istore_n (L2 := [(2, _), (4, _), (3, _), (0, _), (1, _)]) d_Rf_aimOf_75 rfl (by decide) rfl ?_
            refine wp_iinc (L2 := [(3, _), (2, _), (4, _), (0, _), (1, _)]) d_Rf_aimOf_76 rfl rfl (iinc_1) (by decide) rfl ?_
            refine wp_goto (tgt := 4) d_Rf_aimOf_79 (by decide) ?_
            refine wp_sub [0, 1, 3, 4] rfl ?_
            first | (rw [am, ho, if_pos (nle_lt hc_21)] at ih; dsimp only at ih; first | (rw [if_pos (nle_lt hc_67)] at ih; exact ih) | (rw [if_neg (le_nlt hc_67)] at ih; exact ih)) | (rw [am, ho, if_neg (le_nlt hc_21)] at ih; exact ih)
          · refine wp_iload_n d_Rf_aimOf_70 rfl rfl ?_
            refine wp_goto (tgt := 75) d_Rf_aimOf_71 (by decide) ?_
            refine wp_istore_n (L2 := [(2, _), (4, _), (3, _), (0, _), (1, _)]) d_Rf_aimOf_75 rfl (by decide) rfl ?_
            refine wp_iinc (L2 := [(3, _), (2, _), (4, _), (0, _), (1, _)]) d_Rf_aimOf_76 rfl rfl (iinc_1) (by decide) rfl ?_
            refine wp_goto (tgt := 4) d_Rf_aimOf_79 (by decide) ?_
            refine wp_sub [0, 1, 3, 4] rfl ?_
            first | (rw [am, ho, if_pos (nle_lt hc_21)] at ih; dsimp only at ih; first | (rw [if_pos (nle_lt hc_67)] at ih; exact ih) | (rw [if_neg (le_nlt hc_67)] at ih; exact ih)) | (rw [am, ho, if_neg (le_nlt hc_21)] at ih; exact ih)
  refine ok_of (L := [(0, _), (1, _)]) (by decide) (Nat.le_of_ble_eq_true rfl) rfl ?_
  refine wp_iconst d_Rf_aimOf_0 rfl ic_m1 ?_
  refine wp_istore_n (L2 := [(2, _), (0, _), (1, _)]) d_Rf_aimOf_1 rfl (by decide) rfl ?_
  refine wp_iconst d_Rf_aimOf_2 rfl ic_0 ?_
  refine wp_istore_n (L2 := [(3, _), (2, _), (0, _), (1, _)]) d_Rf_aimOf_3 rfl (by decide) rfl ?_
  exact lp 0 (Nat.zero_le _)
theorem d_Tn_mostWanted_0 : decode M_Tn_mostWanted.2.1 0 = .ok (.iconst (-1), 1) := by decide +kernel
theorem d_Tn_mostWanted_1 : decode M_Tn_mostWanted.2.1 1 = .ok (.istore_n 3, 1) := by decide +kernel
theorem d_Tn_mostWanted_2 : decode M_Tn_mostWanted.2.1 2 = .ok (.iconst 0, 1) := by decide +kernel
theorem d_Tn_mostWanted_3 : decode M_Tn_mostWanted.2.1 3 = .ok (.istore 4, 2) := by decide +kernel
theorem d_Tn_mostWanted_5 : decode M_Tn_mostWanted.2.1 5 = .ok (.iload 4, 2) := by decide +kernel
theorem d_Tn_mostWanted_7 : decode M_Tn_mostWanted.2.1 7 = .ok (.bipush 6, 2) := by decide +kernel
theorem d_Tn_mostWanted_9 : decode M_Tn_mostWanted.2.1 9 = .ok (.if_icmp .ge 60, 3) := by decide +kernel
theorem d_Tn_mostWanted_12 : decode M_Tn_mostWanted.2.1 12 = .ok (.aload_n 0, 1) := by decide +kernel
theorem d_Tn_mostWanted_13 : decode M_Tn_mostWanted.2.1 13 = .ok (.getfield 9, 3) := by decide +kernel
theorem d_Tn_mostWanted_16 : decode M_Tn_mostWanted.2.1 16 = .ok (.iload_n 2, 1) := by decide +kernel
theorem d_Tn_mostWanted_17 : decode M_Tn_mostWanted.2.1 17 = .ok (.bipush 6, 2) := by decide +kernel
theorem d_Tn_mostWanted_19 : decode M_Tn_mostWanted.2.1 19 = .ok (.imul, 1) := by decide +kernel
theorem d_Tn_mostWanted_20 : decode M_Tn_mostWanted.2.1 20 = .ok (.iload 4, 2) := by decide +kernel
theorem d_Tn_mostWanted_22 : decode M_Tn_mostWanted.2.1 22 = .ok (.iadd, 1) := by decide +kernel
theorem d_Tn_mostWanted_23 : decode M_Tn_mostWanted.2.1 23 = .ok (.iaload, 1) := by decide +kernel
theorem d_Tn_mostWanted_24 : decode M_Tn_mostWanted.2.1 24 = .ok (.ifCond .ne 6, 3) := by decide +kernel
theorem d_Tn_mostWanted_27 : decode M_Tn_mostWanted.2.1 27 = .ok (.goto 36, 3) := by decide +kernel
theorem d_Tn_mostWanted_30 : decode M_Tn_mostWanted.2.1 30 = .ok (.iload_n 3, 1) := by decide +kernel
theorem d_Tn_mostWanted_31 : decode M_Tn_mostWanted.2.1 31 = .ok (.ifCond .lt 29, 3) := by decide +kernel
theorem d_Tn_mostWanted_34 : decode M_Tn_mostWanted.2.1 34 = .ok (.aload_n 1, 1) := by decide +kernel
theorem d_Tn_mostWanted_35 : decode M_Tn_mostWanted.2.1 35 = .ok (.getfield 149, 3) := by decide +kernel
theorem d_Tn_mostWanted_38 : decode M_Tn_mostWanted.2.1 38 = .ok (.iload_n 2, 1) := by decide +kernel
theorem d_Tn_mostWanted_39 : decode M_Tn_mostWanted.2.1 39 = .ok (.bipush 6, 2) := by decide +kernel
theorem d_Tn_mostWanted_41 : decode M_Tn_mostWanted.2.1 41 = .ok (.imul, 1) := by decide +kernel
theorem d_Tn_mostWanted_42 : decode M_Tn_mostWanted.2.1 42 = .ok (.iload 4, 2) := by decide +kernel
theorem d_Tn_mostWanted_44 : decode M_Tn_mostWanted.2.1 44 = .ok (.iadd, 1) := by decide +kernel
theorem d_Tn_mostWanted_45 : decode M_Tn_mostWanted.2.1 45 = .ok (.iaload, 1) := by decide +kernel
theorem d_Tn_mostWanted_46 : decode M_Tn_mostWanted.2.1 46 = .ok (.aload_n 1, 1) := by decide +kernel
theorem d_Tn_mostWanted_47 : decode M_Tn_mostWanted.2.1 47 = .ok (.getfield 149, 3) := by decide +kernel
theorem d_Tn_mostWanted_50 : decode M_Tn_mostWanted.2.1 50 = .ok (.iload_n 2, 1) := by decide +kernel
theorem d_Tn_mostWanted_51 : decode M_Tn_mostWanted.2.1 51 = .ok (.bipush 6, 2) := by decide +kernel
theorem d_Tn_mostWanted_53 : decode M_Tn_mostWanted.2.1 53 = .ok (.imul, 1) := by decide +kernel
theorem d_Tn_mostWanted_54 : decode M_Tn_mostWanted.2.1 54 = .ok (.iload_n 3, 1) := by decide +kernel
theorem d_Tn_mostWanted_55 : decode M_Tn_mostWanted.2.1 55 = .ok (.iadd, 1) := by decide +kernel
theorem d_Tn_mostWanted_56 : decode M_Tn_mostWanted.2.1 56 = .ok (.iaload, 1) := by decide +kernel
theorem d_Tn_mostWanted_57 : decode M_Tn_mostWanted.2.1 57 = .ok (.if_icmp .le 6, 3) := by decide +kernel
theorem d_Tn_mostWanted_60 : decode M_Tn_mostWanted.2.1 60 = .ok (.iload 4, 2) := by decide +kernel
theorem d_Tn_mostWanted_62 : decode M_Tn_mostWanted.2.1 62 = .ok (.istore_n 3, 1) := by decide +kernel
theorem d_Tn_mostWanted_63 : decode M_Tn_mostWanted.2.1 63 = .ok (.iinc 4 1, 3) := by decide +kernel
theorem d_Tn_mostWanted_66 : decode M_Tn_mostWanted.2.1 66 = .ok (.goto (-61), 3) := by decide +kernel
theorem d_Tn_mostWanted_69 : decode M_Tn_mostWanted.2.1 69 = .ok (.iload_n 3, 1) := by decide +kernel
theorem d_Tn_mostWanted_70 : decode M_Tn_mostWanted.2.1 70 = .ok (.ireturn, 1) := by decide +kernel
set_option maxHeartbeats 4000000 in
set_option maxRecDepth 100000 in
theorem ok_Tn_mostWanted {D : xD} {N : Nat} {l : Launch} {d : Nat} {c x V : T2} {P : Nat → Int32} {w : Nat} {ln df : Nat → Option Nat} {rest : List va_E} {K : Option Value → List va_E → Prop} (hw : w < 3) (hr0 : ∀ i, i < 36 → (0 < c 2 i ↔ ¬ c 2 i = 0)) {s : Nat} (hs : s < 6) (hK : K (some (.int (ov (am c P s 6)))) (encC D N c x (va_up V w P) ln df ++ rest)) : Ok D N l d M_Tn_mostWanted [.ref (N + 1), .ref (N + wA w), .int (nI s)] (encC D N c x (va_up V w P) ln df ++ rest) 0 0 K := by
  have lp : ∀ b : Nat, b ≤ 6 → Wp D N l (EI M_Tn_mostWanted) M_Tn_mostWanted (Rm d 0 0) (Qm D N K 0 0) 0 0 5 [(4, .int (nI b)), (3, .int (ov (am c P s b))), (0, .ref (N + 1)), (1, .ref (N + wA w)), (2, .int (nI s))] [] (encC D N c x (va_up V w P) ln df ++ rest) := by
    refine up_loop ?_ ?_
    · skip
      refine wp_iload d_Tn_mostWanted_5 rfl rfl ?_
      refine wp_bipush d_Tn_mostWanted_7 rfl bp_6 ?_
      refine wp_icmp_ge_t (tgt := 69) d_Tn_mostWanted_9 (by decide) (nI_le (Nat.le_refl _) (by decide)) ?_
      refine wp_iload_n d_Tn_mostWanted_69 rfl rfl ?_
      refine wp_iret d_Tn_mostWanted_70 rfl (Nat.le_refl _) (Nat.le_refl _) ?_
      exact hK
    · intro b hb ih
      cases ho : am c P s b with
      | none =>
        refine wp_iload d_Tn_mostWanted_5 rfl rfl ?_
        refine wp_bipush d_Tn_mostWanted_7 rfl bp_6 ?_
        refine wp_icmp_ge_f (tgt := 69) d_Tn_mostWanted_9 (by decide) rfl (nI_ge hb (by decide)) ?_
        refine wp_aload_n d_Tn_mostWanted_12 rfl rfl ?_
        refine wp_get fl_Tn_9 d_Tn_mostWanted_13 rfl rfl rfl ?_
        refine wp_iload_n d_Tn_mostWanted_16 rfl rfl ?_
        refine wp_bipush d_Tn_mostWanted_17 rfl bp_6 ?_
        first | refine wp_imulC d_Tn_mostWanted_19 rfl ?_ | refine wp_imul d_Tn_mostWanted_19 rfl ?_
        refine wp_iload d_Tn_mostWanted_20 rfl rfl ?_
        first | refine wp_iaddN d_Tn_mostWanted_22 rfl ?_ | refine wp_iadd d_Tn_mostWanted_22 rfl ?_
        refine wp_iald d_Tn_mostWanted_23 rfl (rfl) (by omega) (by decide) ?_
        refine wp_if_ne (tgt := 30) d_Tn_mostWanted_24 (by decide) rfl (fun hc_24 => ?_) (fun hc_24 => ?_)
        · refine wp_iload_n d_Tn_mostWanted_30 rfl rfl ?_
          refine wp_if_lt_t (tgt := 60) d_Tn_mostWanted_31 (by decide) (by decide) ?_
          refine wp_iload d_Tn_mostWanted_60 rfl rfl ?_
          refine wp_istore_n (L2 := [(3, _), (4, _), (0, _), (1, _), (2, _)]) d_Tn_mostWanted_62 rfl (by decide) rfl ?_
          refine wp_iinc (L2 := [(4, _), (3, _), (0, _), (1, _), (2, _)]) d_Tn_mostWanted_63 rfl rfl (iinc_1) (by decide) rfl ?_
          refine wp_goto (tgt := 5) d_Tn_mostWanted_66 (by decide) ?_
          first | (rw [am, ho, if_pos ((hr0 _ (by omega)).mpr hc_24)] at ih; exact ih) | (rw [am, ho, if_neg (fun z => (hr0 _ (by omega)).mp z hc_24)] at ih; exact ih)
        · refine wp_goto (tgt := 63) d_Tn_mostWanted_27 (by decide) ?_
          refine wp_iinc (L2 := [(4, _), (3, _), (0, _), (1, _), (2, _)]) d_Tn_mostWanted_63 rfl rfl (iinc_1) (by decide) rfl ?_
          refine wp_goto (tgt := 5) d_Tn_mostWanted_66 (by decide) ?_
          first | (rw [am, ho, if_pos ((hr0 _ (by omega)).mpr hc_24)] at ih; exact ih) | (rw [am, ho, if_neg (fun z => (hr0 _ (by omega)).mp z hc_24)] at ih; exact ih)
      | some j =>
        have hj := am_lt ho
        refine wp_iload d_Tn_mostWanted_5 rfl rfl ?_
        refine wp_bipush d_Tn_mostWanted_7 rfl bp_6 ?_
        refine wp_icmp_ge_f (tgt := 69) d_Tn_mostWanted_9 (by decide) rfl (nI_ge hb (by decide)) ?_
        refine wp_aload_n d_Tn_mostWanted_12 rfl rfl ?_
        refine wp_get fl_Tn_9 d_Tn_mostWanted_13 rfl rfl rfl ?_
        refine wp_iload_n d_Tn_mostWanted_16 rfl rfl ?_
        refine wp_bipush d_Tn_mostWanted_17 rfl bp_6 ?_
        first | refine wp_imulC d_Tn_mostWanted_19 rfl ?_ | refine wp_imul d_Tn_mostWanted_19 rfl ?_
        refine wp_iload d_Tn_mostWanted_20 rfl rfl ?_
        first | refine wp_iaddN d_Tn_mostWanted_22 rfl ?_ | refine wp_iadd d_Tn_mostWanted_22 rfl ?_
        refine wp_iald d_Tn_mostWanted_23 rfl (rfl) (by omega) (by decide) ?_
        refine wp_if_ne (tgt := 30) d_Tn_mostWanted_24 (by decide) rfl (fun hc_24 => ?_) (fun hc_24 => ?_)
        · refine wp_iload_n d_Tn_mostWanted_30 rfl rfl ?_
          refine wp_if_lt_f (tgt := 60) d_Tn_mostWanted_31 (by decide) rfl (nI_pos (by omega)) ?_
          refine wp_aload_n d_Tn_mostWanted_34 rfl rfl ?_
          refine wp_get fl_Tn_149 d_Tn_mostWanted_35 rfl (rdO (w := w) hw) rfl ?_
          refine wp_iload_n d_Tn_mostWanted_38 rfl rfl ?_
          refine wp_bipush d_Tn_mostWanted_39 rfl bp_6 ?_
          first | refine wp_imulC d_Tn_mostWanted_41 rfl ?_ | refine wp_imul d_Tn_mostWanted_41 rfl ?_
          refine wp_iload d_Tn_mostWanted_42 rfl rfl ?_
          first | refine wp_iaddN d_Tn_mostWanted_44 rfl ?_ | refine wp_iadd d_Tn_mostWanted_44 rfl ?_
          refine wp_iald d_Tn_mostWanted_45 rfl (rd1 (w := w) hw) (by omega) (by decide) ?_
          refine wp_aload_n d_Tn_mostWanted_46 rfl rfl ?_
          refine wp_get fl_Tn_149 d_Tn_mostWanted_47 rfl (rdO (w := w) hw) rfl ?_
          refine wp_iload_n d_Tn_mostWanted_50 rfl rfl ?_
          refine wp_bipush d_Tn_mostWanted_51 rfl bp_6 ?_
          first | refine wp_imulC d_Tn_mostWanted_53 rfl ?_ | refine wp_imul d_Tn_mostWanted_53 rfl ?_
          refine wp_iload_n d_Tn_mostWanted_54 rfl rfl ?_
          first | refine wp_iaddN d_Tn_mostWanted_55 rfl ?_ | refine wp_iadd d_Tn_mostWanted_55 rfl ?_
          refine wp_iald d_Tn_mostWanted_56 rfl (rd1 (w := w) hw) (by omega) (by decide) ?_
          rw [sl_at (show 6 * s + b < 36 by omega), sl_at (show 6 * s + j < 36 by omega), Nat.zero_add, Nat.zero_add]
          refine wp_icmp_le (tgt := 63) d_Tn_mostWanted_57 (by decide) rfl (fun hc_57 => ?_) (fun hc_57 => ?_)
          · refine wp_iinc (L2 := [(4, _), (3, _), (0, _), (1, _), (2, _)]) d_Tn_mostWanted_63 rfl rfl (iinc_1) (by decide) rfl ?_
            refine wp_goto (tgt := 5) d_Tn_mostWanted_66 (by decide) ?_
            first | (rw [am, ho, if_pos ((hr0 _ (by omega)).mpr hc_24)] at ih; dsimp only at ih; first | (rw [if_pos (nle_lt hc_57)] at ih; exact ih) | (rw [if_neg (le_nlt hc_57)] at ih; exact ih)) | (rw [am, ho, if_neg (fun z => (hr0 _ (by omega)).mp z hc_24)] at ih; exact ih)
          · refine wp_iload d_Tn_mostWanted_60 rfl rfl ?_
            refine wp_istore_n (L2 := [(3, _), (4, _), (0, _), (1, _), (2, _)]) d_Tn_mostWanted_62 rfl (by decide) rfl ?_
            refine wp_iinc (L2 := [(4, _), (3, _), (0, _), (1, _), (2, _)]) d_Tn_mostWanted_63 rfl rfl (iinc_1) (by decide) rfl ?_
            refine wp_goto (tgt := 5) d_Tn_mostWanted_66 (by decide) ?_
            first | (rw [am, ho, if_pos ((hr0 _ (by omega)).mpr hc_24)] at ih; dsimp only at ih; first | (rw [if_pos (nle_lt hc_57)] at ih; exact ih) | (rw [if_neg (le_nlt hc_57)] at ih; exact ih)) | (rw [am, ho, if_neg (fun z => (hr0 _ (by omega)).mp z hc_24)] at ih; exact ih)
        · refine wp_goto (tgt := 63) d_Tn_mostWanted_27 (by decide) ?_
          refine wp_iinc (L2 := [(4, _), (3, _), (0, _), (1, _), (2, _)]) d_Tn_mostWanted_63 rfl rfl (iinc_1) (by decide) rfl ?_
          refine wp_goto (tgt := 5) d_Tn_mostWanted_66 (by decide) ?_
          first | (rw [am, ho, if_pos ((hr0 _ (by omega)).mpr hc_24)] at ih; dsimp only at ih; first | (rw [if_pos (nle_lt hc_57)] at ih; exact ih) | (rw [if_neg (le_nlt hc_57)] at ih; exact ih)) | (rw [am, ho, if_neg (fun z => (hr0 _ (by omega)).mp z hc_24)] at ih; exact ih)
  refine ok_of (L := [(0, _), (1, _), (2, _)]) (by decide) (Nat.le_of_ble_eq_true rfl) rfl ?_
  refine wp_iconst d_Tn_mostWanted_0 rfl ic_m1 ?_
  refine wp_istore_n (L2 := [(3, _), (0, _), (1, _), (2, _)]) d_Tn_mostWanted_1 rfl (by decide) rfl ?_
  refine wp_iconst d_Tn_mostWanted_2 rfl ic_0 ?_
  refine wp_istore (L2 := [(4, _), (3, _), (0, _), (1, _), (2, _)]) d_Tn_mostWanted_3 rfl (by decide) rfl ?_
  exact lp 0 (Nat.zero_le _)
