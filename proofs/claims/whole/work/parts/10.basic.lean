theorem d_FG_within_0 : decode M_FG_within.2.1 0 = .ok (.iload_n 0, 1) := by decide +kernel
theorem d_FG_within_1 : decode M_FG_within.2.1 1 = .ok (.iload_n 1, 1) := by decide +kernel
theorem d_FG_within_2 : decode M_FG_within.2.1 2 = .ok (.if_icmp .lt 12, 3) := by decide +kernel
theorem d_FG_within_5 : decode M_FG_within.2.1 5 = .ok (.iload_n 0, 1) := by decide +kernel
theorem d_FG_within_6 : decode M_FG_within.2.1 6 = .ok (.iload_n 2, 1) := by decide +kernel
theorem d_FG_within_7 : decode M_FG_within.2.1 7 = .ok (.if_icmp .gt 7, 3) := by decide +kernel
theorem d_FG_within_10 : decode M_FG_within.2.1 10 = .ok (.iconst 1, 1) := by decide +kernel
theorem d_FG_within_11 : decode M_FG_within.2.1 11 = .ok (.goto 4, 3) := by decide +kernel
theorem d_FG_within_14 : decode M_FG_within.2.1 14 = .ok (.iconst 0, 1) := by decide +kernel
theorem d_FG_within_15 : decode M_FG_within.2.1 15 = .ok (.ireturn, 1) := by decide +kernel
theorem d_Rf_in_0 : decode M_Rf_in.2.1 0 = .ok (.iload_n 0, 1) := by decide +kernel
theorem d_Rf_in_1 : decode M_Rf_in.2.1 1 = .ok (.iload_n 1, 1) := by decide +kernel
theorem d_Rf_in_2 : decode M_Rf_in.2.1 2 = .ok (.if_icmp .lt 12, 3) := by decide +kernel
theorem d_Rf_in_5 : decode M_Rf_in.2.1 5 = .ok (.iload_n 0, 1) := by decide +kernel
theorem d_Rf_in_6 : decode M_Rf_in.2.1 6 = .ok (.iload_n 2, 1) := by decide +kernel
theorem d_Rf_in_7 : decode M_Rf_in.2.1 7 = .ok (.if_icmp .gt 7, 3) := by decide +kernel
theorem d_Rf_in_10 : decode M_Rf_in.2.1 10 = .ok (.iconst 1, 1) := by decide +kernel
theorem d_Rf_in_11 : decode M_Rf_in.2.1 11 = .ok (.goto 4, 3) := by decide +kernel
theorem d_Rf_in_14 : decode M_Rf_in.2.1 14 = .ok (.iconst 0, 1) := by decide +kernel
theorem d_Rf_in_15 : decode M_Rf_in.2.1 15 = .ok (.ireturn, 1) := by decide +kernel
theorem d_FG_isStage_0 : decode M_FG_isStage.2.1 0 = .ok (.iload_n 0, 1) := by decide +kernel
theorem d_FG_isStage_1 : decode M_FG_isStage.2.1 1 = .ok (.iconst 0, 1) := by decide +kernel
theorem d_FG_isStage_2 : decode M_FG_isStage.2.1 2 = .ok (.iconst 5, 1) := by decide +kernel
theorem d_FG_isStage_3 : decode M_FG_isStage.2.1 3 = .ok (.invokestatic 61, 3) := by decide +kernel
theorem d_FG_isStage_6 : decode M_FG_isStage.2.1 6 = .ok (.ireturn, 1) := by decide +kernel
theorem d_FG_isKind_0 : decode M_FG_isKind.2.1 0 = .ok (.iload_n 0, 1) := by decide +kernel
theorem d_FG_isKind_1 : decode M_FG_isKind.2.1 1 = .ok (.iconst 0, 1) := by decide +kernel
theorem d_FG_isKind_2 : decode M_FG_isKind.2.1 2 = .ok (.iconst 5, 1) := by decide +kernel
theorem d_FG_isKind_3 : decode M_FG_isKind.2.1 3 = .ok (.invokestatic 61, 3) := by decide +kernel
theorem d_FG_isKind_6 : decode M_FG_isKind.2.1 6 = .ok (.ireturn, 1) := by decide +kernel
theorem d_FG_isSheet_0 : decode M_FG_isSheet.2.1 0 = .ok (.iload_n 0, 1) := by decide +kernel
theorem d_FG_isSheet_1 : decode M_FG_isSheet.2.1 1 = .ok (.iconst 0, 1) := by decide +kernel
theorem d_FG_isSheet_2 : decode M_FG_isSheet.2.1 2 = .ok (.iconst 3, 1) := by decide +kernel
theorem d_FG_isSheet_3 : decode M_FG_isSheet.2.1 3 = .ok (.invokestatic 61, 3) := by decide +kernel
theorem d_FG_isSheet_6 : decode M_FG_isSheet.2.1 6 = .ok (.ireturn, 1) := by decide +kernel
theorem d_Rf_isStage_0 : decode M_Rf_isStage.2.1 0 = .ok (.iload_n 0, 1) := by decide +kernel
theorem d_Rf_isStage_1 : decode M_Rf_isStage.2.1 1 = .ok (.iconst 0, 1) := by decide +kernel
theorem d_Rf_isStage_2 : decode M_Rf_isStage.2.1 2 = .ok (.iconst 5, 1) := by decide +kernel
theorem d_Rf_isStage_3 : decode M_Rf_isStage.2.1 3 = .ok (.invokestatic 151, 3) := by decide +kernel
theorem d_Rf_isStage_6 : decode M_Rf_isStage.2.1 6 = .ok (.ireturn, 1) := by decide +kernel
set_option maxHeartbeats 4000000 in
set_option maxRecDepth 100000 in
theorem ok_FG_within {D : xD} {N : Nat} {l : Launch} {d : Nat} {g : List va_E} {K : Option Value → List va_E → Prop} {v lo hi : Int32} (h1 : lo ≤ v → v ≤ hi → K (some (.int (nI 1))) g) (h0 : ¬ (lo ≤ v ∧ v ≤ hi) → K (some (.int (nI 0))) g) : Ok D N l d M_FG_within [.int v, .int lo, .int hi] g 0 0 K := by
  refine ok_of (L := [(0, _), (1, _), (2, _)]) (by decide) (Nat.le_of_ble_eq_true rfl) rfl ?_
  refine wp_iload_n d_FG_within_0 rfl rfl ?_
  refine wp_iload_n d_FG_within_1 rfl rfl ?_
  refine wp_icmp_lt (tgt := 14) d_FG_within_2 (by decide) rfl (fun hc_2 => ?_) (fun hc_2 => ?_)
  · refine wp_iconst d_FG_within_14 rfl ic_0 ?_
    refine wp_zret d_FG_within_15 rfl (rfl) (Nat.le_refl _) (Nat.le_refl _) ?_
    first | exact h0 (fun h => absurd h.1 (lt_le hc_2)) | exact h0 (fun h => absurd h.2 (lt_le hc_7))
  · refine wp_iload_n d_FG_within_5 rfl rfl ?_
    refine wp_iload_n d_FG_within_6 rfl rfl ?_
    refine wp_icmp_gt (tgt := 14) d_FG_within_7 (by decide) rfl (fun hc_7 => ?_) (fun hc_7 => ?_)
    · refine wp_iconst d_FG_within_14 rfl ic_0 ?_
      refine wp_zret d_FG_within_15 rfl (rfl) (Nat.le_refl _) (Nat.le_refl _) ?_
      first | exact h0 (fun h => absurd h.1 (lt_le hc_2)) | exact h0 (fun h => absurd h.2 (lt_le hc_7))
    · refine wp_iconst d_FG_within_10 rfl ic_1 ?_
      refine wp_goto (tgt := 15) d_FG_within_11 (by decide) ?_
      refine wp_zret d_FG_within_15 rfl (rfl) (Nat.le_refl _) (Nat.le_refl _) ?_
      exact h1 (nlt_le hc_2) (nlt_le hc_7)
theorem ok_FG_within0 {D : xD} {N : Nat} {l : Launch} {d : Nat} {g : List va_E} {K : Option Value → List va_E → Prop} {v : Int32} {b : Nat} (hb : b < 2147483648) (h1 : ∀ a : Nat, a ≤ b → v = nI a → K (some (.int (nI 1))) g) (h0 : ¬ (nI 0 ≤ v ∧ v ≤ nI b) → K (some (.int (nI 0))) g) : Ok D N l d M_FG_within [.int v, .int (nI 0), .int (nI b)] g 0 0 K :=
  ok_FG_within (fun h2 h3 => by obtain ⟨a, ha, e⟩ := nI_btw hb h2 h3; exact h1 a ha e) h0
set_option maxHeartbeats 4000000 in
set_option maxRecDepth 100000 in
theorem ok_Rf_in {D : xD} {N : Nat} {l : Launch} {d : Nat} {g : List va_E} {K : Option Value → List va_E → Prop} {v lo hi : Int32} (h1 : lo ≤ v → v ≤ hi → K (some (.int (nI 1))) g) (h0 : ¬ (lo ≤ v ∧ v ≤ hi) → K (some (.int (nI 0))) g) : Ok D N l d M_Rf_in [.int v, .int lo, .int hi] g 0 0 K := by
  refine ok_of (L := [(0, _), (1, _), (2, _)]) (by decide) (Nat.le_of_ble_eq_true rfl) rfl ?_
  refine wp_iload_n d_Rf_in_0 rfl rfl ?_
  refine wp_iload_n d_Rf_in_1 rfl rfl ?_
  refine wp_icmp_lt (tgt := 14) d_Rf_in_2 (by decide) rfl (fun hc_2 => ?_) (fun hc_2 => ?_)
  · refine wp_iconst d_Rf_in_14 rfl ic_0 ?_
    refine wp_zret d_Rf_in_15 rfl (rfl) (Nat.le_refl _) (Nat.le_refl _) ?_
    first | exact h0 (fun h => absurd h.1 (lt_le hc_2)) | exact h0 (fun h => absurd h.2 (lt_le hc_7))
  · refine wp_iload_n d_Rf_in_5 rfl rfl ?_
    refine wp_iload_n d_Rf_in_6 rfl rfl ?_
    refine wp_icmp_gt (tgt := 14) d_Rf_in_7 (by decide) rfl (fun hc_7 => ?_) (fun hc_7 => ?_)
    · refine wp_iconst d_Rf_in_14 rfl ic_0 ?_
      refine wp_zret d_Rf_in_15 rfl (rfl) (Nat.le_refl _) (Nat.le_refl _) ?_
      first | exact h0 (fun h => absurd h.1 (lt_le hc_2)) | exact h0 (fun h => absurd h.2 (lt_le hc_7))
    · refine wp_iconst d_Rf_in_10 rfl ic_1 ?_
      refine wp_goto (tgt := 15) d_Rf_in_11 (by decide) ?_
      refine wp_zret d_Rf_in_15 rfl (rfl) (Nat.le_refl _) (Nat.le_refl _) ?_
      exact h1 (nlt_le hc_2) (nlt_le hc_7)
theorem ok_Rf_in0 {D : xD} {N : Nat} {l : Launch} {d : Nat} {g : List va_E} {K : Option Value → List va_E → Prop} {v : Int32} {b : Nat} (hb : b < 2147483648) (h1 : ∀ a : Nat, a ≤ b → v = nI a → K (some (.int (nI 1))) g) (h0 : ¬ (nI 0 ≤ v ∧ v ≤ nI b) → K (some (.int (nI 0))) g) : Ok D N l d M_Rf_in [.int v, .int (nI 0), .int (nI b)] g 0 0 K :=
  ok_Rf_in (fun h2 h3 => by obtain ⟨a, ha, e⟩ := nI_btw hb h2 h3; exact h1 a ha e) h0
set_option maxHeartbeats 4000000 in
set_option maxRecDepth 100000 in
theorem ok_FG_isStage {D : xD} {N : Nat} {l : Launch} {d : Nat} {g : List va_E} {K : Option Value → List va_E → Prop} {v : Int32} (h1 : ∀ a : Nat, a ≤ 5 → v = nI a → K (some (.int (nI 1))) g) (h0 : ¬ (nI 0 ≤ v ∧ v ≤ nI 5) → K (some (.int (nI 0))) g) : Ok D N l (d + 1) M_FG_isStage [.int v] g 0 0 K := by
  refine ok_of (L := [(0, _)]) (by decide) (Nat.le_of_ble_eq_true rfl) rfl ?_
  refine wp_iload_n d_FG_isStage_0 rfl rfl ?_
  refine wp_iconst d_FG_isStage_1 rfl ic_0 ?_
  refine wp_iconst d_FG_isStage_2 rfl ic_5 ?_
  refine wp_cs3 lk_FG_61 (ro _ _ _) d_FG_isStage_3 rfl (Nat.le_of_ble_eq_true rfl) (Nat.zero_le _) (Nat.zero_le _) ?_
  refine ok_FG_within0 (by decide) (fun a ha e => ?_) (fun hn => ?_)
  · refine wp_zret d_FG_isStage_6 rfl (rfl) (Nat.le_refl _) (Nat.le_refl _) ?_
    exact h1 a ha e
  · refine wp_zret d_FG_isStage_6 rfl (rfl) (Nat.le_refl _) (Nat.le_refl _) ?_
    exact h0 hn
set_option maxHeartbeats 4000000 in
set_option maxRecDepth 100000 in
theorem ok_FG_isKind {D : xD} {N : Nat} {l : Launch} {d : Nat} {g : List va_E} {K : Option Value → List va_E → Prop} {v : Int32} (h1 : ∀ a : Nat, a ≤ 5 → v = nI a → K (some (.int (nI 1))) g) (h0 : ¬ (nI 0 ≤ v ∧ v ≤ nI 5) → K (some (.int (nI 0))) g) : Ok D N l (d + 1) M_FG_isKind [.int v] g 0 0 K := by
  refine ok_of (L := [(0, _)]) (by decide) (Nat.le_of_ble_eq_true rfl) rfl ?_
  refine wp_iload_n d_FG_isKind_0 rfl rfl ?_
  refine wp_iconst d_FG_isKind_1 rfl ic_0 ?_
  refine wp_iconst d_FG_isKind_2 rfl ic_5 ?_
  refine wp_cs3 lk_FG_61 (ro _ _ _) d_FG_isKind_3 rfl (Nat.le_of_ble_eq_true rfl) (Nat.zero_le _) (Nat.zero_le _) ?_
  refine ok_FG_within0 (by decide) (fun a ha e => ?_) (fun hn => ?_)
  · refine wp_zret d_FG_isKind_6 rfl (rfl) (Nat.le_refl _) (Nat.le_refl _) ?_
    exact h1 a ha e
  · refine wp_zret d_FG_isKind_6 rfl (rfl) (Nat.le_refl _) (Nat.le_refl _) ?_
    exact h0 hn
set_option maxHeartbeats 4000000 in
set_option maxRecDepth 100000 in
theorem ok_FG_isSheet {D : xD} {N : Nat} {l : Launch} {d : Nat} {g : List va_E} {K : Option Value → List va_E → Prop} {v : Int32} (h1 : ∀ a : Nat, a ≤ 3 → v = nI a → K (some (.int (nI 1))) g) (h0 : ¬ (nI 0 ≤ v ∧ v ≤ nI 3) → K (some (.int (nI 0))) g) : Ok D N l (d + 1) M_FG_isSheet [.int v] g 0 0 K := by
  refine ok_of (L := [(0, _)]) (by decide) (Nat.le_of_ble_eq_true rfl) rfl ?_
  refine wp_iload_n d_FG_isSheet_0 rfl rfl ?_
  refine wp_iconst d_FG_isSheet_1 rfl ic_0 ?_
  refine wp_iconst d_FG_isSheet_2 rfl ic_3 ?_
  refine wp_cs3 lk_FG_61 (ro _ _ _) d_FG_isSheet_3 rfl (Nat.le_of_ble_eq_true rfl) (Nat.zero_le _) (Nat.zero_le _) ?_
  refine ok_FG_within0 (by decide) (fun a ha e => ?_) (fun hn => ?_)
  · refine wp_zret d_FG_isSheet_6 rfl (rfl) (Nat.le_refl _) (Nat.le_refl _) ?_
    exact h1 a ha e
  · refine wp_zret d_FG_isSheet_6 rfl (rfl) (Nat.le_refl _) (Nat.le_refl _) ?_
    exact h0 hn
set_option maxHeartbeats 4000000 in
set_option maxRecDepth 100000 in
theorem ok_Rf_isStage {D : xD} {N : Nat} {l : Launch} {d : Nat} {g : List va_E} {K : Option Value → List va_E → Prop} {v : Int32} (h1 : ∀ a : Nat, a ≤ 5 → v = nI a → K (some (.int (nI 1))) g) (h0 : ¬ (nI 0 ≤ v ∧ v ≤ nI 5) → K (some (.int (nI 0))) g) : Ok D N l (d + 1) M_Rf_isStage [.int v] g 0 0 K := by
  refine ok_of (L := [(0, _)]) (by decide) (Nat.le_of_ble_eq_true rfl) rfl ?_
  refine wp_iload_n d_Rf_isStage_0 rfl rfl ?_
  refine wp_iconst d_Rf_isStage_1 rfl ic_0 ?_
  refine wp_iconst d_Rf_isStage_2 rfl ic_5 ?_
  refine wp_cs3 lk_Rf_151 (ro _ _ _) d_Rf_isStage_3 rfl (Nat.le_of_ble_eq_true rfl) (Nat.zero_le _) (Nat.zero_le _) ?_
  refine ok_Rf_in0 (by decide) (fun a ha e => ?_) (fun hn => ?_)
  · refine wp_zret d_Rf_isStage_6 rfl (rfl) (Nat.le_refl _) (Nat.le_refl _) ?_
    exact h1 a ha e
  · refine wp_zret d_Rf_isStage_6 rfl (rfl) (Nat.le_refl _) (Nat.le_refl _) ?_
    exact h0 hn
theorem d_FG_isBus_0 : decode M_FG_isBus.2.1 0 = .ok (.iload_n 1, 1) := by decide +kernel
theorem d_FG_isBus_1 : decode M_FG_isBus.2.1 1 = .ok (.iconst 0, 1) := by decide +kernel
theorem d_FG_isBus_2 : decode M_FG_isBus.2.1 2 = .ok (.aload_n 0, 1) := by decide +kernel
theorem d_FG_isBus_3 : decode M_FG_isBus.2.1 3 = .ok (.getfield 10, 3) := by decide +kernel
theorem d_FG_isBus_6 : decode M_FG_isBus.2.1 6 = .ok (.getfield 224, 3) := by decide +kernel
theorem d_FG_isBus_9 : decode M_FG_isBus.2.1 9 = .ok (.iconst 1, 1) := by decide +kernel
theorem d_FG_isBus_10 : decode M_FG_isBus.2.1 10 = .ok (.isub, 1) := by decide +kernel
theorem d_FG_isBus_11 : decode M_FG_isBus.2.1 11 = .ok (.invokestatic 61, 3) := by decide +kernel
theorem d_FG_isBus_14 : decode M_FG_isBus.2.1 14 = .ok (.ireturn, 1) := by decide +kernel
set_option maxHeartbeats 4000000 in
set_option maxRecDepth 100000 in
theorem ok_FG_isBus {D : xD} {N : Nat} {l : Launch} {d : Nat} {c x V : T2} {ln df : Nat → Option Nat} {rest : List va_E} {K : Option Value → List va_E → Prop} {b : Int32} {nb : Nat} (hnb : c 32 1 = nI nb) (h12 : nb ≤ 12) (h1 : ∀ a : Nat, a < nb → b = nI a → K (some (.int (nI 1))) (encC D N c x V ln df ++ rest)) (h0 : ¬ (nI 0 ≤ b ∧ b < c 32 1) → K (some (.int (nI 0))) (encC D N c x V ln df ++ rest)) : Ok D N l (d + 1) M_FG_isBus [.ref (N + 0), .int b] (encC D N c x V ln df ++ rest) 0 0 K := by
  refine ok_of (L := [(0, _), (1, _)]) (by decide) (Nat.le_of_ble_eq_true rfl) rfl ?_
  refine wp_iload_n d_FG_isBus_0 rfl rfl ?_
  refine wp_iconst d_FG_isBus_1 rfl ic_0 ?_
  refine wp_aload_n d_FG_isBus_2 rfl rfl ?_
  refine wp_get fl_FG_10 d_FG_isBus_3 rfl rfl rfl ?_
  refine wp_get fl_FG_224 d_FG_isBus_6 rfl rfl rfl ?_
  refine wp_iconst d_FG_isBus_9 rfl ic_1 ?_
  refine wp_isub d_FG_isBus_10 rfl ?_
  refine wp_cs3 lk_FG_61 (ro _ _ _) d_FG_isBus_11 rfl (Nat.le_of_ble_eq_true rfl) (Nat.zero_le _) (Nat.zero_le _) ?_
  refine ok_FG_within (fun e0 e1 => ?_) (fun e0 => ?_)
  · refine wp_zret d_FG_isBus_14 rfl (rfl) (Nat.le_refl _) (Nat.le_refl _) ?_
    obtain ⟨a, ha, e⟩ := (inb_iff hnb (by omega)).mp ((inb_sub hnb (by omega)).mp ⟨e0, e1⟩)
    exact h1 a ha e
  · refine wp_zret d_FG_isBus_14 rfl (rfl) (Nat.le_refl _) (Nat.le_refl _) ?_
    exact h0 (fun h => e0 ((inb_sub hnb (by omega)).mpr h))
theorem d_FG_isMember_0 : decode M_FG_isMember.2.1 0 = .ok (.iload_n 1, 1) := by decide +kernel
theorem d_FG_isMember_1 : decode M_FG_isMember.2.1 1 = .ok (.iconst 0, 1) := by decide +kernel
theorem d_FG_isMember_2 : decode M_FG_isMember.2.1 2 = .ok (.aload_n 0, 1) := by decide +kernel
theorem d_FG_isMember_3 : decode M_FG_isMember.2.1 3 = .ok (.getfield 239, 3) := by decide +kernel
theorem d_FG_isMember_6 : decode M_FG_isMember.2.1 6 = .ok (.iconst 1, 1) := by decide +kernel
theorem d_FG_isMember_7 : decode M_FG_isMember.2.1 7 = .ok (.isub, 1) := by decide +kernel
theorem d_FG_isMember_8 : decode M_FG_isMember.2.1 8 = .ok (.invokestatic 61, 3) := by decide +kernel
theorem d_FG_isMember_11 : decode M_FG_isMember.2.1 11 = .ok (.ireturn, 1) := by decide +kernel
set_option maxHeartbeats 4000000 in
set_option maxRecDepth 100000 in
theorem ok_FG_isMember {D : xD} {N : Nat} {l : Launch} {d : Nat} {c x V : T2} {ln df : Nat → Option Nat} {rest : List va_E} {K : Option Value → List va_E → Prop} {b : Int32} {nb : Nat} (hnm : c 32 4 = nI nb) (hm6 : nb ≤ 6) (h1 : ∀ a : Nat, a < nb → b = nI a → K (some (.int (nI 1))) (encC D N c x V ln df ++ rest)) (h0 : ¬ (nI 0 ≤ b ∧ b < c 32 4) → K (some (.int (nI 0))) (encC D N c x V ln df ++ rest)) : Ok D N l (d + 1) M_FG_isMember [.ref (N + 0), .int b] (encC D N c x V ln df ++ rest) 0 0 K := by
  refine ok_of (L := [(0, _), (1, _)]) (by decide) (Nat.le_of_ble_eq_true rfl) rfl ?_
  refine wp_iload_n d_FG_isMember_0 rfl rfl ?_
  refine wp_iconst d_FG_isMember_1 rfl ic_0 ?_
  refine wp_aload_n d_FG_isMember_2 rfl rfl ?_
  refine wp_get fl_FG_239 d_FG_isMember_3 rfl rfl rfl ?_
  refine wp_iconst d_FG_isMember_6 rfl ic_1 ?_
  refine wp_isub d_FG_isMember_7 rfl ?_
  refine wp_cs3 lk_FG_61 (ro _ _ _) d_FG_isMember_8 rfl (Nat.le_of_ble_eq_true rfl) (Nat.zero_le _) (Nat.zero_le _) ?_
  refine ok_FG_within (fun e0 e1 => ?_) (fun e0 => ?_)
  · refine wp_zret d_FG_isMember_11 rfl (rfl) (Nat.le_refl _) (Nat.le_refl _) ?_
    obtain ⟨a, ha, e⟩ := (inb_iff hnm (by omega)).mp ((inb_sub hnm (by omega)).mp ⟨e0, e1⟩)
    exact h1 a ha e
  · refine wp_zret d_FG_isMember_11 rfl (rfl) (Nat.le_refl _) (Nat.le_refl _) ?_
    exact h0 (fun h => e0 ((inb_sub hnm (by omega)).mpr h))
theorem d_Rf_isBus_0 : decode M_Rf_isBus.2.1 0 = .ok (.iload_n 1, 1) := by decide +kernel
theorem d_Rf_isBus_1 : decode M_Rf_isBus.2.1 1 = .ok (.iconst 0, 1) := by decide +kernel
theorem d_Rf_isBus_2 : decode M_Rf_isBus.2.1 2 = .ok (.aload_n 0, 1) := by decide +kernel
theorem d_Rf_isBus_3 : decode M_Rf_isBus.2.1 3 = .ok (.getfield 155, 3) := by decide +kernel
theorem d_Rf_isBus_6 : decode M_Rf_isBus.2.1 6 = .ok (.iconst 1, 1) := by decide +kernel
theorem d_Rf_isBus_7 : decode M_Rf_isBus.2.1 7 = .ok (.isub, 1) := by decide +kernel
theorem d_Rf_isBus_8 : decode M_Rf_isBus.2.1 8 = .ok (.invokestatic 151, 3) := by decide +kernel
theorem d_Rf_isBus_11 : decode M_Rf_isBus.2.1 11 = .ok (.ireturn, 1) := by decide +kernel
set_option maxHeartbeats 4000000 in
set_option maxRecDepth 100000 in
theorem ok_Rf_isBus {D : xD} {N : Nat} {l : Launch} {d : Nat} {c z : T2} {P Q : Nat → Int32} {rest : List va_E} {K : Option Value → List va_E → Prop} {b : Int32} {nb : Nat} (hnb : c 32 1 = nI nb) (h12 : nb ≤ 12) (h1 : ∀ a : Nat, a < nb → b = nI a → K (some (.int (nI 1))) (encR D N c z P Q ++ rest)) (h0 : ¬ (nI 0 ≤ b ∧ b < c 32 1) → K (some (.int (nI 0))) (encR D N c z P Q ++ rest)) : Ok D N l (d + 1) M_Rf_isBus [.ref (N + 0), .int b] (encR D N c z P Q ++ rest) 0 0 K := by
  refine ok_of (L := [(0, _), (1, _)]) (by decide) (Nat.le_of_ble_eq_true rfl) rfl ?_
  refine wp_iload_n d_Rf_isBus_0 rfl rfl ?_
  refine wp_iconst d_Rf_isBus_1 rfl ic_0 ?_
  refine wp_aload_n d_Rf_isBus_2 rfl rfl ?_
  refine wp_get fl_Rf_155 d_Rf_isBus_3 rfl rfl rfl ?_
  refine wp_iconst d_Rf_isBus_6 rfl ic_1 ?_
  refine wp_isub d_Rf_isBus_7 rfl ?_
  refine wp_cs3 lk_Rf_151 (ro _ _ _) d_Rf_isBus_8 rfl (Nat.le_of_ble_eq_true rfl) (Nat.zero_le _) (Nat.zero_le _) ?_
  refine ok_Rf_in (fun e0 e1 => ?_) (fun e0 => ?_)
  · refine wp_zret d_Rf_isBus_11 rfl (rfl) (Nat.le_refl _) (Nat.le_refl _) ?_
    obtain ⟨a, ha, e⟩ := (inb_iff hnb (by omega)).mp ((inb_sub hnb (by omega)).mp ⟨e0, e1⟩)
    exact h1 a ha e
  · refine wp_zret d_Rf_isBus_11 rfl (rfl) (Nat.le_refl _) (Nat.le_refl _) ?_
    exact h0 (fun h => e0 ((inb_sub hnb (by omega)).mpr h))
theorem d_Rf_isMember_0 : decode M_Rf_isMember.2.1 0 = .ok (.iload_n 1, 1) := by decide +kernel
theorem d_Rf_isMember_1 : decode M_Rf_isMember.2.1 1 = .ok (.iconst 0, 1) := by decide +kernel
theorem d_Rf_isMember_2 : decode M_Rf_isMember.2.1 2 = .ok (.aload_n 0, 1) := by decide +kernel
theorem d_Rf_isMember_3 : decode M_Rf_isMember.2.1 3 = .ok (.getfield 267, 3) := by decide +kernel
theorem d_Rf_isMember_6 : decode M_Rf_isMember.2.1 6 = .ok (.iconst 1, 1) := by decide +kernel
theorem d_Rf_isMember_7 : decode M_Rf_isMember.2.1 7 = .ok (.isub, 1) := by decide +kernel
theorem d_Rf_isMember_8 : decode M_Rf_isMember.2.1 8 = .ok (.invokestatic 151, 3) := by decide +kernel
theorem d_Rf_isMember_11 : decode M_Rf_isMember.2.1 11 = .ok (.ireturn, 1) := by decide +kernel
set_option maxHeartbeats 4000000 in
set_option maxRecDepth 100000 in
theorem ok_Rf_isMember {D : xD} {N : Nat} {l : Launch} {d : Nat} {c z : T2} {P Q : Nat → Int32} {rest : List va_E} {K : Option Value → List va_E → Prop} {b : Int32} {nb : Nat} (hnm : c 32 4 = nI nb) (hm6 : nb ≤ 6) (h1 : ∀ a : Nat, a < nb → b = nI a → K (some (.int (nI 1))) (encR D N c z P Q ++ rest)) (h0 : ¬ (nI 0 ≤ b ∧ b < c 32 4) → K (some (.int (nI 0))) (encR D N c z P Q ++ rest)) : Ok D N l (d + 1) M_Rf_isMember [.ref (N + 0), .int b] (encR D N c z P Q ++ rest) 0 0 K := by
  refine ok_of (L := [(0, _), (1, _)]) (by decide) (Nat.le_of_ble_eq_true rfl) rfl ?_
  refine wp_iload_n d_Rf_isMember_0 rfl rfl ?_
  refine wp_iconst d_Rf_isMember_1 rfl ic_0 ?_
  refine wp_aload_n d_Rf_isMember_2 rfl rfl ?_
  refine wp_get fl_Rf_267 d_Rf_isMember_3 rfl rfl rfl ?_
  refine wp_iconst d_Rf_isMember_6 rfl ic_1 ?_
  refine wp_isub d_Rf_isMember_7 rfl ?_
  refine wp_cs3 lk_Rf_151 (ro _ _ _) d_Rf_isMember_8 rfl (Nat.le_of_ble_eq_true rfl) (Nat.zero_le _) (Nat.zero_le _) ?_
  refine ok_Rf_in (fun e0 e1 => ?_) (fun e0 => ?_)
  · refine wp_zret d_Rf_isMember_11 rfl (rfl) (Nat.le_refl _) (Nat.le_refl _) ?_
    obtain ⟨a, ha, e⟩ := (inb_iff hnm (by omega)).mp ((inb_sub hnm (by omega)).mp ⟨e0, e1⟩)
    exact h1 a ha e
  · refine wp_zret d_Rf_isMember_11 rfl (rfl) (Nat.le_refl _) (Nat.le_refl _) ?_
    exact h0 (fun h => e0 ((inb_sub hnm (by omega)).mpr h))
