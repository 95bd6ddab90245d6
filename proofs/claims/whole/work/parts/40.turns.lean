theorem upd_upd (f : Nat → Int32) (k : Nat) (v w : Int32) : upd (upd f k v) k w = upd f k w := by
  funext i; simp only [upd]; split <;> rfl
def tkF (c : T2) (nm : Nat) : Nat → Nat → Option Nat
  | 0, _ => none
  | f + 1, m => if c 14 m = 0 then some m else tkF c nm f ((m + 1) % nm)
def pdN (c : T2) (e : Int32) : Nat → (Nat → Int32)
  | 0 => c 12
  | k + 1 => if c 14 k = 0 then upd (pdN c e k) k (pdN c e k k + e) else pdN c e k
def alN (c : T2) (e : Int32) : Nat → Int32
  | 0 => nI 0
  | k + 1 => if c 14 k = 0 then alN c e k + e else alN c e k
def ctN (c : T2) : Nat → Nat
  | 0 => 0
  | k + 1 => if c 14 k = 0 then ctN c k + 1 else ctN c k
theorem pd_y {c : T2} {e : Int32} {k : Nat} (h : c 14 k = 0) : pdN c e (k + 1) = upd (pdN c e k) k (pdN c e k k + e) := by rw [pdN, if_pos h]
theorem pd_n {c : T2} {e : Int32} {k : Nat} (h : ¬ c 14 k = 0) : pdN c e (k + 1) = pdN c e k := by rw [pdN, if_neg h]
theorem al_y {c : T2} {e : Int32} {k : Nat} (h : c 14 k = 0) : alN c e (k + 1) = alN c e k + e := by rw [alN, if_pos h]
theorem al_n {c : T2} {e : Int32} {k : Nat} (h : ¬ c 14 k = 0) : alN c e (k + 1) = alN c e k := by rw [alN, if_neg h]
theorem al_ct {c : T2} {e : Nat} : ∀ k, alN c (nI e) k = nI (ctN c k * e)
  | 0 => by rw [alN, ctN, Nat.zero_mul]
  | k + 1 => by
    rw [alN, ctN]
    split
    · rw [al_ct k, nI_add, Nat.add_mul, Nat.one_mul]
    · exact al_ct k
theorem ct_le {c : T2} : ∀ k, ctN c k ≤ k
  | 0 => Nat.le_refl _
  | k + 1 => by have := ct_le (c := c) k; rw [ctN]; split <;> omega
theorem ct_0 {c : T2} : ∀ k, ctN c k = 0 ↔ ∀ m, m < k → ¬ c 14 m = 0
  | 0 => ⟨fun _ m hm => absurd hm (Nat.not_lt_zero _), fun _ => rfl⟩
  | k + 1 => by
    rw [ctN]
    split
    · rename_i h
      exact ⟨fun h2 => absurd h2 (by omega), fun h2 => absurd h (h2 k (by omega))⟩
    · rename_i h
      rw [ct_0 k]
      exact ⟨fun h2 m hm => (Nat.lt_or_ge m k).elim (h2 m) (fun g => by rw [show m = k by omega]; exact h), fun h2 m hm => h2 m (by omega)⟩
theorem pd_0 {c : T2} {e : Int32} : ∀ k, (∀ m, m < k → ¬ c 14 m = 0) → pdN c e k = c 12
  | 0, _ => rfl
  | k + 1, h => by rw [pd_n (h k (by omega))]; exact pd_0 k (fun m hm => h m (by omega))
theorem tk_lt {c : T2} {nm : Nat} (h0 : 0 < nm) : ∀ f m r, m < nm → tkF c nm f m = some r → r < nm ∧ c 14 r = 0
  | 0, _, _, _, h => by cases h
  | f + 1, m, r, hm, h => by
    rw [tkF] at h
    split at h
    · rename_i e; cases h; exact ⟨hm, e⟩
    · exact tk_lt h0 f _ r (Nat.mod_lt _ h0) h
theorem tk_none {c : T2} {nm : Nat} (h0 : 0 < nm) : ∀ f m, m < nm → tkF c nm f m = none → ∀ i, i < f → ¬ c 14 ((m + i) % nm) = 0
  | 0, _, _, _, i, hi => absurd hi (Nat.not_lt_zero _)
  | f + 1, m, hm, h, i, hi => by
    rw [tkF] at h
    split at h
    · cases h
    · rename_i e
      cases i with
      | zero => rw [Nat.add_zero, Nat.mod_eq_of_lt hm]; exact e
      | succ i =>
        have := tk_none h0 f _ (Nat.mod_lt _ h0) h i (by omega)
        rw [Nat.mod_add_mod] at this
        rw [show m + (i + 1) = m + 1 + i by omega]
        exact this
theorem tk_all {c : T2} {nm tu : Nat} (ht : tu < nm) (h : tkF c nm nm tu = none) : ∀ m, m < nm → ¬ c 14 m = 0 := by
  intro m hm
  have h2 := tk_none (by omega) nm tu ht h
  by_cases hx : tu ≤ m
  · have := h2 (m - tu) (by omega)
    rw [show tu + (m - tu) = m by omega, Nat.mod_eq_of_lt hm] at this
    exact this
  · have := h2 (m + nm - tu) (by omega)
    rw [show tu + (m + nm - tu) = m + nm by omega, Nat.add_mod_right, Nat.mod_eq_of_lt hm] at this
    exact this
def sp_turns (c : T2) (nm tu : Nat) : Int32 × T2 := if nm = 0 then (-3, c) else match tkF c nm nm tu with
  | none => (-1, c)
  | some t => (nI t, tput (tput (tput c 12 (pdN c (c 32 5) nm)) 13 (upd (c 13) t (c 13 t + alN c (c 32 5) nm))) 32 (upd (c 32) 6 (nI ((t + 1) % nm))))
theorem d_FG_taker_0 : decode M_FG_taker.2.1 0 = .ok (.aload_n 0, 1) := by decide +kernel
theorem d_FG_taker_1 : decode M_FG_taker.2.1 1 = .ok (.getfield 293, 3) := by decide +kernel
theorem d_FG_taker_4 : decode M_FG_taker.2.1 4 = .ok (.istore_n 1, 1) := by decide +kernel
theorem d_FG_taker_5 : decode M_FG_taker.2.1 5 = .ok (.iconst 0, 1) := by decide +kernel
theorem d_FG_taker_6 : decode M_FG_taker.2.1 6 = .ok (.istore_n 2, 1) := by decide +kernel
theorem d_FG_taker_7 : decode M_FG_taker.2.1 7 = .ok (.iload_n 2, 1) := by decide +kernel
theorem d_FG_taker_8 : decode M_FG_taker.2.1 8 = .ok (.aload_n 0, 1) := by decide +kernel
theorem d_FG_taker_9 : decode M_FG_taker.2.1 9 = .ok (.getfield 239, 3) := by decide +kernel
theorem d_FG_taker_12 : decode M_FG_taker.2.1 12 = .ok (.if_icmp .ge 35, 3) := by decide +kernel
theorem d_FG_taker_15 : decode M_FG_taker.2.1 15 = .ok (.iload_n 1, 1) := by decide +kernel
theorem d_FG_taker_16 : decode M_FG_taker.2.1 16 = .ok (.aload_n 0, 1) := by decide +kernel
theorem d_FG_taker_17 : decode M_FG_taker.2.1 17 = .ok (.getfield 239, 3) := by decide +kernel
theorem d_FG_taker_20 : decode M_FG_taker.2.1 20 = .ok (.if_icmp .lt 5, 3) := by decide +kernel
theorem d_FG_taker_23 : decode M_FG_taker.2.1 23 = .ok (.iconst 0, 1) := by decide +kernel
theorem d_FG_taker_24 : decode M_FG_taker.2.1 24 = .ok (.istore_n 1, 1) := by decide +kernel
theorem d_FG_taker_25 : decode M_FG_taker.2.1 25 = .ok (.aload_n 0, 1) := by decide +kernel
theorem d_FG_taker_26 : decode M_FG_taker.2.1 26 = .ok (.getfield 41, 3) := by decide +kernel
theorem d_FG_taker_29 : decode M_FG_taker.2.1 29 = .ok (.iconst 2, 1) := by decide +kernel
theorem d_FG_taker_30 : decode M_FG_taker.2.1 30 = .ok (.aaload, 1) := by decide +kernel
theorem d_FG_taker_31 : decode M_FG_taker.2.1 31 = .ok (.iload_n 1, 1) := by decide +kernel
theorem d_FG_taker_32 : decode M_FG_taker.2.1 32 = .ok (.iaload, 1) := by decide +kernel
theorem d_FG_taker_33 : decode M_FG_taker.2.1 33 = .ok (.ifCond .ne 5, 3) := by decide +kernel
theorem d_FG_taker_36 : decode M_FG_taker.2.1 36 = .ok (.iload_n 1, 1) := by decide +kernel
theorem d_FG_taker_37 : decode M_FG_taker.2.1 37 = .ok (.ireturn, 1) := by decide +kernel
theorem d_FG_taker_38 : decode M_FG_taker.2.1 38 = .ok (.iinc 1 1, 3) := by decide +kernel
theorem d_FG_taker_41 : decode M_FG_taker.2.1 41 = .ok (.iinc 2 1, 3) := by decide +kernel
theorem d_FG_taker_44 : decode M_FG_taker.2.1 44 = .ok (.goto (-37), 3) := by decide +kernel
theorem d_FG_taker_47 : decode M_FG_taker.2.1 47 = .ok (.iconst (-1), 1) := by decide +kernel
theorem d_FG_taker_48 : decode M_FG_taker.2.1 48 = .ok (.ireturn, 1) := by decide +kernel
set_option maxHeartbeats 4000000 in
set_option maxRecDepth 100000 in
theorem ok_FG_taker {D : xD} {N : Nat} {l : Launch} {d : Nat} {c x V : T2} {ln df : Nat → Option Nat} {rest : List va_E} {K : Option Value → List va_E → Prop} {nm tu : Nat} (hnm : c 32 4 = nI nm) (hm6 : nm ≤ 6) (htu : c 32 6 = nI tu) (ht : tu < nm) (hK : K (some (.int (ov (tkF c nm nm tu)))) (encC D N c x V ln df ++ rest)) : Ok D N l d M_FG_taker [.ref (N + 0)] (encC D N c x V ln df ++ rest) 0 0 K := by
  have lp : ∀ f i m : Nat, i + f = nm → m ≤ nm → K (some (.int (ov (tkF c nm f (m % nm))))) (encC D N c x V ln df ++ rest) → Wp D N l (EI M_FG_taker) M_FG_taker (Rm d 0 0) (Qm D N K 0 0) 0 0 7 [(2, .int (nI i)), (1, .int (nI m)), (0, .ref (N + 0))] [] (encC D N c x V ln df ++ rest) := by
    intro f
    induction f with
    | zero =>
      intro i m hi hm hK
      refine wp_iload_n (q := 8) d_FG_taker_7 rfl rfl ?_
      refine wp_aload_n (q := 9) d_FG_taker_8 rfl rfl ?_
      refine wp_get (q := 12) fl_FG_239 d_FG_taker_9 rfl rfl rfl ?_
      rw [hnm]
      refine wp_icmp_ge_t (tgt := 47) d_FG_taker_12 (by decide) (nI_le (by omega) (by omega)) ?_
      refine wp_iconst (q := 48) d_FG_taker_47 rfl ic_m1 ?_
      refine wp_iret d_FG_taker_48 rfl (Nat.le_refl _) (Nat.le_refl _) ?_
      exact hK
    | succ f ih =>
      intro i m hi hm hK
      by_cases hlt : m < nm
      · rw [Nat.mod_eq_of_lt hlt] at hK
        refine wp_iload_n (q := 8) d_FG_taker_7 rfl rfl ?_
        refine wp_aload_n (q := 9) d_FG_taker_8 rfl rfl ?_
        refine wp_get (q := 12) fl_FG_239 d_FG_taker_9 rfl rfl rfl ?_
        rw [hnm]
        refine wp_icmp_ge_f (q := 15) (tgt := 47) d_FG_taker_12 (by decide) rfl (nI_ge (by omega) (by omega)) ?_
        refine wp_iload_n (q := 16) d_FG_taker_15 rfl rfl ?_
        refine wp_aload_n (q := 17) d_FG_taker_16 rfl rfl ?_
        refine wp_get (q := 20) fl_FG_239 d_FG_taker_17 rfl rfl rfl ?_
        rw [hnm]
        refine wp_icmp_lt_t (tgt := 25) d_FG_taker_20 (by decide) (nI_lt hlt (by omega)) ?_
        refine wp_aload_n (q := 26) d_FG_taker_25 rfl rfl ?_
        refine wp_get (q := 29) fl_FG_41 d_FG_taker_26 rfl rfl rfl ?_
        refine wp_iconst (q := 30) d_FG_taker_29 rfl ic_2 ?_
        refine wp_aldA (q := 31) d_FG_taker_30 rfl (rfl) (by omega) (by decide) (rows_at (by omega)) ?_
        refine wp_iload_n (q := 32) d_FG_taker_31 rfl rfl ?_
        refine wp_iald (q := 33) d_FG_taker_32 rfl (rfl) (by omega) (by decide) ?_
        refine wp_if_ne (q := 36) (tgt := 38) d_FG_taker_33 (by decide) rfl (fun hc_33 => ?_) (fun hc_33 => ?_)
        · refine wp_iinc (q := 41) (L2 := [(1, _), (2, _), (0, _)]) d_FG_taker_38 rfl rfl (iinc_1) (by decide) rfl ?_
          refine wp_iinc (q := 44) (L2 := [(2, _), (1, _), (0, _)]) d_FG_taker_41 rfl rfl (iinc_1) (by decide) rfl ?_
          refine wp_goto (tgt := 7) d_FG_taker_44 (by decide) ?_
          exact ih (i + 1) (m + 1) (by omega) (by omega) (by rw [tkF, if_neg hc_33] at hK; exact hK)
        · refine wp_iload_n (q := 37) d_FG_taker_36 rfl rfl ?_
          refine wp_iret d_FG_taker_37 rfl (Nat.le_refl _) (Nat.le_refl _) ?_
          rw [tkF, if_pos hc_33] at hK; exact hK
      · have hmn : m = nm := by omega
        rw [hmn, Nat.mod_self] at hK
        refine wp_iload_n (q := 8) d_FG_taker_7 rfl rfl ?_
        refine wp_aload_n (q := 9) d_FG_taker_8 rfl rfl ?_
        refine wp_get (q := 12) fl_FG_239 d_FG_taker_9 rfl rfl rfl ?_
        rw [hnm]
        refine wp_icmp_ge_f (q := 15) (tgt := 47) d_FG_taker_12 (by decide) rfl (nI_ge (by omega) (by omega)) ?_
        refine wp_iload_n (q := 16) d_FG_taker_15 rfl rfl ?_
        refine wp_aload_n (q := 17) d_FG_taker_16 rfl rfl ?_
        refine wp_get (q := 20) fl_FG_239 d_FG_taker_17 rfl rfl rfl ?_
        rw [hnm]
        refine wp_icmp_lt_f (q := 23) (tgt := 25) d_FG_taker_20 (by decide) rfl (by rw [hmn]; exact le_nlt (nI_le (Nat.le_refl _) (by omega))) ?_
        refine wp_iconst (q := 24) d_FG_taker_23 rfl ic_0 ?_
        refine wp_istore_n (q := 25) (L2 := [(1, _), (2, _), (0, _)]) d_FG_taker_24 rfl (by decide) rfl ?_
        refine wp_aload_n (q := 26) d_FG_taker_25 rfl rfl ?_
        refine wp_get (q := 29) fl_FG_41 d_FG_taker_26 rfl rfl rfl ?_
        refine wp_iconst (q := 30) d_FG_taker_29 rfl ic_2 ?_
        refine wp_aldA (q := 31) d_FG_taker_30 rfl (rfl) (by omega) (by decide) (rows_at (by omega)) ?_
        refine wp_iload_n (q := 32) d_FG_taker_31 rfl rfl ?_
        refine wp_iald (q := 33) d_FG_taker_32 rfl (rfl) (by omega) (by decide) ?_
        refine wp_if_ne (q := 36) (tgt := 38) d_FG_taker_33 (by decide) rfl (fun hc_33 => ?_) (fun hc_33 => ?_)
        · refine wp_iinc (q := 41) (L2 := [(1, _), (2, _), (0, _)]) d_FG_taker_38 rfl rfl (iinc_1) (by decide) rfl ?_
          refine wp_iinc (q := 44) (L2 := [(2, _), (1, _), (0, _)]) d_FG_taker_41 rfl rfl (iinc_1) (by decide) rfl ?_
          refine wp_goto (tgt := 7) d_FG_taker_44 (by decide) ?_
          exact ih (i + 1) (0 + 1) (by omega) (by omega) (by rw [tkF, if_neg hc_33] at hK; exact hK)
        · refine wp_iload_n (q := 37) d_FG_taker_36 rfl rfl ?_
          refine wp_iret d_FG_taker_37 rfl (Nat.le_refl _) (Nat.le_refl _) ?_
          rw [tkF, if_pos hc_33] at hK; exact hK
  refine ok_of (L := [(0, _)]) (by decide) (Nat.le_of_ble_eq_true rfl) rfl ?_
  refine wp_aload_n (q := 1) d_FG_taker_0 rfl rfl ?_
  refine wp_get (q := 4) fl_FG_293 d_FG_taker_1 rfl rfl rfl ?_
  rw [htu]
  refine wp_istore_n (q := 5) (L2 := [(1, _), (0, _)]) d_FG_taker_4 rfl (by decide) rfl ?_
  refine wp_iconst (q := 6) d_FG_taker_5 rfl ic_0 ?_
  refine wp_istore_n (q := 7) (L2 := [(2, _), (1, _), (0, _)]) d_FG_taker_6 rfl (by decide) rfl ?_
  exact lp nm 0 tu (by omega) (by omega) (by rw [Nat.mod_eq_of_lt ht]; exact hK)
theorem d_FG_turns_0 : decode M_FG_turns.2.1 0 = .ok (.aload_n 0, 1) := by decide +kernel
theorem d_FG_turns_1 : decode M_FG_turns.2.1 1 = .ok (.getfield 239, 3) := by decide +kernel
theorem d_FG_turns_4 : decode M_FG_turns.2.1 4 = .ok (.ifCond .ne 6, 3) := by decide +kernel
theorem d_FG_turns_7 : decode M_FG_turns.2.1 7 = .ok (.bipush (-3), 2) := by decide +kernel
theorem d_FG_turns_9 : decode M_FG_turns.2.1 9 = .ok (.ireturn, 1) := by decide +kernel
theorem d_FG_turns_10 : decode M_FG_turns.2.1 10 = .ok (.aload_n 0, 1) := by decide +kernel
theorem d_FG_turns_11 : decode M_FG_turns.2.1 11 = .ok (.invokevirtual 290, 3) := by decide +kernel
theorem d_FG_turns_14 : decode M_FG_turns.2.1 14 = .ok (.istore_n 1, 1) := by decide +kernel
theorem d_FG_turns_15 : decode M_FG_turns.2.1 15 = .ok (.iload_n 1, 1) := by decide +kernel
theorem d_FG_turns_16 : decode M_FG_turns.2.1 16 = .ok (.ifCond .ge 5, 3) := by decide +kernel
theorem d_FG_turns_19 : decode M_FG_turns.2.1 19 = .ok (.iconst (-1), 1) := by decide +kernel
theorem d_FG_turns_20 : decode M_FG_turns.2.1 20 = .ok (.ireturn, 1) := by decide +kernel
theorem d_FG_turns_21 : decode M_FG_turns.2.1 21 = .ok (.iconst 0, 1) := by decide +kernel
theorem d_FG_turns_22 : decode M_FG_turns.2.1 22 = .ok (.istore_n 2, 1) := by decide +kernel
theorem d_FG_turns_23 : decode M_FG_turns.2.1 23 = .ok (.iload_n 2, 1) := by decide +kernel
theorem d_FG_turns_24 : decode M_FG_turns.2.1 24 = .ok (.aload_n 0, 1) := by decide +kernel
theorem d_FG_turns_25 : decode M_FG_turns.2.1 25 = .ok (.getfield 239, 3) := by decide +kernel
theorem d_FG_turns_28 : decode M_FG_turns.2.1 28 = .ok (.if_icmp .ge 53, 3) := by decide +kernel
theorem d_FG_turns_31 : decode M_FG_turns.2.1 31 = .ok (.aload_n 0, 1) := by decide +kernel
theorem d_FG_turns_32 : decode M_FG_turns.2.1 32 = .ok (.getfield 41, 3) := by decide +kernel
theorem d_FG_turns_35 : decode M_FG_turns.2.1 35 = .ok (.iconst 2, 1) := by decide +kernel
theorem d_FG_turns_36 : decode M_FG_turns.2.1 36 = .ok (.aaload, 1) := by decide +kernel
theorem d_FG_turns_37 : decode M_FG_turns.2.1 37 = .ok (.iload_n 2, 1) := by decide +kernel
theorem d_FG_turns_38 : decode M_FG_turns.2.1 38 = .ok (.iaload, 1) := by decide +kernel
theorem d_FG_turns_39 : decode M_FG_turns.2.1 39 = .ok (.ifCond .eq 6, 3) := by decide +kernel
theorem d_FG_turns_42 : decode M_FG_turns.2.1 42 = .ok (.goto 33, 3) := by decide +kernel
theorem d_FG_turns_45 : decode M_FG_turns.2.1 45 = .ok (.aload_n 0, 1) := by decide +kernel
theorem d_FG_turns_46 : decode M_FG_turns.2.1 46 = .ok (.getfield 41, 3) := by decide +kernel
theorem d_FG_turns_49 : decode M_FG_turns.2.1 49 = .ok (.iconst 0, 1) := by decide +kernel
theorem d_FG_turns_50 : decode M_FG_turns.2.1 50 = .ok (.aaload, 1) := by decide +kernel
theorem d_FG_turns_51 : decode M_FG_turns.2.1 51 = .ok (.iload_n 2, 1) := by decide +kernel
theorem d_FG_turns_52 : decode M_FG_turns.2.1 52 = .ok (.dup2, 1) := by decide +kernel
theorem d_FG_turns_53 : decode M_FG_turns.2.1 53 = .ok (.iaload, 1) := by decide +kernel
theorem d_FG_turns_54 : decode M_FG_turns.2.1 54 = .ok (.aload_n 0, 1) := by decide +kernel
theorem d_FG_turns_55 : decode M_FG_turns.2.1 55 = .ok (.getfield 284, 3) := by decide +kernel
theorem d_FG_turns_58 : decode M_FG_turns.2.1 58 = .ok (.iadd, 1) := by decide +kernel
theorem d_FG_turns_59 : decode M_FG_turns.2.1 59 = .ok (.iastore, 1) := by decide +kernel
theorem d_FG_turns_60 : decode M_FG_turns.2.1 60 = .ok (.aload_n 0, 1) := by decide +kernel
theorem d_FG_turns_61 : decode M_FG_turns.2.1 61 = .ok (.getfield 41, 3) := by decide +kernel
theorem d_FG_turns_64 : decode M_FG_turns.2.1 64 = .ok (.iconst 1, 1) := by decide +kernel
theorem d_FG_turns_65 : decode M_FG_turns.2.1 65 = .ok (.aaload, 1) := by decide +kernel
theorem d_FG_turns_66 : decode M_FG_turns.2.1 66 = .ok (.iload_n 1, 1) := by decide +kernel
theorem d_FG_turns_67 : decode M_FG_turns.2.1 67 = .ok (.dup2, 1) := by decide +kernel
theorem d_FG_turns_68 : decode M_FG_turns.2.1 68 = .ok (.iaload, 1) := by decide +kernel
theorem d_FG_turns_69 : decode M_FG_turns.2.1 69 = .ok (.aload_n 0, 1) := by decide +kernel
theorem d_FG_turns_70 : decode M_FG_turns.2.1 70 = .ok (.getfield 284, 3) := by decide +kernel
theorem d_FG_turns_73 : decode M_FG_turns.2.1 73 = .ok (.iadd, 1) := by decide +kernel
theorem d_FG_turns_74 : decode M_FG_turns.2.1 74 = .ok (.iastore, 1) := by decide +kernel
theorem d_FG_turns_75 : decode M_FG_turns.2.1 75 = .ok (.iinc 2 1, 3) := by decide +kernel
theorem d_FG_turns_78 : decode M_FG_turns.2.1 78 = .ok (.goto (-55), 3) := by decide +kernel
theorem d_FG_turns_81 : decode M_FG_turns.2.1 81 = .ok (.aload_n 0, 1) := by decide +kernel
theorem d_FG_turns_82 : decode M_FG_turns.2.1 82 = .ok (.iload_n 1, 1) := by decide +kernel
theorem d_FG_turns_83 : decode M_FG_turns.2.1 83 = .ok (.iconst 1, 1) := by decide +kernel
theorem d_FG_turns_84 : decode M_FG_turns.2.1 84 = .ok (.iadd, 1) := by decide +kernel
theorem d_FG_turns_85 : decode M_FG_turns.2.1 85 = .ok (.aload_n 0, 1) := by decide +kernel
theorem d_FG_turns_86 : decode M_FG_turns.2.1 86 = .ok (.getfield 239, 3) := by decide +kernel
theorem d_FG_turns_89 : decode M_FG_turns.2.1 89 = .ok (.if_icmp .ge 9, 3) := by decide +kernel
theorem d_FG_turns_92 : decode M_FG_turns.2.1 92 = .ok (.iload_n 1, 1) := by decide +kernel
theorem d_FG_turns_93 : decode M_FG_turns.2.1 93 = .ok (.iconst 1, 1) := by decide +kernel
theorem d_FG_turns_94 : decode M_FG_turns.2.1 94 = .ok (.iadd, 1) := by decide +kernel
theorem d_FG_turns_95 : decode M_FG_turns.2.1 95 = .ok (.goto 4, 3) := by decide +kernel
theorem d_FG_turns_98 : decode M_FG_turns.2.1 98 = .ok (.iconst 0, 1) := by decide +kernel
theorem d_FG_turns_99 : decode M_FG_turns.2.1 99 = .ok (.putfield 293, 3) := by decide +kernel
theorem d_FG_turns_102 : decode M_FG_turns.2.1 102 = .ok (.iload_n 1, 1) := by decide +kernel
theorem d_FG_turns_103 : decode M_FG_turns.2.1 103 = .ok (.ireturn, 1) := by decide +kernel
theorem tp_cm (c : T2) (f g f2 g2 : Nat → Int32) : tput (tput c 12 f2) 13 g2 = tput (tput (tput (tput c 12 f) 13 g) 12 f2) 13 g2 := by
  funext a; simp only [tput]
  repeat' split
  all_goals rfl
set_option maxHeartbeats 4000000 in
set_option maxRecDepth 100000 in
theorem tu_FG_turns {D : xD} {N : Nat} {l : Launch} {d : Nat} {c x V : T2} {ln df : Nat → Option Nat} {rest : List va_E} {K : Option Value → List va_E → Prop} {nm t : Nat} (hnm : c 32 4 = nI nm) (hm6 : nm ≤ 6) (htm : t < nm) (hK : K (some (.int (nI t))) (encC D N (tput (tput (tput c 12 (pdN c (c 32 5) nm)) 13 (upd (c 13) t (c 13 t + alN c (c 32 5) nm))) 32 (upd (c 32) 6 (nI ((t + 1) % nm)))) x V ln df ++ rest)) : Wp D N l (EI M_FG_turns) M_FG_turns (Rm (d + 1) 0 0) (Qm D N K 0 0) 0 0 23 [(2, .int (nI 0)), (1, .int (nI t)), (0, .ref (N + 0))] [] (encC D N c x V ln df ++ rest) := by
  have lp : ∀ k : Nat, k ≤ nm → Wp D N l (EI M_FG_turns) M_FG_turns (Rm (d + 1) 0 0) (Qm D N K 0 0) 0 0 23 [(2, .int (nI k)), (1, .int (nI t)), (0, .ref (N + 0))] [] (encC D N (tput (tput c 12 (pdN c (c 32 5) k)) 13 (upd (c 13) t (c 13 t + alN c (c 32 5) k))) x V ln df ++ rest) := by
    refine up_loop ?_ ?_
    · by_cases htn : t + 1 < nm
      · skip
        refine wp_iload_n (q := 24) d_FG_turns_23 rfl rfl ?_
        refine wp_aload_n (q := 25) d_FG_turns_24 rfl rfl ?_
        refine wp_get (q := 28) fl_FG_239 d_FG_turns_25 rfl rfl rfl ?_
        try simp (disch := omega) only [tput_ne, tput_eq, ne_eq, not_false_eq_true, upd_eq, hnm]
        refine wp_icmp_ge_t (tgt := 81) d_FG_turns_28 (by decide) (nI_le (Nat.le_refl _) (by omega)) ?_
        refine wp_aload_n (q := 82) d_FG_turns_81 rfl rfl ?_
        refine wp_iload_n (q := 83) d_FG_turns_82 rfl rfl ?_
        refine wp_iconst (q := 84) d_FG_turns_83 rfl ic_1 ?_
        first | refine wp_iaddN (q := 85) d_FG_turns_84 rfl ?_ | refine wp_iadd (q := 85) d_FG_turns_84 rfl ?_
        refine wp_aload_n (q := 86) d_FG_turns_85 rfl rfl ?_
        refine wp_get (q := 89) fl_FG_239 d_FG_turns_86 rfl rfl rfl ?_
        try simp (disch := omega) only [tput_ne, tput_eq, ne_eq, not_false_eq_true, upd_eq, hnm]
        refine wp_icmp_ge_f (q := 92) (tgt := 98) d_FG_turns_89 (by decide) rfl (nI_ge htn (by omega)) ?_
        refine wp_iload_n (q := 93) d_FG_turns_92 rfl rfl ?_
        refine wp_iconst (q := 94) d_FG_turns_93 rfl ic_1 ?_
        first | refine wp_iaddN (q := 95) d_FG_turns_94 rfl ?_ | refine wp_iadd (q := 95) d_FG_turns_94 rfl ?_
        refine wp_goto (tgt := 99) d_FG_turns_95 (by decide) ?_
        refine wp_put (q := 102) fl_FG_293 d_FG_turns_99 rfl rfl (Nat.le_of_ble_eq_true rfl) rfl rfl (fc_s6) ?_
        refine wp_iload_n (q := 103) d_FG_turns_102 rfl rfl ?_
        refine wp_iret d_FG_turns_103 rfl (Nat.le_refl _) (Nat.le_refl _) ?_
        rw [Nat.mod_eq_of_lt htn] at hK
        simp (disch := omega) only [tput_ne, ne_eq, not_false_eq_true]; exact hK
      · skip
        refine wp_iload_n (q := 24) d_FG_turns_23 rfl rfl ?_
        refine wp_aload_n (q := 25) d_FG_turns_24 rfl rfl ?_
        refine wp_get (q := 28) fl_FG_239 d_FG_turns_25 rfl rfl rfl ?_
        try simp (disch := omega) only [tput_ne, tput_eq, ne_eq, not_false_eq_true, upd_eq, hnm]
        refine wp_icmp_ge_t (tgt := 81) d_FG_turns_28 (by decide) (nI_le (Nat.le_refl _) (by omega)) ?_
        refine wp_aload_n (q := 82) d_FG_turns_81 rfl rfl ?_
        refine wp_iload_n (q := 83) d_FG_turns_82 rfl rfl ?_
        refine wp_iconst (q := 84) d_FG_turns_83 rfl ic_1 ?_
        first | refine wp_iaddN (q := 85) d_FG_turns_84 rfl ?_ | refine wp_iadd (q := 85) d_FG_turns_84 rfl ?_
        refine wp_aload_n (q := 86) d_FG_turns_85 rfl rfl ?_
        refine wp_get (q := 89) fl_FG_239 d_FG_turns_86 rfl rfl rfl ?_
        try simp (disch := omega) only [tput_ne, tput_eq, ne_eq, not_false_eq_true, upd_eq, hnm]
        refine wp_icmp_ge_t (tgt := 98) d_FG_turns_89 (by decide) (nI_le (by omega) (by omega)) ?_
        refine wp_iconst (q := 99) d_FG_turns_98 rfl ic_0 ?_
        refine wp_put (q := 102) fl_FG_293 d_FG_turns_99 rfl rfl (Nat.le_of_ble_eq_true rfl) rfl rfl (fc_s6) ?_
        refine wp_iload_n (q := 103) d_FG_turns_102 rfl rfl ?_
        refine wp_iret d_FG_turns_103 rfl (Nat.le_refl _) (Nat.le_refl _) ?_
        rw [show t + 1 = nm by omega, Nat.mod_self] at hK
        simp (disch := omega) only [tput_ne, ne_eq, not_false_eq_true]; exact hK
    · intro k hk ih
      refine wp_iload_n (q := 24) d_FG_turns_23 rfl rfl ?_
      refine wp_aload_n (q := 25) d_FG_turns_24 rfl rfl ?_
      refine wp_get (q := 28) fl_FG_239 d_FG_turns_25 rfl rfl rfl ?_
      try simp (disch := omega) only [tput_ne, tput_eq, ne_eq, not_false_eq_true, upd_eq, hnm]
      refine wp_icmp_ge_f (q := 31) (tgt := 81) d_FG_turns_28 (by decide) rfl (nI_ge hk (by omega)) ?_
      refine wp_aload_n (q := 32) d_FG_turns_31 rfl rfl ?_
      refine wp_get (q := 35) fl_FG_41 d_FG_turns_32 rfl rfl rfl ?_
      refine wp_iconst (q := 36) d_FG_turns_35 rfl ic_2 ?_
      refine wp_aldA (q := 37) d_FG_turns_36 rfl (rfl) (by omega) (by decide) (rows_at (by omega)) ?_
      refine wp_iload_n (q := 38) d_FG_turns_37 rfl rfl ?_
      refine wp_iald (q := 39) d_FG_turns_38 rfl (rfl) (by omega) (by decide) ?_
      try simp (disch := omega) only [tput_ne, tput_eq, ne_eq, not_false_eq_true, upd_eq, hnm]
      refine wp_if_eq (q := 42) (tgt := 45) d_FG_turns_39 (by decide) rfl (fun hc_39 => ?_) (fun hc_39 => ?_)
      · refine wp_aload_n (q := 46) d_FG_turns_45 rfl rfl ?_
        refine wp_get (q := 49) fl_FG_41 d_FG_turns_46 rfl rfl rfl ?_
        refine wp_iconst (q := 50) d_FG_turns_49 rfl ic_0 ?_
        refine wp_aldA (q := 51) d_FG_turns_50 rfl (rfl) (by omega) (by decide) (rows_at (by omega)) ?_
        refine wp_iload_n (q := 52) d_FG_turns_51 rfl rfl ?_
        refine wp_dup2 (q := 53) d_FG_turns_52 rfl rfl rfl ?_
        try simp (disch := omega) only [tput_ne, tput_eq, ne_eq, not_false_eq_true, upd_eq, hnm]
        refine wp_iald (q := 54) d_FG_turns_53 rfl (rfl) (by omega) (by decide) ?_
        refine wp_aload_n (q := 55) d_FG_turns_54 rfl rfl ?_
        refine wp_get (q := 58) fl_FG_284 d_FG_turns_55 rfl rfl rfl ?_
        try simp (disch := omega) only [tput_ne, tput_eq, ne_eq, not_false_eq_true, upd_eq, hnm]
        refine wp_iadd (q := 59) d_FG_turns_58 rfl ?_
        refine wp_iast (q := 60) d_FG_turns_59 rfl (rfl) (by omega) (by decide) (fc_83) ?_
        refine wp_aload_n (q := 61) d_FG_turns_60 rfl rfl ?_
        refine wp_get (q := 64) fl_FG_41 d_FG_turns_61 rfl rfl rfl ?_
        refine wp_iconst (q := 65) d_FG_turns_64 rfl ic_1 ?_
        refine wp_aldA (q := 66) d_FG_turns_65 rfl (rfl) (by omega) (by decide) (rows_at (by omega)) ?_
        refine wp_iload_n (q := 67) d_FG_turns_66 rfl rfl ?_
        refine wp_dup2 (q := 68) d_FG_turns_67 rfl rfl rfl ?_
        try simp (disch := omega) only [tput_ne, tput_eq, ne_eq, not_false_eq_true, upd_eq, hnm]
        refine wp_iald (q := 69) d_FG_turns_68 rfl (rfl) (by omega) (by decide) ?_
        refine wp_aload_n (q := 70) d_FG_turns_69 rfl rfl ?_
        refine wp_get (q := 73) fl_FG_284 d_FG_turns_70 rfl rfl rfl ?_
        try simp (disch := omega) only [tput_ne, tput_eq, ne_eq, not_false_eq_true, upd_eq, hnm]
        refine wp_iadd (q := 74) d_FG_turns_73 rfl ?_
        refine wp_iast (q := 75) d_FG_turns_74 rfl (rfl) (by omega) (by decide) (fc_84) ?_
        refine wp_iinc (q := 78) (L2 := [(2, _), (1, _), (0, _)]) d_FG_turns_75 rfl rfl (iinc_1) (by decide) rfl ?_
        refine wp_goto (tgt := 23) d_FG_turns_78 (by decide) ?_
        rw [pd_y hc_39, al_y hc_39, ← Int32.add_assoc] at ih
        first | exact ih | (simp (disch := omega) only [tput_ne, tput_eq, ne_eq, not_false_eq_true, upd_eq, upd_upd]; exact (tp_cm c _ _ _ _) ▸ ih)
      · refine wp_goto (tgt := 75) d_FG_turns_42 (by decide) ?_
        refine wp_iinc (q := 78) (L2 := [(2, _), (1, _), (0, _)]) d_FG_turns_75 rfl rfl (iinc_1) (by decide) rfl ?_
        refine wp_goto (tgt := 23) d_FG_turns_78 (by decide) ?_
        rw [pd_n hc_39, al_n hc_39] at ih; exact ih
  have h0 := lp 0 (Nat.zero_le _)
  rw [pdN, alN, add_0, upd_id rfl, tput_id, tput_id] at h0
  exact h0
set_option maxHeartbeats 4000000 in
set_option maxRecDepth 100000 in
theorem ok_FG_turns {D : xD} {N : Nat} {l : Launch} {d : Nat} {c x V : T2} {ln df : Nat → Option Nat} {rest : List va_E} {K : Option Value → List va_E → Prop} {nm tu : Nat} (hnm : c 32 4 = nI nm) (hm6 : nm ≤ 6) (htu : c 32 6 = nI tu) (ht : nm = 0 ∨ tu < nm) (hK : K (some (.int (sp_turns c nm tu).1)) (encC D N (sp_turns c nm tu).2 x V ln df ++ rest)) : Ok D N l (d + 1) M_FG_turns [.ref (N + 0)] (encC D N c x V ln df ++ rest) 0 0 K := by
  refine ok_of (L := [(0, _)]) (by decide) (Nat.le_of_ble_eq_true rfl) rfl ?_
  by_cases hn0 : nm = 0
  · skip
    refine wp_aload_n (q := 1) d_FG_turns_0 rfl rfl ?_
    refine wp_get (q := 4) fl_FG_239 d_FG_turns_1 rfl rfl rfl ?_
    rw [hnm, hn0]
    refine wp_if_ne_f (q := 7) (tgt := 10) d_FG_turns_4 (by decide) rfl (nI_0) ?_
    refine wp_bipush (q := 9) d_FG_turns_7 rfl bp_m3 ?_
    refine wp_iret d_FG_turns_9 rfl (Nat.le_refl _) (Nat.le_refl _) ?_
    simp only [sp_turns, hn0, if_true] at hK; exact hK
  · have ht2 : tu < nm := ht.resolve_left hn0
    refine wp_aload_n (q := 1) d_FG_turns_0 rfl rfl ?_
    refine wp_get (q := 4) fl_FG_239 d_FG_turns_1 rfl rfl rfl ?_
    rw [hnm]
    refine wp_if_ne_t (tgt := 10) d_FG_turns_4 (by decide) (nI_ne0 (by omega) (by omega)) ?_
    refine wp_aload_n (q := 11) d_FG_turns_10 rfl rfl ?_
    refine wp_cv0 (q := 14) lk_FG_290 (ro _ _ _) d_FG_turns_11 rfl (Nat.le_of_ble_eq_true rfl) (rfl) rfl (Nat.zero_le _) (Nat.zero_le _) ?_
    refine ok_FG_taker hnm hm6 htu ht2 ?_
    rcases hr : tkF c nm nm tu with _ | t <;> dsimp only [ov]
    · refine wp_istore_n (q := 15) (L2 := [(1, _), (0, _)]) d_FG_turns_14 rfl (by decide) rfl ?_
      refine wp_iload_n (q := 16) d_FG_turns_15 rfl rfl ?_
      refine wp_if_ge_f (q := 19) (tgt := 21) d_FG_turns_16 (by decide) rfl (by show ¬ (0 : Int32) ≤ -1; decide) ?_
      refine wp_iconst (q := 20) d_FG_turns_19 rfl ic_m1 ?_
      refine wp_iret d_FG_turns_20 rfl (Nat.le_refl _) (Nat.le_refl _) ?_
      simp only [sp_turns, hn0, hr, if_false] at hK; exact hK
    · have htm := (tk_lt (by omega) nm tu t ht2 hr).1
      refine wp_istore_n (q := 15) (L2 := [(1, _), (0, _)]) d_FG_turns_14 rfl (by decide) rfl ?_
      refine wp_iload_n (q := 16) d_FG_turns_15 rfl rfl ?_
      refine wp_if_ge_t (tgt := 21) d_FG_turns_16 (by decide) (nI_pos' (by omega)) ?_
      refine wp_iconst (q := 22) d_FG_turns_21 rfl ic_0 ?_
      refine wp_istore_n (q := 23) (L2 := [(2, _), (1, _), (0, _)]) d_FG_turns_22 rfl (by decide) rfl ?_
      refine tu_FG_turns hnm hm6 htm ?_
      simp only [sp_turns, hn0, hr, if_false] at hK; exact hK
theorem d_Rf_turns_0 : decode M_Rf_turns.2.1 0 = .ok (.aload_n 0, 1) := by decide +kernel
theorem d_Rf_turns_1 : decode M_Rf_turns.2.1 1 = .ok (.getfield 267, 3) := by decide +kernel
theorem d_Rf_turns_4 : decode M_Rf_turns.2.1 4 = .ok (.ifCond .ne 6, 3) := by decide +kernel
theorem d_Rf_turns_7 : decode M_Rf_turns.2.1 7 = .ok (.bipush (-3), 2) := by decide +kernel
theorem d_Rf_turns_9 : decode M_Rf_turns.2.1 9 = .ok (.ireturn, 1) := by decide +kernel
theorem d_Rf_turns_10 : decode M_Rf_turns.2.1 10 = .ok (.iconst 0, 1) := by decide +kernel
theorem d_Rf_turns_11 : decode M_Rf_turns.2.1 11 = .ok (.istore_n 1, 1) := by decide +kernel
theorem d_Rf_turns_12 : decode M_Rf_turns.2.1 12 = .ok (.iconst 0, 1) := by decide +kernel
theorem d_Rf_turns_13 : decode M_Rf_turns.2.1 13 = .ok (.istore_n 2, 1) := by decide +kernel
theorem d_Rf_turns_14 : decode M_Rf_turns.2.1 14 = .ok (.iload_n 2, 1) := by decide +kernel
theorem d_Rf_turns_15 : decode M_Rf_turns.2.1 15 = .ok (.aload_n 0, 1) := by decide +kernel
theorem d_Rf_turns_16 : decode M_Rf_turns.2.1 16 = .ok (.getfield 267, 3) := by decide +kernel
theorem d_Rf_turns_19 : decode M_Rf_turns.2.1 19 = .ok (.if_icmp .ge 38, 3) := by decide +kernel
theorem d_Rf_turns_22 : decode M_Rf_turns.2.1 22 = .ok (.aload_n 0, 1) := by decide +kernel
theorem d_Rf_turns_23 : decode M_Rf_turns.2.1 23 = .ok (.getfield 55, 3) := by decide +kernel
theorem d_Rf_turns_26 : decode M_Rf_turns.2.1 26 = .ok (.iload_n 2, 1) := by decide +kernel
theorem d_Rf_turns_27 : decode M_Rf_turns.2.1 27 = .ok (.baload, 1) := by decide +kernel
theorem d_Rf_turns_28 : decode M_Rf_turns.2.1 28 = .ok (.ifCond .ne 23, 3) := by decide +kernel
theorem d_Rf_turns_31 : decode M_Rf_turns.2.1 31 = .ok (.aload_n 0, 1) := by decide +kernel
theorem d_Rf_turns_32 : decode M_Rf_turns.2.1 32 = .ok (.getfield 49, 3) := by decide +kernel
theorem d_Rf_turns_35 : decode M_Rf_turns.2.1 35 = .ok (.iload_n 2, 1) := by decide +kernel
theorem d_Rf_turns_36 : decode M_Rf_turns.2.1 36 = .ok (.dup2, 1) := by decide +kernel
theorem d_Rf_turns_37 : decode M_Rf_turns.2.1 37 = .ok (.iaload, 1) := by decide +kernel
theorem d_Rf_turns_38 : decode M_Rf_turns.2.1 38 = .ok (.aload_n 0, 1) := by decide +kernel
theorem d_Rf_turns_39 : decode M_Rf_turns.2.1 39 = .ok (.getfield 297, 3) := by decide +kernel
theorem d_Rf_turns_42 : decode M_Rf_turns.2.1 42 = .ok (.iadd, 1) := by decide +kernel
theorem d_Rf_turns_43 : decode M_Rf_turns.2.1 43 = .ok (.iastore, 1) := by decide +kernel
theorem d_Rf_turns_44 : decode M_Rf_turns.2.1 44 = .ok (.iload_n 1, 1) := by decide +kernel
theorem d_Rf_turns_45 : decode M_Rf_turns.2.1 45 = .ok (.aload_n 0, 1) := by decide +kernel
theorem d_Rf_turns_46 : decode M_Rf_turns.2.1 46 = .ok (.getfield 297, 3) := by decide +kernel
theorem d_Rf_turns_49 : decode M_Rf_turns.2.1 49 = .ok (.iadd, 1) := by decide +kernel
theorem d_Rf_turns_50 : decode M_Rf_turns.2.1 50 = .ok (.istore_n 1, 1) := by decide +kernel
theorem d_Rf_turns_51 : decode M_Rf_turns.2.1 51 = .ok (.iinc 2 1, 3) := by decide +kernel
theorem d_Rf_turns_54 : decode M_Rf_turns.2.1 54 = .ok (.goto (-40), 3) := by decide +kernel
theorem d_Rf_turns_57 : decode M_Rf_turns.2.1 57 = .ok (.iload_n 1, 1) := by decide +kernel
theorem d_Rf_turns_58 : decode M_Rf_turns.2.1 58 = .ok (.ifCond .ne 5, 3) := by decide +kernel
theorem d_Rf_turns_61 : decode M_Rf_turns.2.1 61 = .ok (.iconst (-1), 1) := by decide +kernel
theorem d_Rf_turns_62 : decode M_Rf_turns.2.1 62 = .ok (.ireturn, 1) := by decide +kernel
theorem d_Rf_turns_63 : decode M_Rf_turns.2.1 63 = .ok (.aload_n 0, 1) := by decide +kernel
theorem d_Rf_turns_64 : decode M_Rf_turns.2.1 64 = .ok (.getfield 303, 3) := by decide +kernel
theorem d_Rf_turns_67 : decode M_Rf_turns.2.1 67 = .ok (.istore_n 2, 1) := by decide +kernel
theorem d_Rf_turns_68 : decode M_Rf_turns.2.1 68 = .ok (.aload_n 0, 1) := by decide +kernel
theorem d_Rf_turns_69 : decode M_Rf_turns.2.1 69 = .ok (.getfield 55, 3) := by decide +kernel
theorem d_Rf_turns_72 : decode M_Rf_turns.2.1 72 = .ok (.iload_n 2, 1) := by decide +kernel
theorem d_Rf_turns_73 : decode M_Rf_turns.2.1 73 = .ok (.baload, 1) := by decide +kernel
theorem d_Rf_turns_74 : decode M_Rf_turns.2.1 74 = .ok (.ifCond .eq 15, 3) := by decide +kernel
theorem d_Rf_turns_77 : decode M_Rf_turns.2.1 77 = .ok (.iload_n 2, 1) := by decide +kernel
theorem d_Rf_turns_78 : decode M_Rf_turns.2.1 78 = .ok (.iconst 1, 1) := by decide +kernel
theorem d_Rf_turns_79 : decode M_Rf_turns.2.1 79 = .ok (.iadd, 1) := by decide +kernel
theorem d_Rf_turns_80 : decode M_Rf_turns.2.1 80 = .ok (.aload_n 0, 1) := by decide +kernel
theorem d_Rf_turns_81 : decode M_Rf_turns.2.1 81 = .ok (.getfield 267, 3) := by decide +kernel
theorem d_Rf_turns_84 : decode M_Rf_turns.2.1 84 = .ok (.irem, 1) := by decide +kernel
theorem d_Rf_turns_85 : decode M_Rf_turns.2.1 85 = .ok (.istore_n 2, 1) := by decide +kernel
theorem d_Rf_turns_86 : decode M_Rf_turns.2.1 86 = .ok (.goto (-18), 3) := by decide +kernel
theorem d_Rf_turns_89 : decode M_Rf_turns.2.1 89 = .ok (.aload_n 0, 1) := by decide +kernel
theorem d_Rf_turns_90 : decode M_Rf_turns.2.1 90 = .ok (.getfield 52, 3) := by decide +kernel
theorem d_Rf_turns_93 : decode M_Rf_turns.2.1 93 = .ok (.iload_n 2, 1) := by decide +kernel
theorem d_Rf_turns_94 : decode M_Rf_turns.2.1 94 = .ok (.dup2, 1) := by decide +kernel
theorem d_Rf_turns_95 : decode M_Rf_turns.2.1 95 = .ok (.iaload, 1) := by decide +kernel
theorem d_Rf_turns_96 : decode M_Rf_turns.2.1 96 = .ok (.iload_n 1, 1) := by decide +kernel
theorem d_Rf_turns_97 : decode M_Rf_turns.2.1 97 = .ok (.iadd, 1) := by decide +kernel
theorem d_Rf_turns_98 : decode M_Rf_turns.2.1 98 = .ok (.iastore, 1) := by decide +kernel
theorem d_Rf_turns_99 : decode M_Rf_turns.2.1 99 = .ok (.aload_n 0, 1) := by decide +kernel
theorem d_Rf_turns_100 : decode M_Rf_turns.2.1 100 = .ok (.iload_n 2, 1) := by decide +kernel
theorem d_Rf_turns_101 : decode M_Rf_turns.2.1 101 = .ok (.iconst 1, 1) := by decide +kernel
theorem d_Rf_turns_102 : decode M_Rf_turns.2.1 102 = .ok (.iadd, 1) := by decide +kernel
theorem d_Rf_turns_103 : decode M_Rf_turns.2.1 103 = .ok (.aload_n 0, 1) := by decide +kernel
theorem d_Rf_turns_104 : decode M_Rf_turns.2.1 104 = .ok (.getfield 267, 3) := by decide +kernel
theorem d_Rf_turns_107 : decode M_Rf_turns.2.1 107 = .ok (.irem, 1) := by decide +kernel
theorem d_Rf_turns_108 : decode M_Rf_turns.2.1 108 = .ok (.putfield 303, 3) := by decide +kernel
theorem d_Rf_turns_111 : decode M_Rf_turns.2.1 111 = .ok (.iload_n 2, 1) := by decide +kernel
theorem d_Rf_turns_112 : decode M_Rf_turns.2.1 112 = .ok (.ireturn, 1) := by decide +kernel
set_option maxHeartbeats 4000000 in
set_option maxRecDepth 100000 in
theorem ok_Rf_turns {D : xD} {N : Nat} {l : Launch} {d : Nat} {c z : T2} {P Q : Nat → Int32} {rest : List va_E} {K : Option Value → List va_E → Prop} {nm tu : Nat} (hnm : c 32 4 = nI nm) (hm6 : nm ≤ 6) (htu : c 32 6 = nI tu) (ht : nm = 0 ∨ tu < nm) {e : Nat} (he : c 32 5 = nI e) (he1 : nm = 0 ∨ 1 ≤ e) (he2 : e < 1000) (hK : K (some (.int (sp_turns c nm tu).1)) (encR D N (sp_turns c nm tu).2 z P Q ++ rest)) : Ok D N l (d + 1) M_Rf_turns [.ref (N + 0)] (encR D N c z P Q ++ rest) 0 0 K := by
  refine ok_of (L := [(0, _)]) (by decide) (Nat.le_of_ble_eq_true rfl) rfl ?_
  by_cases hn0 : nm = 0
  · skip
    refine wp_aload_n (q := 1) d_Rf_turns_0 rfl rfl ?_
    refine wp_get (q := 4) fl_Rf_267 d_Rf_turns_1 rfl rfl rfl ?_
    rw [hnm, hn0]
    refine wp_if_ne_f (q := 7) (tgt := 10) d_Rf_turns_4 (by decide) rfl (nI_0) ?_
    refine wp_bipush (q := 9) d_Rf_turns_7 rfl bp_m3 ?_
    refine wp_iret d_Rf_turns_9 rfl (Nat.le_refl _) (Nat.le_refl _) ?_
    simp only [sp_turns, hn0, if_true] at hK; exact hK
  · have ht2 : tu < nm := ht.resolve_left hn0
    have he3 : 1 ≤ e := he1.resolve_left hn0
    have hend : Wp D N l (EI M_Rf_turns) M_Rf_turns (Rm (d + 1) 0 0) (Qm D N K 0 0) 0 0 57 [(2, .int (nI nm)), (1, .int (alN c (c 32 5) nm)), (0, .ref (N + 0))] [] (encR D N (tput c 12 (pdN c (c 32 5) nm)) z P Q ++ rest) := by
      rcases hr : tkF c nm nm tu with _ | t
      · have hall := tk_all ht2 hr
        have hal : alN c (c 32 5) nm = 0 := by rw [he, al_ct, (ct_0 nm).mpr hall, Nat.zero_mul, nI_0]
        refine wp_iload_n (q := 58) d_Rf_turns_57 rfl rfl ?_
        refine wp_if_ne_f (q := 61) (tgt := 63) d_Rf_turns_58 (by decide) rfl (hal) ?_
        refine wp_iconst (q := 62) d_Rf_turns_61 rfl ic_m1 ?_
        refine wp_iret d_Rf_turns_62 rfl (Nat.le_refl _) (Nat.le_refl _) ?_
        rw [pd_0 nm hall, tput_id]; simp only [sp_turns, hn0, hr, if_false] at hK; exact hK
      · obtain ⟨htm, h14⟩ := tk_lt (by omega) nm tu t ht2 hr
        have hal : ¬ alN c (c 32 5) nm = 0 := by
          rw [he, al_ct]
          have h1 : ctN c nm ≠ 0 := fun g => (ct_0 nm).mp g t htm h14
          have h2 := ct_le (c := c) nm
          have h3 : ctN c nm * e ≤ 6 * 1000 := Nat.mul_le_mul (by omega) (by omega)
          have h4 : 0 < ctN c nm * e := Nat.mul_pos (by omega) he3
          exact nI_ne0 h4 (by omega)
        have h89 : Wp D N l (EI M_Rf_turns) M_Rf_turns (Rm (d + 1) 0 0) (Qm D N K 0 0) 0 0 89 [(2, .int (nI t)), (1, .int (alN c (c 32 5) nm)), (0, .ref (N + 0))] [] (encR D N (tput c 12 (pdN c (c 32 5) nm)) z P Q ++ rest) := by
          simp only [sp_turns, hn0, hr, if_false] at hK
          refine wp_aload_n (q := 90) d_Rf_turns_89 rfl rfl ?_
          refine wp_get (q := 93) fl_Rf_52 d_Rf_turns_90 rfl rfl rfl ?_
          refine wp_iload_n (q := 94) d_Rf_turns_93 rfl rfl ?_
          refine wp_dup2 (q := 95) d_Rf_turns_94 rfl rfl rfl ?_
          try simp (disch := omega) only [tput_ne, tput_eq, ne_eq, not_false_eq_true, upd_eq, hnm]
          refine wp_iald (q := 96) d_Rf_turns_95 rfl (rfl) (by omega) (by decide) ?_
          refine wp_iload_n (q := 97) d_Rf_turns_96 rfl rfl ?_
          skip
          refine wp_iadd (q := 98) d_Rf_turns_97 rfl ?_
          refine wp_iast (q := 99) d_Rf_turns_98 rfl (rfl) (by omega) (by decide) (fr_15) ?_
          refine wp_aload_n (q := 100) d_Rf_turns_99 rfl rfl ?_
          refine wp_iload_n (q := 101) d_Rf_turns_100 rfl rfl ?_
          refine wp_iconst (q := 102) d_Rf_turns_101 rfl ic_1 ?_
          first | refine wp_iaddN (q := 103) d_Rf_turns_102 rfl ?_ | refine wp_iadd (q := 103) d_Rf_turns_102 rfl ?_
          refine wp_aload_n (q := 104) d_Rf_turns_103 rfl rfl ?_
          refine wp_get (q := 107) fl_Rf_267 d_Rf_turns_104 rfl rfl rfl ?_
          try simp (disch := omega) only [tput_ne, tput_eq, ne_eq, not_false_eq_true, upd_eq, hnm]
          refine wp_iremN (q := 108) d_Rf_turns_107 rfl (by omega) (by omega) (by omega) ?_
          refine wp_put (q := 111) fl_Rf_303 d_Rf_turns_108 rfl rfl (Nat.le_of_ble_eq_true rfl) rfl rfl (fr_s6) ?_
          refine wp_iload_n (q := 112) d_Rf_turns_111 rfl rfl ?_
          refine wp_iret d_Rf_turns_112 rfl (Nat.le_refl _) (Nat.le_refl _) ?_
          simp (disch := omega) only [tput_ne, ne_eq, not_false_eq_true]; exact hK
        have lq : ∀ f m : Nat, m < nm → tkF c nm f m = some t → Wp D N l (EI M_Rf_turns) M_Rf_turns (Rm (d + 1) 0 0) (Qm D N K 0 0) 0 0 68 [(2, .int (nI m)), (1, .int (alN c (c 32 5) nm)), (0, .ref (N + 0))] [] (encR D N (tput c 12 (pdN c (c 32 5) nm)) z P Q ++ rest) := by
          intro f
          induction f with
          | zero => intro m _ h; cases h
          | succ f ih =>
            intro m hmn hm
            refine wp_aload_n (q := 69) d_Rf_turns_68 rfl rfl ?_
            refine wp_get (q := 72) fl_Rf_55 d_Rf_turns_69 rfl rfl rfl ?_
            refine wp_iload_n (q := 73) d_Rf_turns_72 rfl rfl ?_
            refine wp_zald (q := 74) d_Rf_turns_73 rfl (rfl) (by omega) (by decide) ?_
            try simp (disch := omega) only [tput_ne, tput_eq, ne_eq, not_false_eq_true, upd_eq, hnm]
            refine wp_if_eq (q := 77) (tgt := 89) d_Rf_turns_74 (by decide) rfl (fun hc_74 => ?_) (fun hc_74 => ?_)
            · have em : m = t := by
                rw [tkF, if_pos hc_74] at hm
                exact Option.some.inj hm
              subst em
              exact h89
            · refine wp_iload_n (q := 78) d_Rf_turns_77 rfl rfl ?_
              refine wp_iconst (q := 79) d_Rf_turns_78 rfl ic_1 ?_
              first | refine wp_iaddN (q := 80) d_Rf_turns_79 rfl ?_ | refine wp_iadd (q := 80) d_Rf_turns_79 rfl ?_
              refine wp_aload_n (q := 81) d_Rf_turns_80 rfl rfl ?_
              refine wp_get (q := 84) fl_Rf_267 d_Rf_turns_81 rfl rfl rfl ?_
              try simp (disch := omega) only [tput_ne, tput_eq, ne_eq, not_false_eq_true, upd_eq, hnm]
              refine wp_iremN (q := 85) d_Rf_turns_84 rfl (by omega) (by omega) (by omega) ?_
              refine wp_istore_n (q := 86) (L2 := [(2, _), (1, _), (0, _)]) d_Rf_turns_85 rfl (by decide) rfl ?_
              refine wp_goto (tgt := 68) d_Rf_turns_86 (by decide) ?_
              exact ih ((m + 1) % nm) (Nat.mod_lt _ (by omega)) (by rw [tkF, if_neg hc_74] at hm; exact hm)
        refine wp_iload_n (q := 58) d_Rf_turns_57 rfl rfl ?_
        refine wp_if_ne_t (tgt := 63) d_Rf_turns_58 (by decide) (hal) ?_
        refine wp_aload_n (q := 64) d_Rf_turns_63 rfl rfl ?_
        refine wp_get (q := 67) fl_Rf_303 d_Rf_turns_64 rfl rfl rfl ?_
        try simp (disch := omega) only [tput_ne, tput_eq, ne_eq, not_false_eq_true, upd_eq, hnm]
        rw [htu]
        refine wp_istore_n (q := 68) (L2 := [(2, _), (1, _), (0, _)]) d_Rf_turns_67 rfl (by decide) rfl ?_
        exact lq nm tu ht2 hr
    have lp : ∀ k : Nat, k ≤ nm → Wp D N l (EI M_Rf_turns) M_Rf_turns (Rm (d + 1) 0 0) (Qm D N K 0 0) 0 0 14 [(2, .int (nI k)), (1, .int (alN c (c 32 5) k)), (0, .ref (N + 0))] [] (encR D N (tput c 12 (pdN c (c 32 5) k)) z P Q ++ rest) := by
      refine up_loop ?_ ?_
      · skip
        refine wp_iload_n (q := 15) d_Rf_turns_14 rfl rfl ?_
        refine wp_aload_n (q := 16) d_Rf_turns_15 rfl rfl ?_
        refine wp_get (q := 19) fl_Rf_267 d_Rf_turns_16 rfl rfl rfl ?_
        try simp (disch := omega) only [tput_ne, tput_eq, ne_eq, not_false_eq_true, upd_eq, hnm]
        refine wp_icmp_ge_t (tgt := 57) d_Rf_turns_19 (by decide) (nI_le (Nat.le_refl _) (by omega)) ?_
        exact hend
      · intro k hk ih
        refine wp_iload_n (q := 15) d_Rf_turns_14 rfl rfl ?_
        refine wp_aload_n (q := 16) d_Rf_turns_15 rfl rfl ?_
        refine wp_get (q := 19) fl_Rf_267 d_Rf_turns_16 rfl rfl rfl ?_
        try simp (disch := omega) only [tput_ne, tput_eq, ne_eq, not_false_eq_true, upd_eq, hnm]
        refine wp_icmp_ge_f (q := 22) (tgt := 57) d_Rf_turns_19 (by decide) rfl (nI_ge hk (by omega)) ?_
        refine wp_aload_n (q := 23) d_Rf_turns_22 rfl rfl ?_
        refine wp_get (q := 26) fl_Rf_55 d_Rf_turns_23 rfl rfl rfl ?_
        refine wp_iload_n (q := 27) d_Rf_turns_26 rfl rfl ?_
        refine wp_zald (q := 28) d_Rf_turns_27 rfl (rfl) (by omega) (by decide) ?_
        try simp (disch := omega) only [tput_ne, tput_eq, ne_eq, not_false_eq_true, upd_eq, hnm]
        refine wp_if_ne (q := 31) (tgt := 51) d_Rf_turns_28 (by decide) rfl (fun hc_28 => ?_) (fun hc_28 => ?_)
        · refine wp_iinc (q := 54) (L2 := [(2, _), (1, _), (0, _)]) d_Rf_turns_51 rfl rfl (iinc_1) (by decide) rfl ?_
          refine wp_goto (tgt := 14) d_Rf_turns_54 (by decide) ?_
          rw [pd_n hc_28, al_n hc_28] at ih; exact ih
        · refine wp_aload_n (q := 32) d_Rf_turns_31 rfl rfl ?_
          refine wp_get (q := 35) fl_Rf_49 d_Rf_turns_32 rfl rfl rfl ?_
          refine wp_iload_n (q := 36) d_Rf_turns_35 rfl rfl ?_
          refine wp_dup2 (q := 37) d_Rf_turns_36 rfl rfl rfl ?_
          try simp (disch := omega) only [tput_ne, tput_eq, ne_eq, not_false_eq_true, upd_eq, hnm]
          refine wp_iald (q := 38) d_Rf_turns_37 rfl (rfl) (by omega) (by decide) ?_
          refine wp_aload_n (q := 39) d_Rf_turns_38 rfl rfl ?_
          refine wp_get (q := 42) fl_Rf_297 d_Rf_turns_39 rfl rfl rfl ?_
          try simp (disch := omega) only [tput_ne, tput_eq, ne_eq, not_false_eq_true, upd_eq, hnm]
          refine wp_iadd (q := 43) d_Rf_turns_42 rfl ?_
          refine wp_iast (q := 44) d_Rf_turns_43 rfl (rfl) (by omega) (by decide) (fr_14) ?_
          refine wp_iload_n (q := 45) d_Rf_turns_44 rfl rfl ?_
          refine wp_aload_n (q := 46) d_Rf_turns_45 rfl rfl ?_
          refine wp_get (q := 49) fl_Rf_297 d_Rf_turns_46 rfl rfl rfl ?_
          try simp (disch := omega) only [tput_ne, tput_eq, ne_eq, not_false_eq_true, upd_eq, hnm]
          refine wp_iadd (q := 50) d_Rf_turns_49 rfl ?_
          refine wp_istore_n (q := 51) (L2 := [(1, _), (2, _), (0, _)]) d_Rf_turns_50 rfl (by decide) rfl ?_
          refine wp_iinc (q := 54) (L2 := [(2, _), (1, _), (0, _)]) d_Rf_turns_51 rfl rfl (iinc_1) (by decide) rfl ?_
          refine wp_goto (tgt := 14) d_Rf_turns_54 (by decide) ?_
          rw [pd_y hc_28, al_y hc_28] at ih
          first | exact ih | (rw [tput2]; exact ih)
    refine wp_aload_n (q := 1) d_Rf_turns_0 rfl rfl ?_
    refine wp_get (q := 4) fl_Rf_267 d_Rf_turns_1 rfl rfl rfl ?_
    rw [hnm]
    refine wp_if_ne_t (tgt := 10) d_Rf_turns_4 (by decide) (nI_ne0 (by omega) (by omega)) ?_
    refine wp_iconst (q := 11) d_Rf_turns_10 rfl ic_0 ?_
    refine wp_istore_n (q := 12) (L2 := [(1, _), (0, _)]) d_Rf_turns_11 rfl (by decide) rfl ?_
    refine wp_iconst (q := 13) d_Rf_turns_12 rfl ic_0 ?_
    refine wp_istore_n (q := 14) (L2 := [(2, _), (1, _), (0, _)]) d_Rf_turns_13 rfl (by decide) rfl ?_
    have h0 := lp 0 (Nat.zero_le _)
    rw [pdN, tput_id, alN] at h0
    exact h0
