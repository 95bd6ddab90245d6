def vdB (S : Nat) : Nat → Nat → Bool
  | 0, _ => true
  | R + 1, p => vdB S R (p / 4) && decide (p % 4 < S)
def psN (S : Nat) : Nat → Nat → Nat
  | 0, p => p
  | R + 1, p => psN S R (p / 4) * S + if vdB S R (p / 4) = true then min (p % 4) S else 0
theorem vdB_iff (S : Nat) : ∀ R p, vdB S R p = true ↔ ∀ j, j < R → p / 4 ^ j % 4 < S
  | 0, p => ⟨fun _ j hj => absurd hj (Nat.not_lt_zero _), fun _ => rfl⟩
  | R + 1, p => by
    rw [vdB, Bool.and_eq_true, decide_eq_true_eq, vdB_iff S R (p / 4)]
    constructor
    · intro h j hj
      cases j with
      | zero => rw [Nat.pow_zero, Nat.div_one]; exact h.2
      | succ j => rw [show 4 ^ (j + 1) = 4 * 4 ^ j by rw [Nat.pow_succ, Nat.mul_comm], ← Nat.div_div_eq_div_mul]; exact h.1 j (by omega)
    · intro h
      refine ⟨fun j hj => ?_, ?_⟩
      · have := h (j + 1) (by omega)
        rw [show 4 ^ (j + 1) = 4 * 4 ^ j by rw [Nat.pow_succ, Nat.mul_comm], ← Nat.div_div_eq_div_mul] at this
        exact this
      · have := h 0 (by omega)
        rw [Nat.pow_zero, Nat.div_one] at this
        exact this
theorem psN_0 (S : Nat) : ∀ R, psN S R 0 = 0
  | 0 => rfl
  | R + 1 => by rw [psN, show 0 / 4 = 0 from rfl, psN_0 S R, Nat.zero_mul]; split <;> simp
theorem psN_succ {S : Nat} (hS : S ≤ 4) : ∀ R p, p < 4 ^ R → psN S R (p + 1) = psN S R p + if vdB S R p = true then 1 else 0
  | 0, p, hp => by
    rw [Nat.pow_zero] at hp
    rw [psN, psN, vdB, if_pos rfl]
  | R + 1, p, hp => by
    have hp4 : p / 4 < 4 ^ R := by rw [Nat.pow_succ] at hp; omega
    have ih := psN_succ hS R (p / 4) hp4
    rw [psN, psN, vdB]
    by_cases h3 : p % 4 = 3
    · rw [show (p + 1) / 4 = p / 4 + 1 by omega, show (p + 1) % 4 = 0 by omega, ih, h3]
      cases hv : vdB S R (p / 4)
      · simp
      · simp only [if_true, Bool.true_and, decide_eq_true_eq, Nat.zero_min, ite_self, Nat.add_zero, Nat.succ_mul, Nat.add_mul, Nat.one_mul]
        by_cases h4 : 3 < S
        · rw [if_pos h4, show S = 4 by omega]
          simp
        · rw [if_neg h4, Nat.min_eq_right (by omega), Nat.add_zero]
    · rw [show (p + 1) / 4 = p / 4 by omega, show (p + 1) % 4 = p % 4 + 1 by omega]
      cases hv : vdB S R (p / 4)
      · simp
      · simp only [if_true, Bool.true_and, decide_eq_true_eq]
        by_cases h4 : p % 4 < S
        · rw [if_pos h4, Nat.min_eq_left (by omega), Nat.min_eq_left (by omega)]; omega
        · rw [if_neg h4, Nat.min_eq_right (by omega), Nat.min_eq_right (by omega), Nat.add_zero]
theorem psN_full (S : Nat) : ∀ R, psN S R (4 ^ R) = S ^ R
  | 0 => rfl
  | R + 1 => by
    rw [psN, show 4 ^ (R + 1) / 4 = 4 ^ R by rw [Nat.pow_succ]; omega, show 4 ^ (R + 1) % 4 = 0 by rw [Nat.pow_succ]; omega, psN_full S R, Nat.pow_succ]
    simp
theorem psN_dig {S : Nat} (h1 : 1 ≤ S) : ∀ R p, vdB S R p = true → ∀ j, j < R → psN S R p / S ^ j % S = p / 4 ^ j % 4
  | 0, _, _, j, hj => absurd hj (Nat.not_lt_zero _)
  | R + 1, p, hv, j, hj => by
    rw [vdB, Bool.and_eq_true, decide_eq_true_eq] at hv
    rw [psN, if_pos hv.1, Nat.min_eq_left (by omega)]
    cases j with
    | zero =>
      rw [Nat.pow_zero, Nat.div_one, Nat.pow_zero, Nat.div_one, Nat.mul_comm, Nat.mul_add_mod, Nat.mod_eq_of_lt hv.2]
    | succ j =>
      rw [show 4 ^ (j + 1) = 4 * 4 ^ j by rw [Nat.pow_succ, Nat.mul_comm], ← Nat.div_div_eq_div_mul, show S ^ (j + 1) = S * S ^ j by rw [Nat.pow_succ, Nat.mul_comm], ← Nat.div_div_eq_div_mul]
      rw [show (psN S R (p / 4) * S + p % 4) / S = psN S R (p / 4) by rw [Nat.mul_comm, Nat.mul_add_div (by omega), Nat.div_eq_of_lt hv.2, Nat.add_zero]]
      exact psN_dig h1 R (p / 4) hv.1 j (by omega)
def pdg (p R r : Nat) : Nat := p / 4 ^ (R - 1 - r) % 4
def sdg (S w R r : Nat) : Nat := w / S ^ (R - 1 - r) % S
theorem pdg_lt (p R r : Nat) : pdg p R r < 4 := Nat.mod_lt _ (by decide)
theorem sdg_lt {S : Nat} (h : 1 ≤ S) (w R r : Nat) : sdg S w R r < S := Nat.mod_lt _ (by omega)
theorem vd_pdg {S R p : Nat} : vdB S R p = true ↔ ∀ r, r < R → pdg p R r < S := by
  rw [vdB_iff]
  constructor
  · intro h r hr; exact h _ (by omega)
  · intro h j hj
    have := h (R - 1 - j) (by omega)
    unfold pdg at this
    rw [show R - 1 - (R - 1 - j) = j by omega] at this
    exact this
theorem dig_eq {S R p : Nat} (h1 : 1 ≤ S) (hv : vdB S R p = true) : ∀ r, r < R → sdg S (psN S R p) R r = pdg p R r := fun r hr => psN_dig h1 R p hv _ (by omega)
def qtB (c : T2) (S r d : Nat) : Prop := ∀ w, w < S → ¬ c 11 (4 * r + d) < c 11 (4 * r + w) - c 32 3
def cntA (a : Nat → Nat) (s : Nat) : Nat → Nat
  | 0 => 0
  | r + 1 => cntA a s r + if a r = s then 1 else 0
def smA (c : T2) (a : Nat → Nat) : Nat → Int32
  | 0 => nI 0
  | r + 1 => smA c a r + c 11 (4 * r + a r)
def okA (c : T2) (S M : Nat) (a : Nat → Nat) (R : Nat) : Prop := ∀ r, r < R → a r < S ∧ qtB c S r (a r) ∧ cntA a (a r) (r + 1) ≤ M
theorem cntA_congr {a b : Nat → Nat} {s : Nat} : ∀ R, (∀ r, r < R → a r = b r) → cntA a s R = cntA b s R
  | 0, _ => rfl
  | R + 1, h => by rw [cntA, cntA, cntA_congr R (fun r hr => h r (by omega)), h R (by omega)]
theorem smA_congr {c : T2} {a b : Nat → Nat} : ∀ R, (∀ r, r < R → a r = b r) → smA c a R = smA c b R
  | 0, _ => rfl
  | R + 1, h => by rw [smA, smA, smA_congr R (fun r hr => h r (by omega)), h R (by omega)]
theorem okA_congr {c : T2} {S M R : Nat} {a b : Nat → Nat} (h : ∀ r, r < R → a r = b r) (hk : okA c S M a R) : okA c S M b R := fun r hr => by
  have := hk r hr
  rw [← h r hr, ← cntA_congr (a := a) (b := b) (r + 1) (fun q hq => h q (by omega))]
  exact this
theorem cntA_le (a : Nat → Nat) (s : Nat) : ∀ r, cntA a s r ≤ r
  | 0 => Nat.le_refl _
  | r + 1 => by have := cntA_le a s r; rw [cntA]; split <;> omega
theorem cntA_mono (a : Nat → Nat) (s i : Nat) : ∀ j, cntA a s i ≤ cntA a s (i + j)
  | 0 => Nat.le_refl _
  | j + 1 => by have := cntA_mono a s i j; rw [← Nat.add_assoc, cntA]; omega
theorem okA_iff {c : T2} {S M R : Nat} {a : Nat → Nat} (hS : S ≤ 4) (ha : ∀ r, r < R → a r < S) : okA c S M a R ↔ (∀ r, r < R → qtB c S r (a r)) ∧ ∀ s, s < 4 → cntA a s R ≤ M := by
  constructor
  · intro h
    refine ⟨fun r hr => (h r hr).2.1, fun s _ => ?_⟩
    have : ∀ n, n ≤ R → cntA a s n ≤ M := by
      intro n
      induction n with
      | zero => intro _; exact Nat.zero_le _
      | succ n ih =>
        intro hn
        by_cases e : a n = s
        · have := (h n (by omega)).2.2
          rw [e] at this
          exact this
        · rw [cntA, if_neg e]; exact ih (by omega)
    exact this R (Nat.le_refl _)
  · intro h r hr
    refine ⟨ha r hr, h.1 r hr, ?_⟩
    have h1 := cntA_mono a (a r) (r + 1) (R - (r + 1))
    rw [show r + 1 + (R - (r + 1)) = R by omega] at h1
    exact Nat.le_trans h1 (h.2 (a r) (by have := ha r hr; omega))
def GI (c : T2) : Prop := (∀ k, k < 24 → isN (c 11 k) 10000) ∧ isN (c 32 3) 10000
theorem smA_N {c : T2} {a : Nat → Nat} (hG : GI c) (ha : ∀ r, a r < 4) : ∀ R, R ≤ 6 → isN (smA c a R) (10000 * R + 1)
  | 0, _ => isN_nI (by decide)
  | R + 1, h => by
    have h1 := smA_N hG ha R (by omega)
    have h2 := hG.1 (4 * R + a R) (by have := ha R; omega)
    rw [smA]
    exact (isN_add h1 (b := 9999) h2 (by omega)).le (by omega)
theorem self_q {c : T2} (hG : GI c) {k : Nat} (hk : k < 24) : ¬ c 11 k < c 11 k - c 32 3 := by
  obtain ⟨x, hx, ex⟩ := (hG.1 k hk).ex
  obtain ⟨y, hy, ey⟩ := hG.2.ex
  rw [ex, ey]
  intro h
  rw [Int32.lt_iff_toInt_lt, pk_sub_toInt (by omega) (by omega), nI_toInt (by omega)] at h
  omega
theorem qtB_iff {c : T2} (hG : GI c) {S r d : Nat} (hr : r < 6) (hd : d < 4) : qtB c S r d ↔ ∀ w, w < S → ¬ w = d → ¬ c 11 (4 * r + d) < c 11 (4 * r + w) - c 32 3 := by
  constructor
  · intro h w hw _; exact h w hw
  · intro h w hw
    by_cases e : w = d
    · rw [e]; exact self_q hG (by omega)
    · exact h w hw e
noncomputable def rN (c : T2) (R S M : Nat) : Nat → Nat × Int32 × Nat
  | 0 => (0, -1, 0)
  | w + 1 => @ite _ (okA c S M (sdg S w R) R) (Classical.propDecidable _) ((rN c R S M w).1 + 1, if (rN c R S M w).2.1 < smA c (sdg S w R) R then (smA c (sdg S w R) R, w) else (rN c R S M w).2) (rN c R S M w)
theorem rN_n {c : T2} {R S M w : Nat} (h : ¬ okA c S M (sdg S w R) R) : rN c R S M (w + 1) = rN c R S M w := by rw [rN, if_neg h]
theorem rN_y {c : T2} {R S M w : Nat} (h : okA c S M (sdg S w R) R) (hb : (rN c R S M w).2.1 < smA c (sdg S w R) R) : rN c R S M (w + 1) = ((rN c R S M w).1 + 1, smA c (sdg S w R) R, w) := by rw [rN, if_pos h, if_pos hb]
theorem rN_z {c : T2} {R S M w : Nat} (h : okA c S M (sdg S w R) R) (hb : ¬ (rN c R S M w).2.1 < smA c (sdg S w R) R) : rN c R S M (w + 1) = ((rN c R S M w).1 + 1, (rN c R S M w).2) := by rw [rN, if_pos h, if_neg hb]
theorem rN_le {c : T2} {R S M : Nat} : ∀ w, (rN c R S M w).1 ≤ w
  | 0 => Nat.le_refl _
  | w + 1 => by
    have ih := rN_le (c := c) (R := R) (S := S) (M := M) w
    by_cases h : okA c S M (sdg S w R) R
    · by_cases hb : (rN c R S M w).2.1 < smA c (sdg S w R) R
      · rw [rN_y h hb]; exact Nat.succ_le_succ ih
      · rw [rN_z h hb]; exact Nat.succ_le_succ ih
    · rw [rN_n h]; omega
noncomputable def prt (c : T2) (R S M : Nat) (i : Int32) : Int32 := if i = -2 then nI (rN c R S M (S ^ R)).1 else if (rN c R S M (S ^ R)).1 = 0 then -3 else if i = -1 then (rN c R S M (S ^ R)).2.1 else nI (sdg S (rN c R S M (S ^ R)).2.2 R (tn i))
noncomputable def sp_part (c : T2) (r s m i : Int32) : Int32 := if ¬ btw (nI 1) r (nI 6) ∨ ¬ btw (nI 1) s (nI 4) ∨ ¬ btw (nI 1) m (nI 6) then -2 else if ¬ btw (-2) i (r - nI 1) then -5 else prt c (tn r) (tn s) (tn m) i
theorem sh_d0 : ∀ j, j < 6 → ∀ a, a < 64 → ∀ b, b < 64 → nI (64 * a + b) >>> (nI (2 * j) &&& 31) &&& nI 3 = nI ((64 * a + b) / 4 ^ j % 4) := by decide +kernel
theorem sh_dig {j p : Nat} (hj : j < 6) (hp : p < 4096) : nI p >>> (nI (2 * j) &&& 31) &&& nI 3 = nI (p / 4 ^ j % 4) := by
  have := sh_d0 j hj (p / 64) (by omega) (p % 64) (by omega)
  rw [show 64 * (p / 64) + p % 64 = p by omega] at this
  exact this
def hasN (a : Nat → Nat) (r : Nat) : Nat := cntA a 0 r + 16 * cntA a 1 r + 256 * cntA a 2 r + 4096 * cntA a 3 r
theorem hs_0 : ∀ s, s < 4 → ∀ a, a < 7 → ∀ b, b < 7 → ∀ e, e < 7 → ∀ f, f < 7 → nI (a + 16 * b + 256 * e + 4096 * f) >>> (nI (4 * s) &&& 31) &&& nI 15 = nI (if s = 0 then a else if s = 1 then b else if s = 2 then e else f) := by decide +kernel
theorem hs_at {a : Nat → Nat} {r s : Nat} (hs : s < 4) (hr : r ≤ 6) : nI (hasN a r) >>> (nI (4 * s) &&& 31) &&& nI 15 = nI (cntA a s r) := by
  have h0 := cntA_le a 0 r
  have h1 := cntA_le a 1 r
  have h2 := cntA_le a 2 r
  have h3 := cntA_le a 3 r
  unfold hasN
  rw [hs_0 s hs _ (by omega) _ (by omega) _ (by omega) _ (by omega)]
  rcases (show s = 0 ∨ s = 1 ∨ s = 2 ∨ s = 3 by omega) with rfl | rfl | rfl | rfl <;> rfl
theorem sh_16 : ∀ s, s < 4 → nI 1 <<< (nI (4 * s) &&& 31) = nI (16 ^ s) := by decide +kernel
theorem has_s {a : Nat → Nat} {r : Nat} (h : a r < 4) : hasN a (r + 1) = hasN a r + 16 ^ a r := by
  unfold hasN
  rw [cntA, cntA, cntA, cntA]
  rcases (show a r = 0 ∨ a r = 1 ∨ a r = 2 ∨ a r = 3 by omega) with e | e | e | e <;> (rw [e]; simp; omega)
