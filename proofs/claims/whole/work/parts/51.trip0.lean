section TR
variable {c : T2} {hh a : Nat}
def wy (c : T2) (hh s t : Nat) : Nat := tn (way c s t hh)
def cst (a : Nat) (f : Nat → Nat) (s : Nat) : Nat := if s = a then 0 else f s + 5
def rl (c : T2) (hh a : Nat) (f : Nat → Nat) (s t : Nat) : Nat → Nat := if ¬ c 2 (6 * s + t) = 0 ∧ f s < 1000000 ∧ cst a f s + wy c hh s t < f t then va_up f t (cst a f s + wy c hh s t) else f
def rlT (c : T2) (hh a : Nat) (f : Nat → Nat) (s : Nat) : Nat → (Nat → Nat)
  | 0 => f
  | t + 1 => rl c hh a (rlT c hh a f s t) s t
def rlS (c : T2) (hh a : Nat) (f : Nat → Nat) : Nat → (Nat → Nat)
  | 0 => f
  | s + 1 => rlT c hh a (rlS c hh a f s) s 6
def tr0 (a : Nat) : Nat → Nat := fun v => if v = a then 0 else 1000000
def rdN (c : T2) (hh a : Nat) : Nat → (Nat → Nat)
  | 0 => tr0 a
  | k + 1 => rlS c hh a (rdN c hh a k) 6
def TW (c : T2) (hh : Nat) : Prop := ∀ s t, s < 6 → t < 6 → 1 ≤ wy c hh s t
def TInv (c : T2) (hh a : Nat) (f : Nat → Nat) : Prop := f a = 0 ∧ (∀ v, v < 6 → f v ≤ 1000000) ∧ ∀ v, v < 6 → v ≠ a → f v < 1000000 → ∃ s, s < 6 ∧ ¬ c 2 (6 * s + v) = 0 ∧ f s < 1000000 ∧ cst a f s + wy c hh s v ≤ f v
def TFix (c : T2) (hh a : Nat) (d : Nat → Nat) : Prop := ∀ s t, s < 6 → t < 6 → ¬ c 2 (6 * s + t) = 0 → d s < 1000000 → d t ≤ cst a d s + wy c hh s t
theorem rl_y {f : Nat → Nat} {s t : Nat} (h : ¬ c 2 (6 * s + t) = 0 ∧ f s < 1000000 ∧ cst a f s + wy c hh s t < f t) : rl c hh a f s t = va_up f t (cst a f s + wy c hh s t) := if_pos h
theorem rl_n {f : Nat → Nat} {s t : Nat} (h : ¬ (¬ c 2 (6 * s + t) = 0 ∧ f s < 1000000 ∧ cst a f s + wy c hh s t < f t)) : rl c hh a f s t = f := if_neg h
theorem rl_le (f : Nat → Nat) (s t v : Nat) : rl c hh a f s t v ≤ f v := by
  by_cases h : ¬ c 2 (6 * s + t) = 0 ∧ f s < 1000000 ∧ cst a f s + wy c hh s t < f t
  · rw [rl_y h]
    by_cases e : v = t
    · subst e; rw [va_upeq]; omega
    · rw [va_upne _ _ e]; exact Nat.le_refl _
  · rw [rl_n h]; exact Nat.le_refl _
theorem rlT_le (f : Nat → Nat) (s v : Nat) : ∀ i j, rlT c hh a f s (i + j) v ≤ rlT c hh a f s i v
  | _, 0 => Nat.le_refl _
  | i, j + 1 => Nat.le_trans (rl_le _ s (i + j) v) (rlT_le f s v i j)
theorem rlS_le (f : Nat → Nat) (v : Nat) : ∀ i j, rlS c hh a f (i + j) v ≤ rlS c hh a f i v
  | _, 0 => Nat.le_refl _
  | i, j + 1 => Nat.le_trans (by have := rlT_le (c := c) (hh := hh) (a := a) (rlS c hh a f (i + j)) (i + j) v 0 6; exact this) (rlS_le f v i j)
theorem cst_ge (f : Nat → Nat) (s : Nat) (h : f a = 0) : f s ≤ cst a f s := by
  unfold cst
  split
  · rename_i e; rw [e, h]; exact Nat.le_refl _
  · omega
theorem cst_mono {f g : Nat → Nat} {s : Nat} (h : f s ≤ g s) : cst a f s ≤ cst a g s := by
  unfold cst
  split <;> omega
theorem cst_eq {f g : Nat → Nat} {s : Nat} (h : f s = g s) : cst a f s = cst a g s := by unfold cst; rw [h]
theorem TInv.rlv {f : Nat → Nat} {s t : Nat} (h : TInv c hh a f) (hs : s < 6) (ht : t < 6) : TInv c hh a (rl c hh a f s t) := by
  by_cases hc : ¬ c 2 (6 * s + t) = 0 ∧ f s < 1000000 ∧ cst a f s + wy c hh s t < f t
  · obtain ⟨h1, h2, h3⟩ := hc
    have hta : t ≠ a := fun e => by rw [e, h.1] at h3; omega
    have hst : s ≠ t := fun e => by have := cst_ge f s h.1; rw [e] at this h3; omega
    rw [rl_y ⟨h1, h2, h3⟩]
    have hle : ∀ v, va_up f t (cst a f s + wy c hh s t) v ≤ f v := fun v => by
      by_cases e : v = t
      · subst e; rw [va_upeq]; omega
      · rw [va_upne _ _ e]; exact Nat.le_refl _
    refine ⟨by rw [va_upne _ _ (fun e => hta e.symm)]; exact h.1, fun v hv => Nat.le_trans (hle v) (h.2.1 v hv), fun v hv hva hlt => ?_⟩
    by_cases e : v = t
    · subst e
      rw [va_upeq]
      exact ⟨s, hs, h1, by rw [va_upne _ _ hst]; exact h2, by rw [cst_eq (show va_up f v (cst a f s + wy c hh s v) s = f s from va_upne _ _ hst)]; exact Nat.le_refl _⟩
    · rw [va_upne _ _ e] at hlt ⊢
      obtain ⟨u, g1, g2, g3, g4⟩ := h.2.2 v hv hva hlt
      exact ⟨u, g1, g2, Nat.lt_of_le_of_lt (hle u) g3, Nat.le_trans (Nat.add_le_add_right (cst_mono (hle u)) _) g4⟩
  · rw [rl_n hc]; exact h
theorem TInv.rlTv {f : Nat → Nat} {s : Nat} (h : TInv c hh a f) (hs : s < 6) : ∀ t, t ≤ 6 → TInv c hh a (rlT c hh a f s t)
  | 0, _ => h
  | t + 1, ht => (TInv.rlTv h hs t (by omega)).rlv hs (by omega)
theorem TInv.rlSv {f : Nat → Nat} (h : TInv c hh a f) : ∀ s, s ≤ 6 → TInv c hh a (rlS c hh a f s)
  | 0, _ => h
  | s + 1, hs => (TInv.rlSv h s (by omega)).rlTv (by omega) 6 (Nat.le_refl _)
theorem TInv.zero : TInv c hh a (tr0 a) := by
  refine ⟨if_pos rfl, fun v _ => ?_, fun v _ hva hlt => ?_⟩
  · unfold tr0; split <;> omega
  · unfold tr0 at hlt; rw [if_neg hva] at hlt; omega
theorem TInv.rd : ∀ k, TInv c hh a (rdN c hh a k)
  | 0 => TInv.zero
  | k + 1 => (TInv.rd k).rlSv 6 (Nat.le_refl _)
theorem up_meas {f : Nat → Nat} {t v : Nat} (ht : t < 6) (hv : v < f t) : va_up f t v 0 + va_up f t v 1 + va_up f t v 2 + va_up f t v 3 + va_up f t v 4 + va_up f t v 5 < f 0 + f 1 + f 2 + f 3 + f 4 + f 5 := by
  rcases (show t = 0 ∨ t = 1 ∨ t = 2 ∨ t = 3 ∨ t = 4 ∨ t = 5 by omega) with rfl | rfl | rfl | rfl | rfl | rfl <;> (simp (disch := decide) only [va_upeq, va_upne, ne_eq]; omega)
theorem ex_fix : ∀ (n : Nat) (f : Nat → Nat), TInv c hh a f → f 0 + f 1 + f 2 + f 3 + f 4 + f 5 ≤ n → ∃ d, TInv c hh a d ∧ TFix c hh a d := by
  intro n
  induction n with
  | zero =>
    intro f hf hn
    refine ⟨f, hf, fun s t hs ht _ _ => ?_⟩
    have : f t = 0 := by
      rcases (show t = 0 ∨ t = 1 ∨ t = 2 ∨ t = 3 ∨ t = 4 ∨ t = 5 by omega) with rfl | rfl | rfl | rfl | rfl | rfl <;> omega
    omega
  | succ n ih =>
    intro f hf hn
    by_cases hx : TFix c hh a f
    · exact ⟨f, hf, hx⟩
    · have hx2 : ∃ s t, s < 6 ∧ t < 6 ∧ ¬ c 2 (6 * s + t) = 0 ∧ f s < 1000000 ∧ cst a f s + wy c hh s t < f t := Classical.byContradiction (fun g => hx (fun s t hs ht h1 h2 => Nat.le_of_not_lt (fun h3 => g ⟨s, t, hs, ht, h1, h2, h3⟩)))
      obtain ⟨s, t, hs, ht, hc⟩ := hx2
      have h1 := hf.rlv hs ht
      rw [rl_y hc] at h1
      exact ih _ h1 (by have := up_meas ht hc.2.2; omega)
def Bt (d f : Nat → Nat) : Prop := ∀ v, v < 6 → d v ≤ f v
theorem Bt.rlv {d f : Nat → Nat} {s t : Nat} (hd : TFix c hh a d) (h : Bt d f) (hs : s < 6) (ht : t < 6) : Bt d (rl c hh a f s t) := by
  intro v hv
  by_cases hc : ¬ c 2 (6 * s + t) = 0 ∧ f s < 1000000 ∧ cst a f s + wy c hh s t < f t
  · rw [rl_y hc]
    by_cases e : v = t
    · subst e
      rw [va_upeq]
      exact Nat.le_trans (hd s v hs ht hc.1 (Nat.lt_of_le_of_lt (h s hs) hc.2.1)) (Nat.add_le_add_right (cst_mono (h s hs)) _)
    · rw [va_upne _ _ e]; exact h v hv
  · rw [rl_n hc]; exact h v hv
theorem Bt.rlTv {d f : Nat → Nat} {s : Nat} (hd : TFix c hh a d) (h : Bt d f) (hs : s < 6) : ∀ t, t ≤ 6 → Bt d (rlT c hh a f s t)
  | 0, _ => h
  | t + 1, ht => (Bt.rlTv hd h hs t (by omega)).rlv hd hs (by omega)
theorem Bt.rlSv {d f : Nat → Nat} (hd : TFix c hh a d) (h : Bt d f) : ∀ s, s ≤ 6 → Bt d (rlS c hh a f s)
  | 0, _ => h
  | s + 1, hs => (Bt.rlSv hd h s (by omega)).rlTv hd (by omega) 6 (Nat.le_refl _)
theorem rd_at (d f : Nat → Nat) (hd : TFix c hh a d) (h : Bt d f) {s t : Nat} (hs : s < 6) (ht : t < 6) : ∃ g, Bt d g ∧ (∀ v, g v ≤ f v) ∧ ∀ v, rlS c hh a f 6 v ≤ rl c hh a g s t v := by
  refine ⟨rlT c hh a (rlS c hh a f s) s t, (h.rlSv hd s (by omega)).rlTv hd hs t (by omega), fun v => ?_, fun v => ?_⟩
  · have h1 := rlT_le (c := c) (hh := hh) (a := a) (rlS c hh a f s) s v 0 t
    have h2 := rlS_le (c := c) (hh := hh) (a := a) f v 0 s
    rw [Nat.zero_add] at h1 h2
    exact Nat.le_trans h1 h2
  · have h1 := rlS_le (c := c) (hh := hh) (a := a) f v (s + 1) (5 - s)
    rw [show s + 1 + (5 - s) = 6 by omega] at h1
    have h2 := rlT_le (c := c) (hh := hh) (a := a) (rlS c hh a f s) s v (t + 1) (5 - t)
    rw [show t + 1 + (5 - t) = 6 by omega] at h2
    exact Nat.le_trans h1 h2
theorem settle1 {d f : Nat → Nat} (hw : TW c hh) (hI : TInv c hh a d) (hd : TFix c hh a d) (hf : TInv c hh a f) (h : Bt d f) : ∀ (n v : Nat), d v ≤ n → v < 6 → f v ≠ d v → ∃ u, u < 6 ∧ f u ≠ d u ∧ rlS c hh a f 6 u = d u := by
  intro n
  induction n with
  | zero =>
    intro v hn hv hne
    exfalso
    have hva : v ≠ a := fun e => hne (by rw [e, hf.1, hI.1])
    have h1 := hf.2.1 v hv
    have h2 := h v hv
    obtain ⟨s, g1, g2, g3, g4⟩ := hI.2.2 v hv hva (by omega)
    have := hw s v g1 hv
    omega
  | succ n ih =>
    intro v hn hv hne
    have hva : v ≠ a := fun e => hne (by rw [e, hf.1, hI.1])
    have h1 := hf.2.1 v hv
    have h2 := h v hv
    obtain ⟨s, g1, g2, g3, g4⟩ := hI.2.2 v hv hva (by omega)
    have hw1 := hw s v g1 hv
    have hge := cst_ge d s hI.1
    by_cases hs : f s = d s
    · refine ⟨v, hv, hne, ?_⟩
      obtain ⟨g, q1, q2, q3⟩ := rd_at d f hd h g1 hv
      have e1 : g s = d s := Nat.le_antisymm (by rw [← hs]; exact q2 s) (q1 s g1)
      have e2 : rl c hh a g s v v ≤ d v := by
        by_cases hc : ¬ c 2 (6 * s + v) = 0 ∧ g s < 1000000 ∧ cst a g s + wy c hh s v < g v
        · rw [rl_y hc, va_upeq, cst_eq e1]; exact g4
        · rw [rl_n hc]
          have : ¬ cst a g s + wy c hh s v < g v := fun q => hc ⟨g2, by rw [e1]; exact g3, q⟩
          rw [cst_eq e1] at this
          omega
      have e3 := (h.rlSv hd 6 (Nat.le_refl _)) v hv
      exact Nat.le_antisymm (Nat.le_trans (q3 v) e2) e3
    · exact ih s (by omega) g1 hs
def cuN (f d : Nat → Nat) : Nat → Nat
  | 0 => 0
  | v + 1 => cuN f d v + if f v = d v then 0 else 1
theorem cu_0 {f d : Nat → Nat} : ∀ n, cuN f d n = 0 → ∀ v, v < n → f v = d v
  | 0, _, v, hv => absurd hv (Nat.not_lt_zero _)
  | n + 1, h, v, hv => by
    rw [cuN] at h
    by_cases e : f n = d n
    · rw [if_pos e] at h
      by_cases ev : v = n
      · rw [ev]; exact e
      · exact cu_0 n (by omega) v (by omega)
    · rw [if_neg e] at h; omega
theorem cu_le {f g d : Nat → Nat} (h : ∀ v, f v = d v → g v = d v) : ∀ n, cuN g d n ≤ cuN f d n
  | 0 => Nat.le_refl _
  | n + 1 => by
    have := cu_le h n
    rw [cuN, cuN]
    by_cases e : f n = d n
    · rw [if_pos e, if_pos (h n e)]; omega
    · rw [if_neg e]; split <;> omega
theorem cu_lt {f g d : Nat → Nat} (h : ∀ v, f v = d v → g v = d v) {u : Nat} (hu : f u ≠ d u) (hg : g u = d u) : ∀ n, u < n → cuN g d n < cuN f d n
  | 0, hn => absurd hn (Nat.not_lt_zero _)
  | n + 1, hn => by
    rw [cuN, cuN]
    by_cases e : u = n
    · subst e
      have := cu_le h u
      rw [if_pos hg, if_neg hu]; omega
    · have := cu_lt h hu hg n (by omega)
      by_cases e : f n = d n
      · rw [if_pos e, if_pos (h n e)]; omega
      · rw [if_neg e]; split <;> omega
theorem cu_n (f d : Nat → Nat) : ∀ n, cuN f d n ≤ n
  | 0 => Nat.le_refl _
  | n + 1 => by have := cu_n f d n; rw [cuN]; split <;> omega
theorem cu_one {f d : Nat → Nat} {u : Nat} (h : f u = d u) : ∀ n, u < n → cuN f d n + 1 ≤ n
  | 0, hn => absurd hn (Nat.not_lt_zero _)
  | n + 1, hn => by
    rw [cuN]
    by_cases e : u = n
    · subst e
      have := cu_n f d u
      rw [if_pos h]; omega
    · have := cu_one h n (by omega)
      split <;> omega
theorem rd_cu {d : Nat → Nat} (hw : TW c hh) (ha : a < 6) (hI : TInv c hh a d) (hd : TFix c hh a d) : ∀ k, Bt d (rdN c hh a k) ∧ cuN (rdN c hh a k) d 6 ≤ 5 - k
  | 0 => by
    refine ⟨fun v hv => ?_, ?_⟩
    · show d v ≤ tr0 a v
      unfold tr0
      split
      · rename_i e; rw [e, hI.1]; exact Nat.le_refl _
      · exact hI.2.1 v hv
    · have := cu_one (f := rdN c hh a 0) (d := d) (u := a) (by show tr0 a a = d a; rw [hI.1]; exact if_pos rfl) 6 ha
      omega
  | k + 1 => by
    obtain ⟨h1, h2⟩ := rd_cu hw ha hI hd k
    have h3 := h1.rlSv hd 6 (Nat.le_refl _)
    have hle : ∀ v, rlS c hh a (rdN c hh a k) 6 v ≤ rdN c hh a k v := fun v => by
      have := rlS_le (c := c) (hh := hh) (a := a) (rdN c hh a k) v 0 6
      exact this
    refine ⟨h3, ?_⟩
    by_cases hz : ∃ v, v < 6 ∧ rdN c hh a k v ≠ d v
    · obtain ⟨v, hv, hne⟩ := hz
      obtain ⟨u, hu, g1, g2⟩ := settle1 hw hI hd (TInv.rd k) h1 (d v) v (Nat.le_refl _) hv hne
      have h6 : cuN (fun v => if v < 6 then rlS c hh a (rdN c hh a k) 6 v else d v) d 6 < cuN (fun v => if v < 6 then rdN c hh a k v else d v) d 6 := by
        refine cu_lt (fun v e => ?_) (u := u) (by simp only [if_pos hu]; exact g1) (by simp only [if_pos hu]; exact g2) 6 hu
        by_cases hv6 : v < 6
        · simp only [if_pos hv6] at e ⊢
          exact Nat.le_antisymm (by rw [← e]; exact hle v) (h3 v hv6)
        · simp only [if_neg hv6]
      have e1 : ∀ (q : Nat → Nat), cuN (fun v => if v < 6 then q v else d v) d 6 = cuN q d 6 := fun q => rfl
      rw [e1, e1] at h6
      show cuN (rlS c hh a (rdN c hh a k) 6) d 6 ≤ _
      omega
    · have hall : ∀ v, v < 6 → rdN c hh a k v = d v := fun v hv => Classical.byContradiction (fun g => hz ⟨v, hv, g⟩)
      have h8 : ∀ n, n ≤ 6 → cuN (rlS c hh a (rdN c hh a k) 6) d n = 0 := by
        intro n
        induction n with
        | zero => intro _; rfl
        | succ n ih =>
          intro hn
          rw [cuN, ih (by omega), if_pos (Nat.le_antisymm (by rw [← hall n (by omega)]; exact hle n) (h3 n (by omega)))]
      show cuN (rlS c hh a (rdN c hh a k) 6) d 6 ≤ _
      rw [h8 6 (Nat.le_refl _)]
      exact Nat.zero_le _
theorem rd_56 (hw : TW c hh) (ha : a < 6) : ∀ v, v < 6 → rdN c hh a 6 v = rdN c hh a 5 v := by
  obtain ⟨d, hI, hd⟩ := ex_fix (c := c) (hh := hh) (a := a) _ (tr0 a) TInv.zero (Nat.le_refl _)
  obtain ⟨b5, c5⟩ := rd_cu hw ha hI hd 5
  obtain ⟨b6, c6⟩ := rd_cu hw ha hI hd 6
  intro v hv
  have e6 : rdN c hh a 6 v = d v := cu_0 6 (by omega) v hv
  have e5 : rdN c hh a 5 v = d v := cu_0 6 (by omega) v hv
  rw [e6, e5]
theorem rlT_self {f : Nat → Nat} {s : Nat} (hf : f a = 0) (h0 : TInv c hh a f) (hs : s < 6) : ∀ t, t ≤ 6 → rlT c hh a f s t s = f s
  | 0, _ => rfl
  | t + 1, ht => by
    have ih := rlT_self hf h0 hs t (by omega)
    have hI := h0.rlTv hs t (by omega)
    rw [rlT]
    by_cases hc : ¬ c 2 (6 * s + t) = 0 ∧ rlT c hh a f s t s < 1000000 ∧ cst a (rlT c hh a f s t) s + wy c hh s t < rlT c hh a f s t t
    · rw [rl_y hc]
      by_cases e : s = t
      · subst e
        have := cst_ge (rlT c hh a f s s) s hI.1
        omega
      · rw [va_upne _ _ e]; exact ih
    · rw [rl_n hc]; exact ih
theorem rlT_far {f : Nat → Nat} {s : Nat} (hfs : ¬ f s < 1000000) : ∀ t, rlT c hh a f s t = f
  | 0 => rfl
  | t + 1 => by rw [rlT, rlT_far hfs t]; exact rl_n (fun h => hfs h.2.1)
end TR
