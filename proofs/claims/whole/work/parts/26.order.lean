theorem isN_nI {k b : Nat} (h : k < b) (hb : b < 2147483648 := by decide) : isN (nI k) b := by
  have e : tn (nI k) = k := tnt h hb
  exact ⟨by rw [e], by rw [e]; exact h⟩
theorem isN.le {x : Int32} {a b : Nat} (h : isN x a) (hb : a ≤ b) : isN x b := ⟨h.1, Nat.lt_of_lt_of_le h.2 hb⟩
/-- a world in order: buses that are told, in minute m -/
def WI (P : Nat → Int32) (nb m : Nat) : Prop := P 234 = nI m ∧ (∀ b, b < 12 → isN (P (84 + b)) 6 ∧ isN (P (108 + b)) 6 ∧ isN (P (156 + b)) 6 ∧ ((P (72 + b) = nI 3 ∨ P (72 + b) = nI 4) → ∃ q, q < 2000 ∧ P (132 + b) = nI (q + 1))) ∧ ∀ b, nb ≤ b → b < 12 → P (72 + b) = nI 0
def crit (i : Nat) : Prop := i = 234 ∨ 72 ≤ i ∧ i < 96 ∨ 108 ≤ i ∧ i < 120 ∨ 132 ≤ i ∧ i < 144 ∨ 156 ≤ i ∧ i < 168
theorem WI.congr {P P2 : Nat → Int32} {nb m : Nat} (h : WI P nb m) (e : ∀ i, crit i → P2 i = P i) : WI P2 nb m := by
  obtain ⟨h1, h2, h3⟩ := h
  refine ⟨by rw [e _ (by unfold crit; omega)]; exact h1, fun b hb => ?_, fun b h4 h5 => by rw [e _ (by unfold crit; omega)]; exact h3 b h4 h5⟩
  rw [e (84 + b) (by unfold crit; omega), e (108 + b) (by unfold crit; omega), e (156 + b) (by unfold crit; omega), e (72 + b) (by unfold crit; omega), e (132 + b) (by unfold crit; omega)]
  exact h2 b hb
theorem WI.bus {P P2 : Nat → Int32} {nb m b : Nat} (h : WI P nb m) (hb : b < nb) (h12 : nb ≤ 12) (e : ∀ i, crit i → i ≠ 72 + b → i ≠ 84 + b → i ≠ 108 + b → i ≠ 132 + b → i ≠ 156 + b → P2 i = P i) (h84 : isN (P2 (84 + b)) 6) (h108 : isN (P2 (108 + b)) 6) (h156 : isN (P2 (156 + b)) 6) (hl : (P2 (72 + b) = nI 3 ∨ P2 (72 + b) = nI 4) → ∃ q, q < 2000 ∧ P2 (132 + b) = nI (q + 1)) : WI P2 nb m := by
  obtain ⟨h1, h2, h3⟩ := h
  refine ⟨by rw [e _ (by unfold crit; omega) (by omega) (by omega) (by omega) (by omega) (by omega)]; exact h1, fun b2 hb2 => ?_, fun b2 h4 h5 => by rw [e _ (by unfold crit; omega) (by omega) (by omega) (by omega) (by omega) (by omega)]; exact h3 b2 h4 h5⟩
  by_cases q : b2 = b
  · subst q; exact ⟨h84, h108, h156, hl⟩
  · rw [e (84 + b2) (by unfold crit; omega) (by omega) (by omega) (by omega) (by omega) (by omega), e (108 + b2) (by unfold crit; omega) (by omega) (by omega) (by omega) (by omega) (by omega), e (156 + b2) (by unfold crit; omega) (by omega) (by omega) (by omega) (by omega) (by omega), e (72 + b2) (by unfold crit; omega) (by omega) (by omega) (by omega) (by omega) (by omega), e (132 + b2) (by unfold crit; omega) (by omega) (by omega) (by omega) (by omega) (by omega)]
    exact h2 b2 hb2
theorem WI.put {P : Nat → Int32} {nb m i : Nat} {v : Int32} (h : WI P nb m) (hi : ¬ crit i) : WI (upd P i v) nb m := h.congr (fun j hj => upd_ne _ _ (fun e => hi (by rw [← e]; exact hj)))
theorem WI.line {P : Nat → Int32} {nb m b s : Nat} (h : WI P nb m) (hb : b < nb) (h12 : nb ≤ 12) (hs : s < 6) : WI (lineP P b s) nb m := by
  have hc := h.2.1 b (by omega)
  refine h.bus hb h12 (fun i hi h1 h2 h3 h4 h5 => ?_) ?_ ?_ ?_ ?_
  · unfold crit at hi
    unfold lineP
    rw [upd_ne _ _ (by omega), upd_ne _ _ (by omega), upd_ne _ _ (by omega), upd_ne _ _ (by omega), upd_ne _ _ (by omega), upd_ne _ _ (by omega), upd_ne _ _ (by omega)]
  · unfold lineP; simp (disch := omega) only [upd_ne, upd_eq]; exact isN_nI hs
  · unfold lineP; simp (disch := omega) only [upd_ne, upd_eq]; exact hc.2.1
  · unfold lineP; simp (disch := omega) only [upd_ne, upd_eq]; exact hc.2.2.1
  · intro z
    unfold lineP at z
    simp (disch := omega) only [upd_ne, upd_eq] at z
    exact absurd z (by decide)
theorem WI.arrv {P : Nat → Int32} {nb m b kd s a : Nat} (h : WI P nb m) (hb : b < nb) (h12 : nb ≤ 12) (hs : s < 6) (ha : a < 6) : WI (arr P b kd s a) nb m := by
  unfold arr
  exact ((h.put (by unfold crit; omega)).put (by unfold crit; omega)).line hb h12 (by split <;> assumption)
theorem WI.mv {P : Nat → Int32} {nb m b kd s a : Nat} (h : WI P nb m) (hb : b < nb) (h12 : nb ≤ 12) (hs : s < 6) (ha : a < 6) : WI (mv1 P b kd s a) nb m := by
  have hc := h.2.1 b (by omega)
  have hself : P (72 + b) = nI 3 → P (132 + b) - nI 1 ≠ 0 → WI (upd P (132 + b) (P (132 + b) - nI 1)) nb m := by
    intro e3 hne
    refine h.bus hb h12 (fun i hi h1 h2 h3 h4 h5 => upd_ne _ _ h4) ?_ ?_ ?_ ?_
    · simp (disch := omega) only [upd_ne]; exact hc.1
    · simp (disch := omega) only [upd_ne]; exact hc.2.1
    · simp (disch := omega) only [upd_ne]; exact hc.2.2.1
    · intro _
      obtain ⟨q, hq, e⟩ := hc.2.2.2 (Or.inl e3)
      rw [e, pk_sub (by omega : 1 ≤ q + 1), Nat.add_sub_cancel] at hne
      refine ⟨q - 1, by omega, ?_⟩
      rw [upd_eq, e, pk_sub (by omega : 1 ≤ q + 1), Nat.add_sub_cancel]
      have : q ≠ 0 := fun z => hne (by rw [z]; exact nI_0)
      rw [show q - 1 + 1 = q by omega]
  unfold mv1
  split
  · rename_i e4
    split
    · exact h
    · refine h.bus hb h12 (fun i hi h1 h2 h3 h4 h5 => upd_ne _ _ h1) ?_ ?_ ?_ ?_
      · simp (disch := omega) only [upd_ne]; exact hc.1
      · simp (disch := omega) only [upd_ne]; exact hc.2.1
      · simp (disch := omega) only [upd_ne]; exact hc.2.2.1
      · intro _
        simp (disch := omega) only [upd_ne]
        exact hc.2.2.2 (Or.inr e4)
  · split
    · rename_i e3
      split
      · rename_i e0
        unfold arr
        have hsa : (if kd = 1 then s else a) < 6 := by split <;> assumption
        generalize (if kd = 1 then s else a) = t at hsa ⊢
        refine h.bus hb h12 (fun i hi h1 h2 h3 h4 h5 => ?_) ?_ ?_ ?_ ?_
        · unfold crit at hi
          unfold lineP
          simp (disch := omega) only [upd_ne]
        · unfold lineP
          simp (disch := omega) only [upd_ne, upd_eq]
          exact isN_nI hsa
        · unfold lineP
          simp (disch := omega) only [upd_ne, upd_eq]; exact hc.2.1
        · unfold lineP
          simp (disch := omega) only [upd_ne, upd_eq]; exact hc.2.2.1
        · intro z
          unfold lineP at z
          simp (disch := omega) only [upd_ne, upd_eq] at z
          exact absurd z (by decide)
      · rename_i e0
        exact hself e3 e0
    · exact h
theorem WI.stlv {P : Nat → Int32} {nb m b : Nat} {e lw : Int32} (h : WI P nb m) (hb : b < 12) : WI (stl P b e lw) nb m := by
  unfold stl
  split
  · exact ((h.put (by unfold crit; omega)).put (by unfold crit; omega)).put (by unfold crit; omega)
  · exact (((h.put (by unfold crit; omega)).put (by unfold crit; omega)).put (by unfold crit; omega)).put (by unfold crit; omega)
theorem WI.cm {c : T2} {P : Nat → Int32} {nb m m2 : Nat} (h : WI P nb m) : ∀ k, k ≤ 36 → WI (cmN c P m2 k) nb m
  | 0, _ => h
  | k + 1, hk => by
    rw [cmN, cm1]
    exact (((WI.cm h k (by omega)).put (by unfold crit; omega)).put (by unfold crit; omega)).put (by unfold crit; omega)
/-- the city in order -/
def TI (c : T2) : Prop := (∀ i, i < 36 → isN (c 2 i) 61 ∧ isN (c 3 i) 100) ∧ (∀ h, h < 24 → isN (c 4 h) 51) ∧ ∀ b, b < 12 → isN (c 9 b) 6
theorem way_N {c : T2} {a b h : Nat} (hT : TI c) (ha : a < 6) (hb : b < 6) (hh : h < 24) : ∃ q, q < 400 ∧ way c a b h = nI (q + 1) := by
  obtain ⟨e1, l1⟩ := (hT.1 (6 * a + b) (by omega)).1
  obtain ⟨e2, l2⟩ := hT.2.1 h hh
  unfold way
  rw [e1, e2, pk_mul]
  generalize tn (c 2 (6 * a + b)) = u at l1
  generalize tn (c 4 h) = v at l2
  have hb2 : u * v ≤ 60 * 50 := Nat.mul_le_mul (by omega) (by omega)
  rw [pk_div (by omega) (by decide) (by decide)]
  split
  · exact ⟨0, by omega, rfl⟩
  · rename_i hz
    have : ¬ u * v / 10 < 1 := fun z => hz (nI_lt z (by decide))
    exact ⟨u * v / 10 - 1, by omega, by rw [show u * v / 10 - 1 + 1 = u * v / 10 by omega]⟩
theorem kMin_N {kd q : Nat} (hq : q < 400) : ∃ r, r < 2000 ∧ kMin kd (nI (q + 1)) = nI (r + 1) := by
  unfold kMin
  split
  · rw [nI_add, pk_div (by omega) (by decide) (by decide)]
    exact ⟨(q + 1 + 1) / 2 - 1, by omega, by rw [show (q + 1 + 1) / 2 - 1 + 1 = (q + 1 + 1) / 2 by omega]⟩
  · split
    · rw [nI_add]; exact ⟨q + 10, by omega, by rw [show q + 1 + 10 = q + 10 + 1 by omega]⟩
    · exact ⟨q, by omega, rfl⟩
theorem WI.sv2v {c : T2} {P : Nat → Int32} {nb m m2 s b kd a : Nat} (h : WI P nb m) (hT : TI c) (hb : b < nb) (h12 : nb ≤ 12) (hs : s < 6) (ha : a < 6) : WI (sv2 c P nb m2 s b kd a) nb m := by
  have h1 : WI (letP P s a b (inN c P s a b kd)) nb m := by
    unfold letP
    exact (h.put (by unfold crit; omega)).put (by unfold crit; omega)
  unfold sv2 go2
  split
  · have hc := h1.2.1 b (by omega)
    obtain ⟨q, hq, eq⟩ := way_N (h := hr m2) hT hs ha (hr_lt m2)
    rw [eq]
    obtain ⟨r, hr2, er⟩ := kMin_N (kd := kd) hq
    rw [er]
    generalize letP P s a b (inN c P s a b kd) = P1 at h1 hc ⊢
    refine h1.bus hb h12 (fun i hi h1 h2 h3 h4 h5 => ?_) ?_ ?_ ?_ ?_
    · unfold crit at hi
      unfold lvP
      rw [upd_ne _ _ (by omega), upd_ne _ _ (by omega), upd_ne _ _ (by omega), upd_ne _ _ (by omega), upd_ne _ _ (by omega)]
    · unfold lvP; simp (disch := omega) only [upd_ne]; exact hc.1
    · unfold lvP; simp (disch := omega) only [upd_ne]; exact hc.2.1
    · unfold lvP; simp (disch := omega) only [upd_ne]; exact hc.2.2.1
    · intro _
      refine ⟨r, hr2, ?_⟩
      unfold lvP; simp (disch := omega) only [upd_ne, upd_eq]
  · exact h1
theorem WI.svv {c : T2} {P : Nat → Int32} {nb m m2 s : Nat} (h : WI P nb m) (hT : TI c) (h12 : nb ≤ 12) (hs : s < 6) : WI (sv c P nb m2 s) nb m := by
  unfold sv
  split
  · rename_i b e
    have := (lf_lt e).1
    exact h.sv2v hT this h12 hs (h.2.1 b (by omega)).2.1.2
  · split
    · exact h
    · rename_i b e
      have hbn := (ff_lt e).1
      split
      · exact h
      · rename_i a e2
        have ha := (am_lt e2).1
        have hc := h.2.1 b (by omega)
        refine WI.sv2v ?_ hT hbn h12 hs ha
        refine h.bus hbn h12 (fun i hi h1 h2 h3 h4 h5 => ?_) ?_ ?_ ?_ ?_
        · unfold crit at hi
          unfold upP
          rw [upd_ne _ _ (by omega), upd_ne _ _ (by omega), upd_ne _ _ (by omega), upd_ne _ _ (by omega)]
        · unfold upP; simp (disch := omega) only [upd_ne]; exact hc.1
        · unfold upP; simp (disch := omega) only [upd_ne, upd_eq]; exact isN_nI ha
        · unfold upP; simp (disch := omega) only [upd_ne, upd_eq]; exact hT.2.2 b (by omega)
        · intro z
          unfold upP at z
          simp (disch := omega) only [upd_ne, upd_eq] at z
          exact absurd z (by decide)
