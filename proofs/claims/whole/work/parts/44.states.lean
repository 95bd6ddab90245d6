/-- what buses do, and the numbers that stages give -/
def St (P : Nat → Int32) (q : Nat) : Prop := (∀ b, b < 12 → isN (P (72 + b)) 5) ∧ ∀ s, s < 6 → isN (P (228 + s)) (q + 1)
def scr (i : Nat) : Prop := 72 ≤ i ∧ i < 84 ∨ 228 ≤ i ∧ i < 234
theorem St.congr {P P2 : Nat → Int32} {q : Nat} (h : St P q) (e : ∀ i, scr i → P2 i = P i) : St P2 q :=
  ⟨fun b hb => by rw [e _ (by unfold scr; omega)]; exact h.1 b hb, fun s hs => by rw [e _ (by unfold scr; omega)]; exact h.2 s hs⟩
theorem St.put {P : Nat → Int32} {q i : Nat} {v : Int32} (h : St P q) (hi : ¬ scr i) : St (upd P i v) q := h.congr (fun j hj => upd_ne _ _ (fun e => hi (by rw [← e]; exact hj)))
theorem St.mono {P : Nat → Int32} {q r : Nat} (h : St P q) (hq : q ≤ r) : St P r := ⟨h.1, fun s hs => (h.2 s hs).le (by omega)⟩
theorem St.does {P : Nat → Int32} {q b k : Nat} (h : St P q) (hb : b < 12) (hk : k < 5) : St (upd P (72 + b) (nI k)) q := by
  refine ⟨fun b2 hb2 => ?_, fun s hs => ?_⟩
  · by_cases e : b2 = b
    · subst e; rw [upd_eq]; exact isN_nI hk
    · rw [upd_ne _ _ (by omega)]; exact h.1 b2 hb2
  · rw [upd_ne _ _ (by omega)]; exact h.2 s hs
theorem St.line {P : Nat → Int32} {q b s : Nat} (h : St P q) (hb : b < 12) (hs : s < 6) (hq : q < 900000000) : St (lineP P b s) (q + 1) := by
  unfold lineP
  refine ⟨fun b2 hb2 => ?_, fun s2 hs2 => ?_⟩
  · by_cases e : b2 = b
    · subst e
      simp (disch := omega) only [upd_ne, upd_eq]
      exact isN_nI (by decide)
    · simp (disch := omega) only [upd_ne]; exact h.1 b2 hb2
  · by_cases e : s2 = s
    · subst e
      simp (disch := omega) only [upd_ne, upd_eq]
      exact isN_add (h.2 s2 hs2) (isN_nI (by decide)) (by omega)
    · simp (disch := omega) only [upd_ne]; exact (h.2 s2 hs2).le (by omega)
theorem St.mv {P : Nat → Int32} {q b kd s a : Nat} (h : St P q) (hb : b < 12) (hs : s < 6) (ha : a < 6) (hq : q < 900000000) : St (mv1 P b kd s a) (q + 1) := by
  have hm := h.mono (Nat.le_succ q)
  unfold mv1
  split
  · split
    · exact hm
    · exact hm.does hb (by decide)
  · split
    · split
      · unfold arr
        refine St.line ?_ hb (by split <;> assumption) hq
        exact ((h.put (by unfold scr; omega)).put (by unfold scr; omega)).put (by unfold scr; omega)
      · exact hm.put (by unfold scr; omega)
    · exact hm
theorem St.stlv {P : Nat → Int32} {q b : Nat} {e lw : Int32} (h : St P q) (hb : b < 12) : St (stl P b e lw) q := by
  unfold stl
  split
  · exact ((h.put (by unfold scr; omega)).put (by unfold scr; omega)).put (by unfold scr; omega)
  · exact (((h.put (by unfold scr; omega)).put (by unfold scr; omega)).put (by unfold scr; omega)).put (by unfold scr; omega)
theorem St.sv2v {c : T2} {P : Nat → Int32} {q nb m b s a kd : Nat} (h : St P q) (hb : b < 12) (hs : s < 6) (ha : a < 6) : St (sv2 c P nb m s b kd a) q := by
  have h1 : St (letP P s a b (inN c P s a b kd)) q := by
    unfold letP
    exact (h.put (by unfold scr; omega)).put (by unfold scr; omega)
  unfold sv2 go2
  split
  · unfold lvP
    exact ((((h1.does hb (by decide)).put (by unfold scr; omega)).put (by unfold scr; omega)).put (by unfold scr; omega)).put (by unfold scr; omega)
  · exact h1
theorem St.svv {c : T2} {P : Nat → Int32} {q nb m s : Nat} (h : St P q) (hW : WI P nb m) (h12 : nb ≤ 12) (hs : s < 6) : St (sv c P nb m s) q := by
  unfold sv
  split
  · rename_i b e
    have := (lf_lt e).1
    exact h.sv2v (by omega) hs (hW.2.1 b (by omega)).2.1.2
  · split
    · exact h
    · rename_i b e
      have := (ff_lt e).1
      split
      · exact h
      · rename_i a e2
        have ha := (am_lt e2).1
        refine St.sv2v ?_ (by omega) hs ha
        unfold upP
        exact (((h.does (by omega) (by decide)).put (by unfold scr; omega)).put (by unfold scr; omega)).put (by unfold scr; omega)
theorem St.svs {c : T2} {P : Nat → Int32} {q nb m : Nat} (h : St P q) (hW : WI P nb m) (hT : TI c) (h12 : nb ≤ 12) : ∀ s, s ≤ 6 → St (svN c P nb m s) q
  | 0, _ => h
  | s + 1, hs => (St.svs h hW hT h12 s (by omega)).svv (hW.svs hT h12 s (by omega)) h12 (by omega)
theorem St.mvs {P : Nat → Int32} {q nb m : Nat} (h : St P q) (hW : WI P nb m) (h12 : nb ≤ 12) (hq : q < 800000000) : ∀ b, b ≤ nb → St (mvN P b) (q + b)
  | 0, _ => h
  | b + 1, hb => by
    have hc := (hW.mvs h12 b (by omega)).2.1 b (by omega)
    exact (St.mvs h hW h12 hq b (by omega)).mv (by omega) hc.1.2 hc.2.1.2 (by omega)
theorem St.sts {c : T2} {P : Nat → Int32} {q nb m : Nat} (h : St P q) (h12 : nb ≤ 12) : ∀ b, b ≤ nb → St (stN c P nb m b) q
  | 0, _ => h
  | b + 1, hb => (St.sts h h12 b (by omega)).stlv (by omega)
theorem St.pass {c : T2} {P : Nat → Int32} {q nb m : Nat} (h : St P q) (hW : WI P nb m) (hT : TI c) (h12 : nb ≤ 12) (hq : q < 800000000) : St (passP c P nb m) (q + 12) := by
  have w1 := hW.cm (c := c) (m2 := m) 36 (Nat.le_refl _)
  have w2 := w1.svs hT h12 6 (Nat.le_refl _)
  have h1 : St (cmN c P m 36) q := h.congr (fun i hi => cmN_at (Nat.le_refl _) (by unfold scr at hi; omega))
  have h2 := h1.svs w1 hT h12 6 (Nat.le_refl _)
  have h3 := (h2.mvs w2 h12 hq nb (Nat.le_refl _)).mono (show q + nb ≤ q + 12 by omega)
  have h4 : St (pas1 c P nb m) (q + 12) := h3.put (by unfold scr; omega)
  unfold passP
  refine St.put ?_ (by unfold scr; omega)
  split
  · exact h4.sts h12 nb (Nat.le_refl _)
  · exact h4
theorem St.ps {c : T2} {P : Nat → Int32} {q nb m : Nat} (h : St P q) (hW : WI P nb m) (hT : TI c) (h12 : nb ≤ 12) (hq : q < 700000000) (hWs : ∀ k, m + k ≤ 14700 → WI (pN c P nb m k) nb (m + k)) : ∀ k, m + k ≤ 14700 → St (pN c P nb m k) (q + 12 * k)
  | 0, _ => h
  | k + 1, hk => by
    have h1 := St.ps h hW hT h12 hq hWs k (by omega)
    exact (h1.pass (hWs k (by omega)) hT h12 (by omega)).mono (by omega)
/-- a bus that loads: its runs are told one more just when it leaves -/
def Ld (P : Nat → Int32) (b : Nat) (r : Int32) : Prop := (P (72 + b) = nI 2 ∧ P (216 + b) = r) ∨ (P (72 + b) = nI 3 ∧ P (216 + b) = r + nI 1)
def Lm (P : Nat → Int32) (b : Nat) (r : Int32) : Prop := (P (72 + b) = nI 2 ∧ P (216 + b) = r) ∨ (¬ P (72 + b) = nI 2 ∧ P (216 + b) = r + nI 1)
theorem Ld.congr {P P2 : Nat → Int32} {b : Nat} {r : Int32} (h : Ld P b r) (e1 : P2 (72 + b) = P (72 + b)) (e2 : P2 (216 + b) = P (216 + b)) : Ld P2 b r := by unfold Ld; rw [e1, e2]; exact h
theorem Lm.congr {P P2 : Nat → Int32} {b : Nat} {r : Int32} (h : Lm P b r) (e1 : P2 (72 + b) = P (72 + b)) (e2 : P2 (216 + b) = P (216 + b)) : Lm P2 b r := by unfold Lm; rw [e1, e2]; exact h
theorem sv2_other {c : T2} {P : Nat → Int32} {nb m s b b2 kd a : Nat} (hs : s < 6) (ha : a < 6) (hb : b < 12) (hb2 : b2 < 12) (h : b ≠ b2) : sv2 c P nb m s b2 kd a (72 + b) = P (72 + b) ∧ sv2 c P nb m s b2 kd a (216 + b) = P (216 + b) := by
  unfold sv2 go2 lvP letP
  split <;> constructor <;> simp (disch := omega) only [upd_ne]
theorem Ld.svv {c : T2} {P : Nat → Int32} {nb m s b : Nat} {r : Int32} (h : Ld P b r) (hW : WI P nb m) (h12 : nb ≤ 12) (hb : b < 12) (hs : s < 6) : Ld (sv c P nb m s) b r := by
  unfold sv
  split
  · rename_i b2 e
    obtain ⟨q1, q2, q3⟩ := lf_lt e
    have ha := (hW.2.1 b2 (by omega)).2.1.2
    generalize tn (P (108 + b2)) = a at ha
    generalize tn (P (156 + b2)) = kd
    by_cases eb : b = b2
    · subst eb
      rcases h with ⟨h1, h2⟩ | ⟨h1, h2⟩
      · unfold sv2 go2
        split
        · right
          unfold lvP letP
          constructor
          · simp (disch := omega) only [upd_ne, upd_eq]
          · simp (disch := omega) only [upd_ne, upd_eq]; rw [h2]
        · left
          unfold letP
          constructor
          · simp (disch := omega) only [upd_ne]; exact h1
          · simp (disch := omega) only [upd_ne]; exact h2
      · rw [h1] at q2
        exact absurd q2 (by decide)
    · obtain ⟨g1, g2⟩ := sv2_other (c := c) (P := P) (nb := nb) (m := m) (kd := kd) hs ha hb (by omega : b2 < 12) eb
      exact h.congr g1 g2
  · split
    · exact h
    · rename_i b2 e
      obtain ⟨q1, q2, q3⟩ := ff_lt e
      split
      · exact h
      · rename_i a e2
        have ha := (am_lt e2).1
        have eb : b ≠ b2 := by
          intro eb
          subst eb
          rcases h with ⟨h1, -⟩ | ⟨h1, -⟩
          · rw [h1] at q2; exact absurd q2 (by decide)
          · rw [h1] at q2; exact absurd q2 (by decide)
        obtain ⟨g1, g2⟩ := sv2_other (c := c) (P := upP c P b2 a) (nb := nb) (m := m) (kd := tn (c 9 b2)) hs ha hb (by omega : b2 < 12) eb
        refine h.congr (g1.trans ?_) (g2.trans ?_)
        · unfold upP; simp (disch := omega) only [upd_ne]
        · unfold upP; simp (disch := omega) only [upd_ne]
theorem Ld.svs {c : T2} {P : Nat → Int32} {nb m b : Nat} {r : Int32} (h : Ld P b r) (hW : WI P nb m) (hT : TI c) (h12 : nb ≤ 12) (hb : b < 12) : ∀ s, s ≤ 6 → Ld (svN c P nb m s) b r
  | 0, _ => h
  | s + 1, hs => (Ld.svs h hW hT h12 hb s (by omega)).svv (hW.svs hT h12 s (by omega)) h12 hb (by omega)
theorem Lm.mv {P : Nat → Int32} {b b2 kd s a : Nat} {r : Int32} (h : Lm P b r) (hb : b < 12) (hb2 : b2 < 12) (hs : s < 6) (ha : a < 6) : Lm (mv1 P b2 kd s a) b r := by
  have hsa : (if kd = 1 then s else a) < 6 := by split <;> assumption
  by_cases eb : b = b2
  · subst eb
    unfold mv1
    split
    · rename_i e4
      split
      · exact h
      · rcases h with ⟨h1, -⟩ | ⟨-, h2⟩
        · rw [h1] at e4; exact absurd e4 (by decide)
        · right
          refine ⟨by rw [upd_eq]; decide, by rw [upd_ne _ _ (by omega)]; exact h2⟩
    · split
      · rename_i e3
        rcases h with ⟨h1, -⟩ | ⟨-, h2⟩
        · rw [h1] at e3; exact absurd e3 (by decide)
        · right
          split
          · unfold arr
            generalize (if kd = 1 then s else a) = t at hsa ⊢
            unfold lineP
            constructor
            · simp (disch := omega) only [upd_ne, upd_eq]; decide
            · simp (disch := omega) only [upd_ne]; exact h2
          · constructor
            · rw [upd_ne _ _ (by omega), e3]; decide
            · rw [upd_ne _ _ (by omega)]; exact h2
      · exact h
  · refine h.congr ?_ ?_
    all_goals
      unfold mv1
      split
      · split
        · rfl
        · simp (disch := omega) only [upd_ne]
      · split
        · split
          · unfold arr
            generalize (if kd = 1 then s else a) = t at hsa ⊢
            unfold lineP
            simp (disch := omega) only [upd_ne]
          · simp (disch := omega) only [upd_ne]
        · rfl
theorem Lm.mvs {P : Nat → Int32} {nb m b : Nat} {r : Int32} (h : Lm P b r) (hW : WI P nb m) (h12 : nb ≤ 12) (hb : b < 12) : ∀ k, k ≤ nb → Lm (mvN P k) b r
  | 0, _ => h
  | k + 1, hk => by
    have hc := (hW.mvs h12 k (by omega)).2.1 k (by omega)
    exact (Lm.mvs h hW h12 hb k (by omega)).mv hb (by omega) hc.1.2 hc.2.1.2
theorem Lm.sts {c : T2} {P : Nat → Int32} {nb m b : Nat} {r : Int32} (h : Lm P b r) (h12 : nb ≤ 12) (hb : b < 12) : ∀ k, k ≤ nb → Lm (stN c P nb m k) b r
  | 0, _ => h
  | k + 1, hk => by
    have h1 := Lm.sts (c := c) (m := m) h h12 hb k (by omega)
    rw [stN, stB]
    refine h1.congr ?_ ?_
    all_goals
      unfold stl
      split
      · simp (disch := omega) only [upd_ne]
      · simp (disch := omega) only [upd_ne]
theorem Lm.pass {c : T2} {P : Nat → Int32} {nb m b : Nat} {r : Int32} (h1 : P (72 + b) = nI 2) (h2 : P (216 + b) = r) (hW : WI P nb m) (hT : TI c) (h12 : nb ≤ 12) (hb : b < 12) : Lm (passP c P nb m) b r := by
  have w1 := hW.cm (c := c) (m2 := m) 36 (Nat.le_refl _)
  have w2 := w1.svs hT h12 6 (Nat.le_refl _)
  have g1 : Ld (cmN c P m 36) b r := Or.inl ⟨by rw [cmN_at (Nat.le_refl _) (by omega)]; exact h1, by rw [cmN_at (Nat.le_refl _) (by omega)]; exact h2⟩
  have g2 := g1.svs w1 hT h12 hb 6 (Nat.le_refl _)
  have g3 : Lm (svN c (cmN c P m 36) nb m 6) b r := g2.elim Or.inl (fun g => Or.inr ⟨by rw [g.1]; decide, g.2⟩)
  have g4 := g3.mvs w2 h12 hb nb (Nat.le_refl _)
  have g5 : Lm (pas1 c P nb m) b r := g4.congr (upd_ne _ _ (by omega)) (upd_ne _ _ (by omega))
  have g6 : Lm (if m % 1440 = 1439 then stN c (pas1 c P nb m) nb m nb else pas1 c P nb m) b r := by
    split
    · exact g5.sts h12 hb nb (Nat.le_refl _)
    · exact g5
  exact g6.congr (upd_ne _ _ (by omega)) (upd_ne _ _ (by omega))
theorem ne_add1 (r : Int32) : ¬ r + nI 1 = r := by
  intro e
  have h := congrArg (fun z => z - r) e
  simp only [Int32.sub_self] at h
  have h3 : r + nI 1 - r = nI 1 := by rw [Int32.add_comm, Int32.add_sub_cancel]
  rw [h3] at h
  exact absurd h (by decide)
theorem Lm.iff {P : Nat → Int32} {b : Nat} {r : Int32} (h : Lm P b r) : P (216 + b) = r ↔ P (72 + b) = nI 2 := by
  rcases h with ⟨h1, h2⟩ | ⟨h1, h2⟩
  · exact ⟨fun _ => h1, fun _ => h2⟩
  · exact ⟨fun e => absurd (h2.symm.trans e) (ne_add1 r), fun e => absurd e h1⟩
