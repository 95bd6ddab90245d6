/-- numbers of a world within their bounds -/
def GV (c : T2) (P : Nat → Int32) (B w1 w2 w3 : Nat) : Prop := (∀ k, k < 36 → isN (P k) (B + 1)) ∧ (∀ k, k < 36 → isN (P (36 + k)) 100) ∧ (∀ b, b < 12 → isN (P (120 + b)) (tn (c 5 b) + 1)) ∧ isN (P 236) (w1 + 1) ∧ isN (P 237) (w2 + 1) ∧ isN (P 238) (w3 + 1)
def SE (c : T2) : Prop := ∀ b, b < 12 → isN (c 5 b) 41
def gcr (i : Nat) : Prop := i < 72 ∨ 120 ≤ i ∧ i < 132 ∨ 236 ≤ i ∧ i < 239
theorem isN_add {x y : Int32} {a b : Nat} (hx : isN x (a + 1)) (hy : isN y (b + 1)) (hb : a + b < 2000000000) : isN (x + y) (a + b + 1) := by
  obtain ⟨e1, l1⟩ := hx
  obtain ⟨e2, l2⟩ := hy
  rw [e1, e2, nI_add]
  have e : tn (nI (tn x + tn y)) = tn x + tn y := nI_clamp (by omega)
  exact ⟨by rw [e], by rw [e]; omega⟩
theorem isN_of {k b : Nat} (h : k < b) (hb : b < 2100000000) : isN (nI k) b := by
  have e : tn (nI k) = k := nI_clamp (by omega)
  exact ⟨by rw [e], by rw [e]; exact h⟩
theorem isN_sub {x y : Int32} (hx : x = nI (tn x)) (hy : y = nI (tn y)) (h : tn y ≤ tn x) : x - y = nI (tn x - tn y) := by
  generalize tn x = u at hx h ⊢
  generalize tn y = v at hy h ⊢
  rw [hx, hy, pk_sub h]
theorem GV.mono {c : T2} {P : Nat → Int32} {B w1 w2 w3 v1 v2 v3 : Nat} (h : GV c P B w1 w2 w3) (h1 : w1 ≤ v1) (h2 : w2 ≤ v2) (h3 : w3 ≤ v3) : GV c P B v1 v2 v3 := ⟨h.1, h.2.1, h.2.2.1, h.2.2.2.1.le (by omega), h.2.2.2.2.1.le (by omega), h.2.2.2.2.2.le (by omega)⟩
theorem GV.congr {c : T2} {P P2 : Nat → Int32} {B w1 w2 w3 : Nat} (h : GV c P B w1 w2 w3) (e : ∀ i, gcr i → P2 i = P i) : GV c P2 B w1 w2 w3 := by
  obtain ⟨h1, h2, h3, h4, h5, h6⟩ := h
  refine ⟨fun k hk => ?_, fun k hk => ?_, fun b hb => ?_, ?_, ?_, ?_⟩
  · rw [e _ (by unfold gcr; omega)]; exact h1 k hk
  · rw [e _ (by unfold gcr; omega)]; exact h2 k hk
  · rw [e _ (by unfold gcr; omega)]; exact h3 b hb
  · rw [e _ (by unfold gcr; omega)]; exact h4
  · rw [e _ (by unfold gcr; omega)]; exact h5
  · rw [e _ (by unfold gcr; omega)]; exact h6
theorem GV.put {c : T2} {P : Nat → Int32} {B w1 w2 w3 i : Nat} {v : Int32} (h : GV c P B w1 w2 w3) (hi : ¬ gcr i) : GV c (upd P i v) B w1 w2 w3 := h.congr (fun j hj => upd_ne _ _ (fun e => hi (by rw [← e]; exact hj)))
theorem GV.line {c : T2} {P : Nat → Int32} {B w1 w2 w3 b s : Nat} (h : GV c P B w1 w2 w3) (hb : b < 12) (hs : s < 6) (hSE : SE c) : GV c (lineP P b s) B w1 w2 w3 := by
  obtain ⟨h1, h2, h3, h4, h5, h6⟩ := h
  have hse := (hSE b hb).2
  unfold lineP
  refine ⟨fun k hk => ?_, fun k hk => ?_, fun b2 hb2 => ?_, ?_, ?_, ?_⟩
  · simp (disch := omega) only [upd_ne]; exact h1 k hk
  · simp (disch := omega) only [upd_ne]; exact h2 k hk
  · by_cases e : b2 = b
    · subst e
      simp (disch := omega) only [upd_ne, upd_eq]
      exact isN_of (by omega) (by omega)
    · simp (disch := omega) only [upd_ne]; exact h3 b2 hb2
  · simp (disch := omega) only [upd_ne]; exact h4
  · simp (disch := omega) only [upd_ne]; exact h5
  · simp (disch := omega) only [upd_ne]; exact h6
theorem half_N {x : Int32} (h : isN x 41) : isN (x / nI 2) 21 ∧ isN (x - x / nI 2) 41 ∧ isN (x - nI 0) 41 := by
  obtain ⟨e, l⟩ := h
  rw [e]
  generalize tn x = u at l
  rw [pk_div (by omega) (by decide) (by decide), pk_sub (by omega), pk_sub (by omega)]
  exact ⟨isN_of (by omega) (by decide), isN_of (by omega) (by decide), isN_of (by omega) (by decide)⟩
theorem GV.arrv {c : T2} {P : Nat → Int32} {B w1 w2 w3 b kd s a : Nat} (h : GV c P B w1 w2 w3) (hb : b < 12) (hs : s < 6) (ha : a < 6) (hSE : SE c) (hw : w1 + w2 + w3 < 1000000000) : GV c (arr P b kd s a) B (w1 + 20) (w2 + 40) w3 := by
  unfold arr
  have hso : isN (P (120 + b)) 41 := (h.2.2.1 b hb).le (by have := (hSE b hb).2; omega)
  have hh := half_N hso
  have hv : isN (if kd = 1 then P (120 + b) / nI 2 else nI 0) (20 + 1) ∧ isN (P (120 + b) - (if kd = 1 then P (120 + b) / nI 2 else nI 0)) (40 + 1) := by
    split
    · exact ⟨hh.1, hh.2.1⟩
    · exact ⟨isN_of (by decide) (by decide), hh.2.2⟩
  generalize (if kd = 1 then P (120 + b) / nI 2 else nI 0) = v at hv ⊢
  have hsa : (if kd = 1 then s else a) < 6 := by split <;> assumption
  generalize (if kd = 1 then s else a) = t at hsa ⊢
  refine GV.line ?_ hb hsa hSE
  obtain ⟨h1, h2, h3, h4, h5, h6⟩ := h
  refine ⟨fun k hk => ?_, fun k hk => ?_, fun b2 hb2 => ?_, ?_, ?_, ?_⟩
  · simp (disch := omega) only [upd_ne]; exact h1 k hk
  · simp (disch := omega) only [upd_ne]; exact h2 k hk
  · simp (disch := omega) only [upd_ne]; exact h3 b2 hb2
  · simp (disch := omega) only [upd_ne, upd_eq]; exact isN_add h4 hv.1 (by omega)
  · simp (disch := omega) only [upd_ne, upd_eq]; exact isN_add h5 hv.2 (by omega)
  · simp (disch := omega) only [upd_ne]; exact h6
theorem GV.mv {c : T2} {P : Nat → Int32} {B w1 w2 w3 b kd s a : Nat} (h : GV c P B w1 w2 w3) (hb : b < 12) (hs : s < 6) (ha : a < 6) (hSE : SE c) (hw : w1 + w2 + w3 < 1000000000) : GV c (mv1 P b kd s a) B (w1 + 20) (w2 + 40) w3 := by
  have hm := h.mono (Nat.le_add_right w1 20) (Nat.le_add_right w2 40) (Nat.le_refl w3)
  unfold mv1
  split
  · split
    · exact hm
    · exact hm.put (by unfold gcr; omega)
  · split
    · split
      · exact GV.arrv (h.put (by unfold gcr; omega)) hb hs ha hSE hw
      · exact hm.put (by unfold gcr; omega)
    · exact hm
theorem GV.stlv {c : T2} {P : Nat → Int32} {B w1 w2 w3 b : Nat} {e lw : Int32} (h : GV c P B w1 w2 w3) (hb : b < 12) : GV c (stl P b e lw) B w1 w2 w3 := by
  unfold stl
  split
  · exact ((h.put (by unfold gcr; omega)).put (by unfold gcr; omega)).put (by unfold gcr; omega)
  · exact (((h.put (by unfold gcr; omega)).put (by unfold gcr; omega)).put (by unfold gcr; omega)).put (by unfold gcr; omega)
theorem min5_N {n u : Nat} (hn : n < 1000) (hu : u < 1000) : ∃ r, r ≤ n ∧ r ≤ u ∧ min5 (nI n) (nI u) = nI r := by
  unfold min5
  by_cases h5 : 5 < n
  · rw [if_pos (nI_lt h5 (by omega))]
    by_cases hu5 : u < 5
    · rw [if_pos (nI_lt hu5 (by decide))]; exact ⟨u, by omega, by omega, rfl⟩
    · rw [if_neg (fun z => hu5 ((nI_ltI (by omega) (by decide)).mp z))]; exact ⟨5, by omega, by omega, rfl⟩
  · rw [if_neg (fun z => h5 ((nI_ltI (by decide) (by omega)).mp z))]
    by_cases hu5 : u < n
    · rw [if_pos (nI_lt hu5 (by omega))]; exact ⟨u, by omega, by omega, rfl⟩
    · rw [if_neg (fun z => hu5 ((nI_ltI (by omega) (by omega)).mp z))]; exact ⟨n, by omega, by omega, rfl⟩
theorem GV.let_ {c : T2} {P : Nat → Int32} {B w1 w2 w3 b s a kd : Nat} (h : GV c P B w1 w2 w3) (hB : B < 900) (hb : b < 12) (hs : s < 6) (ha : a < 6) (hSE : SE c) : GV c (letP P s a b (inN c P s a b kd)) B w1 w2 w3 := by
  obtain ⟨r, hr1, hr2, er⟩ : ∃ r : Nat, r ≤ tn (P (6 * s + a)) ∧ tn (P (120 + b)) + r ≤ tn (c 5 b) ∧ inN c P s a b kd = nI r := by
    have hs2 := (h.2.2.1 b hb).2
    unfold inN
    split
    · exact ⟨0, by omega, by omega, rfl⟩
    · obtain ⟨e1, l1⟩ := hSE b hb
      obtain ⟨e2, l2⟩ := h.2.2.1 b hb
      obtain ⟨e3, l3⟩ := h.1 (6 * s + a) (by omega)
      obtain ⟨r, q1, q2, q3⟩ := min5_N (n := tn (c 5 b) - tn (P (120 + b))) (u := tn (P (6 * s + a))) (by omega) (by omega)
      refine ⟨r, q2, by omega, ?_⟩
      rw [isN_sub e1 e2 (by omega), ← q3, ← e3]
  rw [er]
  have hse := (hSE b hb).2
  obtain ⟨h1, h2, h3, h4, h5, h6⟩ := h
  unfold letP
  refine ⟨fun k hk => ?_, fun k hk => ?_, fun b2 hb2 => ?_, ?_, ?_, ?_⟩
  · by_cases e : k = 6 * s + a
    · subst e
      simp (disch := omega) only [upd_ne, upd_eq]
      obtain ⟨e3, l3⟩ := h1 (6 * s + a) (by omega)
      rw [e3, pk_sub hr1]
      exact isN_of (by omega) (by omega)
    · simp (disch := omega) only [upd_ne]; exact h1 k hk
  · simp (disch := omega) only [upd_ne]; exact h2 k hk
  · by_cases e : b2 = b
    · subst e
      simp (disch := omega) only [upd_ne, upd_eq]
      obtain ⟨e3, l3⟩ := h3 b2 hb2
      rw [e3, nI_add]
      exact isN_of (by omega) (by omega)
    · simp (disch := omega) only [upd_ne]; exact h3 b2 hb2
  · simp (disch := omega) only [upd_ne]; exact h4
  · simp (disch := omega) only [upd_ne]; exact h5
  · simp (disch := omega) only [upd_ne]; exact h6
theorem GV.sv2v {c : T2} {P : Nat → Int32} {B w1 w2 w3 nb m b s a kd : Nat} (h : GV c P B w1 w2 w3) (hB : B < 900) (hb : b < 12) (hs : s < 6) (ha : a < 6) (hSE : SE c) : GV c (sv2 c P nb m s b kd a) B w1 w2 w3 := by
  have h1 := h.let_ (kd := kd) hB hb hs ha hSE
  unfold sv2 go2
  split
  · unfold lvP
    exact ((((h1.put (by unfold gcr; omega)).put (by unfold gcr; omega)).put (by unfold gcr; omega)).put (by unfold gcr; omega)).put (by unfold gcr; omega)
  · exact h1
theorem GV.svv {c : T2} {P : Nat → Int32} {B w1 w2 w3 nb m s : Nat} (h : GV c P B w1 w2 w3) (hW : WI P nb m) (h12 : nb ≤ 12) (hB : B < 900) (hs : s < 6) (hSE : SE c) : GV c (sv c P nb m s) B w1 w2 w3 := by
  unfold sv
  split
  · rename_i b e
    have := (lf_lt e).1
    exact h.sv2v hB (by omega) hs (hW.2.1 b (by omega)).2.1.2 hSE
  · split
    · exact h
    · rename_i b e
      have := (ff_lt e).1
      split
      · exact h
      · rename_i a e2
        have ha := (am_lt e2).1
        refine GV.sv2v ?_ hB (by omega) hs ha hSE
        unfold upP
        exact (((h.put (by unfold gcr; omega)).put (by unfold gcr; omega)).put (by unfold gcr; omega)).put (by unfold gcr; omega)
theorem GV.svs {c : T2} {P : Nat → Int32} {B w1 w2 w3 nb m : Nat} (h : GV c P B w1 w2 w3) (hW : WI P nb m) (hT : TI c) (h12 : nb ≤ 12) (hB : B < 900) (hSE : SE c) : ∀ s, s ≤ 6 → GV c (svN c P nb m s) B w1 w2 w3
  | 0, _ => h
  | s + 1, hs => (GV.svs h hW hT h12 hB hSE s (by omega)).svv (hW.svs hT h12 s (by omega)) h12 hB (by omega) hSE
theorem GV.mvs {c : T2} {P : Nat → Int32} {B w1 w2 w3 nb m : Nat} (h : GV c P B w1 w2 w3) (hW : WI P nb m) (h12 : nb ≤ 12) (hSE : SE c) (hw : w1 + w2 + w3 < 900000000) : ∀ b, b ≤ nb → GV c (mvN P b) B (w1 + 20 * b) (w2 + 40 * b) w3
  | 0, _ => h
  | b + 1, hb => by
    have hc := (hW.mvs h12 b (by omega)).2.1 b (by omega)
    exact (GV.mvs h hW h12 hSE hw b (by omega)).mv (by omega) hc.1.2 hc.2.1.2 hSE (by omega)
theorem GV.sts {c : T2} {P : Nat → Int32} {B w1 w2 w3 nb m : Nat} (h : GV c P B w1 w2 w3) (h12 : nb ≤ 12) : ∀ b, b ≤ nb → GV c (stN c P nb m b) B w1 w2 w3
  | 0, _ => h
  | b + 1, hb => (GV.sts h h12 b (by omega)).stlv (by omega)
theorem smN_N {P : Nat → Int32} {B : Nat} (hB : B < 900) (h : ∀ k, k < 36 → isN (P k) (B + 1)) : ∀ n, n ≤ 36 → isN (smN P n) (n * B + 1)
  | 0, _ => by rw [smN, Nat.zero_mul]; exact isN_of (by decide) (by decide)
  | n + 1, hn => by
    rw [smN, show (n + 1) * B + 1 = n * B + B + 1 by rw [Nat.succ_mul]]
    have : n * B ≤ 36 * 900 := Nat.mul_le_mul (by omega) (by omega)
    exact isN_add (smN_N hB h n (by omega)) (h n (by omega)) (by omega)
theorem GV.cm {c : T2} {P : Nat → Int32} {m w1 w2 w3 : Nat} (h : GV c P (490 + m % 10) w1 w2 w3) (hT : TI c) (hw : w1 < 900000000) : ∀ k, k ≤ 36 → (∀ i, i < 36 → isN (cmN c P m k i) ((if i < k then 490 + (m + 1) % 10 else 490 + m % 10) + 1)) ∧ (∀ i, i < 36 → isN (cmN c P m k (36 + i)) 100) ∧ isN (cmN c P m k 236) (w1 + 50 * k + 1)
  | 0, _ => ⟨fun i hi => by rw [if_neg (by omega)]; exact h.1 i hi, h.2.1, h.2.2.2.1⟩
  | k + 1, hk => by
    obtain ⟨a1, a2, a3⟩ := GV.cm h hT hw k (by omega)
    have r3 := (hT.1 k (by omega)).2
    have b1 := a1 k (by omega)
    rw [if_neg (by omega)] at b1
    have b2 := a2 k (by omega)
    rw [cmN]
    generalize cmN c P m k = R at a1 a2 a3 b1 b2 ⊢
    have hW : cmW c R k ≤ tn (R k) + 1 := by
      unfold cmW
      have := b2.2
      have := r3.2
      omega
    have l1 := b1.2
    have hK : cmK c R m k ≤ 50 ∧ cmW c R k - cmK c R m k ≤ 490 + (m + 1) % 10 := by
      unfold cmK
      split
      · split <;> omega
      · omega
    unfold cm1
    refine ⟨fun i hi => ?_, fun i hi => ?_, ?_⟩
    · by_cases e : i = k
      · subst e
        simp (disch := omega) only [upd_ne, upd_eq]
        rw [if_pos (by omega)]
        exact isN_of (by omega) (by omega)
      · simp (disch := omega) only [upd_ne]
        have := a1 i hi
        by_cases e2 : i < k
        · rw [if_pos e2] at this; rw [if_pos (by omega)]; exact this
        · rw [if_neg e2] at this; rw [if_neg (by omega)]; exact this
    · by_cases e : i = k
      · subst e
        simp (disch := omega) only [upd_ne, upd_eq]
        exact isN_of (by omega) (by decide)
      · simp (disch := omega) only [upd_ne]; exact a2 i hi
    · rw [upd_eq, show w1 + 50 * (k + 1) + 1 = w1 + 50 * k + 50 + 1 by omega]
      exact isN_add a3 (isN_of (by omega) (by decide)) (by omega)
/-- all that is known of a world of the city c in minute m -/
def WV (c : T2) (P : Nat → Int32) (nb m : Nat) : Prop := WI P nb m ∧ GV c P (490 + m % 10) (m * 2100) (m * 500) (m * 18100)
theorem WV.pass {c : T2} {P : Nat → Int32} {nb m : Nat} (h : WV c P nb m) (hT : TI c) (hSE : SE c) (h12 : nb ≤ 12) (hm : m < 14700) : WV c (passP c P nb m) nb (m + 1) := by
  obtain ⟨hW, hG⟩ := h
  have w1 := hW.cm (c := c) (m2 := m) 36 (Nat.le_refl _)
  have w2 := w1.svs hT h12 6 (Nat.le_refl _)
  have w3 := hW.p1 hT h12
  obtain ⟨a1, a2, a3⟩ := hG.cm hT (by omega) 36 (Nat.le_refl _)
  have g1 : GV c (cmN c P m 36) (490 + (m + 1) % 10) (m * 2100 + 1800) (m * 500) (m * 18100) := by
    refine ⟨fun k hk => ?_, a2, fun b hb => ?_, a3, ?_, ?_⟩
    · have := a1 k hk
      rw [if_pos hk] at this
      exact this
    · rw [cmN_at (Nat.le_refl _) (by omega)]; exact hG.2.2.1 b hb
    · rw [cmN_at (Nat.le_refl _) (by omega)]; exact hG.2.2.2.2.1
    · rw [cmN_at (Nat.le_refl _) (by omega)]; exact hG.2.2.2.2.2
  have g2 := g1.svs w1 hT h12 (by omega) hSE 6 (Nat.le_refl _)
  have g3 := g2.mvs w2 h12 hSE (by omega) nb (Nat.le_refl _)
  have g4 : GV c (pas1 c P nb m) (490 + (m + 1) % 10) ((m + 1) * 2100) ((m + 1) * 500) ((m + 1) * 18100) := by
    have hs := smN_N (B := 490 + (m + 1) % 10) (by omega) g3.1 36 (Nat.le_refl _)
    unfold pas1 wtP
    refine ⟨fun k hk => ?_, fun k hk => ?_, fun b hb => ?_, ?_, ?_, ?_⟩
    · simp (disch := omega) only [upd_ne]; exact g3.1 k hk
    · simp (disch := omega) only [upd_ne]; exact g3.2.1 k hk
    · simp (disch := omega) only [upd_ne]; exact g3.2.2.1 b hb
    · simp (disch := omega) only [upd_ne]; exact g3.2.2.2.1.le (by omega)
    · simp (disch := omega) only [upd_ne]; exact g3.2.2.2.2.1.le (by omega)
    · rw [upd_eq]; exact (isN_add g3.2.2.2.2.2 hs (by omega)).le (by omega)
  have g5 : GV c (if m % 1440 = 1439 then stN c (pas1 c P nb m) nb m nb else pas1 c P nb m) (490 + (m + 1) % 10) ((m + 1) * 2100) ((m + 1) * 500) ((m + 1) * 18100) := by
    split
    · exact g4.sts h12 nb (Nat.le_refl _)
    · exact g4
  have w5 : WI (if m % 1440 = 1439 then stN c (pas1 c P nb m) nb m nb else pas1 c P nb m) nb m := by
    split
    · exact w3.sts h12 nb (Nat.le_refl _)
    · exact w3
  unfold passP
  generalize (if m % 1440 = 1439 then stN c (pas1 c P nb m) nb m nb else pas1 c P nb m) = R at g5 w5 ⊢
  refine ⟨⟨upd_eq _ _ _, fun b hb => ?_, fun b h4 h5 => ?_⟩, g5.put (by unfold gcr; omega)⟩
  · rw [upd_ne (a := 84 + b) _ _ (by omega), upd_ne (a := 108 + b) _ _ (by omega), upd_ne (a := 156 + b) _ _ (by omega), upd_ne (a := 72 + b) _ _ (by omega), upd_ne (a := 132 + b) _ _ (by omega)]
    exact w5.2.1 b hb
  · rw [upd_ne (a := 72 + b) _ _ (by omega)]; exact w5.2.2 b h4 h5
