theorem xK.up {D : xD} {N : Nat} {U : State} (k : Nat) (h : xK D N U) : xK D (N + k) U := by
  obtain ⟨h1, h2, a, b, c, d, e, f, g⟩ := h
  have hAB : ∀ q, fr (N + k) q → fr N q := fun q (hq : N + k ≤ q) => Nat.le_trans (Nat.le_add_right N k) hq
  exact ⟨h1, h2, a.narrow hAB, b.narrow hAB, c.narrow hAB, d, e, f.narrow hAB, g.narrow hAB⟩
theorem ok_sh {D : xD} {N : Nat} {l : Launch} {d mc ms k : Nat} {M : MD} {as : List Value} {g1 g2 : List va_E} {K : Option Value → List va_E → Prop} (h1 : g1.length = k) (h : Ok D (N + k) l d M as g2 mc ms (fun v g' => K v (g1 ++ g'))) : Ok D N l d M as (g1 ++ g2) mc ms K := by
  unfold Ok Met at h ⊢
  intro p e ha hc hk s m args below hf happ hP hT
  obtain ⟨hargs, hH, hX, hN⟩ := hP
  have hz := hH.1
  rw [List.length_append, h1] at hz
  have hH2 : hs D.1 (N + k) g2 s.heap := ⟨by omega, fun i e he => by
    have := hH.2 (k + i) e (by rw [List.getElem?_append_right (by omega), h1, show k + i - k = i by omega]; exact he)
    rw [← Nat.add_assoc] at this
    exact this⟩
  obtain ⟨n, oc, q1, q2, q3, ⟨⟨v, g', ho, hK, hg⟩, hF⟩, L, hL1, hL2⟩ := h p e ha hc hk s m args below hf happ ⟨hargs, hH2, hX.up k, by omega⟩ hT
  have hlow : ∀ q, fr (N + k) q → fr N q := fun q (hq : N + k ≤ q) => Nat.le_trans (Nat.le_add_right N k) hq
  refine ⟨n, oc, q1, q2, q3, ⟨⟨v, g1 ++ g', ho, hK, ?_, fun i e he => ?_⟩, hF.1, fun q h1 h2 => hF.2 q h1 (fun g => h2 (hlow q g))⟩, L, hL1, fun q hq => hlow _ (hL2 q hq)⟩
  · rw [List.length_append, h1, hg.1]; omega
  · by_cases hi : i < g1.length
    · rw [List.getElem?_append_left hi] at he
      have h2 := hH.2 i e (by rw [List.getElem?_append_left hi]; exact he)
      exact h2.kept (hF.2 (N + i) (by omega) (fun (g : N + k ≤ N + i) => by omega))
    · rw [List.getElem?_append_right (by omega)] at he
      have h2 := hg.2 (i - g1.length) e he
      rw [show N + k + (i - g1.length) = N + i by omega] at h2
      exact h2
/-- the law's own script -/
def EL (D : xD) (b L : Nat) (xs : Nat → Int32) : EX := fun s args meth => args = #[Value.ref b] ∧ va_X b L xs s s.heap ∧ XX D s
section LW
variable {D : xD} {N : Nat} {l : Launch} {E : EX} {M : MD} {R : Room} {Qf : QF} {k n pc : Nat} {L : List (Nat × Value)} {st : List Value} {g : List va_E}
theorem wp_sld {q b Ln j : Nat} {xs : Nat → Int32} (hE : ∀ s a meth, E s a meth → va_X b Ln xs s s.heap) (hb : b < N) (hd : decode M.2.1 pc = .ok (.iaload, 1)) (hq : pc + 1 = q) (hj : j < Ln) (hl : Ln < 2147483648) (h : Wp D N l E M R Qf k n q L (.int (xs j) :: st) g) : Wp D N l E M R Qf k n pc L (.int (nI j) :: .ref b :: st) g := by
  subst hq
  intro p e s m args below meth c C H locs ls hH hS hL
  refine va_sld C.1 C.2.1 (hE _ _ _ C.2.2.2.2.2.2.2.2.2) (Nat.lt_of_lt_of_le hb C.2.2.2.2.2.2.2.2.1) (fun (g : N ≤ b) => by omega) hS (nI_vp hj hl) hd ?_
  rw [nI_cl hj hl]
  exact h p e s m args below meth c C H locs ls hH hS hL
theorem wp_slen2 {q b Ln : Nat} {xs : Nat → Int32} (hE : ∀ s a meth, E s a meth → va_X b Ln xs s s.heap) (hb : b < N) (hd : decode M.2.1 pc = .ok (.arraylength, 1)) (hq : pc + 1 = q) (h : Wp D N l E M R Qf k n q L (.int (nI Ln) :: st) g) : Wp D N l E M R Qf k n pc L (.ref b :: st) g := by
  subst hq
  intro p e s m args below meth c C H locs ls hH hS hL
  exact va_slen C.1 C.2.1 (hE _ _ _ C.2.2.2.2.2.2.2.2.2) (Nat.lt_of_lt_of_le hb C.2.2.2.2.2.2.2.2.1) (fun (g : N ≤ b) => by omega) hS hd (h p e s m args below meth c C H locs ls hH hS hL)
end LW
theorem encR_len {D : xD} {N : Nat} {c z : T2} {P Q : FN} : (encR D N c z P Q).length = 40 := rfl
theorem encR_n4 {D : xD} {N : Nat} {c z : T2} {P Q : FN} {a : Nat} (ha : a < 40) {fs : List Value} : ¬ (encR D N c z P Q)[a]? = some (.inr (4, fs)) := by
  intro h
  rcases (show a = 0 ∨ a = 1 ∨ a = 2 ∨ a = 3 ∨ a = 4 ∨ a = 5 ∨ a = 6 ∨ a = 7 ∨ a = 8 ∨ a = 9 ∨ a = 10 ∨ a = 11 ∨ a = 12 ∨ a = 13 ∨ a = 14 ∨ a = 15 ∨ a = 16 ∨ a = 17 ∨ a = 18 ∨ a = 19 ∨ a = 20 ∨ a = 21 ∨ a = 22 ∨ a = 23 ∨ a = 24 ∨ a = 25 ∨ a = 26 ∨ a = 27 ∨ a = 28 ∨ a = 29 ∨ a = 30 ∨ a = 31 ∨ a = 32 ∨ a = 33 ∨ a = 34 ∨ a = 35 ∨ a = 36 ∨ a = 37 ∨ a = 38 ∨ a = 39 by omega) with rfl | rfl | rfl | rfl | rfl | rfl | rfl | rfl | rfl | rfl | rfl | rfl | rfl | rfl | rfl | rfl | rfl | rfl | rfl | rfl | rfl | rfl | rfl | rfl | rfl | rfl | rfl | rfl | rfl | rfl | rfl | rfl | rfl | rfl | rfl | rfl | rfl | rfl | rfl | rfl <;> cases h
theorem encC_cg {D : xD} {N : Nat} {c c2 x V : T2} {ln df : Nat → Option Nat} (h : ∀ k, ¬ (22 ≤ k ∧ k ≤ 28) → c2 k = c k) : encC D N c2 x V ln df = encC D N c x V ln df := by
  have h2 := h 2 (by decide)
  have h3 := h 3 (by decide)
  have h4 := h 4 (by decide)
  have h5 := h 5 (by decide)
  have h6 := h 6 (by decide)
  have h7 := h 7 (by decide)
  have h8 := h 8 (by decide)
  have h9 := h 9 (by decide)
  have h10 := h 10 (by decide)
  have h11 := h 11 (by decide)
  have h12 := h 12 (by decide)
  have h13 := h 13 (by decide)
  have h14 := h 14 (by decide)
  have h15 := h 15 (by decide)
  have h16 := h 16 (by decide)
  have h17 := h 17 (by decide)
  have h18 := h 18 (by decide)
  have h19 := h 19 (by decide)
  have h20 := h 20 (by decide)
  have h21 := h 21 (by decide)
  have h29 := h 29 (by decide)
  have h30 := h 30 (by decide)
  have h31 := h 31 (by decide)
  have h32 := h 32 (by decide)
  have hb : bookC c2 = bookC c := by
    funext k i
    unfold bookC
    rw [h15, h16, h17, h18, h19, h20, h32]
  unfold encC encA encB
  rw [hb, h2, h3, h4, h5, h6, h7, h8, h9, h10, h11, h12, h13, h14, h21, h29, h30, h31, h32]
/-- a law about lines whatever the forty cells ahead of them hold -/
def LK (D : xD) (N : Nat) (c : T2) (ln : Nat → Option Nat) (lines : List va_E) : Prop := ∀ R : List va_E, R.length = 40 → LOK D N c ln (R ++ lines)
theorem LK.cg {D : xD} {N : Nat} {c c2 : T2} {ln : Nat → Option Nat} {lines : List va_E} (h : LK D N c ln lines) (h1 : ∀ k, 22 ≤ k → k ≤ 28 → c2 k = c k) (h2 : c2 32 9 = c 32 9) : LK D N c2 ln lines := by
  intro R hR
  have := h R hR
  unfold LOK at this ⊢
  rw [h2, h1 22 (by decide) (by decide), h1 23 (by decide) (by decide), h1 24 (by decide) (by decide), h1 25 (by decide) (by decide), h1 26 (by decide) (by decide), h1 27 (by decide) (by decide), h1 28 (by decide) (by decide)]
  exact this
theorem LAt.sw {D : xD} {N : Nat} {R R2 lines : List va_E} {j nt : Nat} {key num : Int32} {F S G : FN} (hR : R.length = 40) (hR2 : R2.length = 40) (hj : 40 ≤ j) (h : LAt D N (R ++ lines) j key num nt F S G) : LAt D N (R2 ++ lines) j key num nt F S G := by
  have e : ∀ i, 40 ≤ i → (R2 ++ lines)[i]? = (R ++ lines)[i]? := fun i hi => by
    rw [List.getElem?_append_right (by omega), List.getElem?_append_right (by omega), hR, hR2]
  exact ⟨(e _ (by omega)).trans h.1, (e _ (by omega)).trans h.2.1, (e _ (by omega)).trans h.2.2.1, (e _ (by omega)).trans h.2.2.2⟩
theorem vv1 {V : T2} {P Q Z : FN} : va_up (va_up (va_up V 2 Q) 0 P) 1 Z = va_up (va_up (va_up V 1 Z) 2 Q) 0 P := by
  funext j
  by_cases h0 : j = 0
  · subst h0; rw [va_upne _ _ (by decide), va_upeq, va_upeq]
  · by_cases h1 : j = 1
    · subst h1; rw [va_upeq, va_upne _ _ (by decide), va_upne _ _ (by decide), va_upeq]
    · by_cases h2 : j = 2
      · subst h2; rw [va_upne _ _ (by decide), va_upne _ _ (by decide), va_upeq, va_upne _ _ (by decide), va_upeq]
      · rw [va_upne _ _ h1, va_upne _ _ h0, va_upne _ _ h2, va_upne _ _ h0, va_upne _ _ h2, va_upne _ _ h1]
theorem vvi {V : T2} {P Q : FN} : va_up (va_up (va_up V 2 Q) 0 P) 2 P = va_up (va_up V 2 P) 0 P := by
  funext j
  by_cases h0 : j = 0
  · subst h0; rw [va_upne _ _ (by decide), va_upeq, va_upeq]
  · by_cases h2 : j = 2
    · subst h2; rw [va_upeq, va_upne _ _ (by decide), va_upeq]
    · rw [va_upne _ _ h2, va_upne _ _ h0, va_upne _ _ h2, va_upne _ _ h0, va_upne _ _ h2]
