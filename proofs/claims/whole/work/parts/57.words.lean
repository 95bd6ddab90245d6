abbrev FN : Type := Nat → Int32
abbrev LR : Type := Int32 × Int32 × Nat × FN × FN × FN
/-- the byte at a place of the tape; -1 behind its end -/
def byB (c : T2) (tp i : Nat) : Int32 := if i < tp then c 21 i else -1
def TBy (c : T2) (tp : Nat) : Prop := ∀ i, i < tp → isN (c 21 i) 256
def wordL (w : Nat) : List Int32 := ([[103, 111], [102, 97, 114, 101], [107, 101, 101, 112], [119, 97, 105, 116, 101, 100], [115, 111, 108, 100], [114, 97, 105, 110], [104, 111, 117, 114], [113, 117, 101, 117, 101], [115, 116, 97, 103, 101], [111, 119, 110, 101, 114], [101, 97, 114, 110, 101, 100]] : List (List Int32)).getD w []
def szW (w : Nat) : Nat := (wordL w).length
def chW (w n : Nat) : Int32 := (wordL w).getD n 0
def cpl (B : FN) (p : Nat) : List Int32 → Nat → Nat
  | [], al => al
  | ch :: cs, al => if B (p + al) = ch then cpl B p cs (al + 1) else al
def cpW (B : FN) (p w : Nat) : Nat := cpl B p (wordL w) 0
def pwW (B : FN) (p : Nat) : List (List Int32) → Nat → Nat → Int32 × Nat
  | [], _, mo => (-1, p + mo)
  | w :: ws, wh, mo => if cpl B p w 0 = w.length then (nI wh, p + w.length) else pwW B p ws (wh + 1) (if mo < cpl B p w 0 then cpl B p w 0 else mo)
def keysL : List (List Int32) := [wordL 0, wordL 1, wordL 2]
def factL : List (List Int32) := [wordL 3, wordL 4, wordL 5, wordL 6, wordL 7, wordL 8, wordL 9, wordL 10]
def flW : List (List Int32) → List Int32
  | [] => []
  | w :: ws => w ++ nI 32 :: flW ws
def pw (B : FN) (p : Nat) : List Int32 → Nat → Nat → Nat → Bool → Int32 × Nat
  | [], _, _, mo, _ => (-1, p + mo)
  | ch :: cs, wh, al, mo, sm => if ch = nI 32 then (if sm = true then (nI wh, p + al) else pw B p cs (wh + 1) 0 mo true) else if sm = true ∧ B (p + al) = ch then pw B p cs wh (al + 1) (if mo < al + 1 then al + 1 else mo) true else pw B p cs wh al mo false
section CP
variable {B : FN} {p : Nat}
theorem cpl_ge : ∀ (cs : List Int32) (al : Nat), al ≤ cpl B p cs al
  | [], al => Nat.le_refl _
  | ch :: cs, al => by
    rw [cpl]
    split
    · exact Nat.le_trans (Nat.le_succ _) (cpl_ge cs (al + 1))
    · exact Nat.le_refl _
theorem cpl_le : ∀ (cs : List Int32) (al : Nat), cpl B p cs al ≤ al + cs.length
  | [], al => Nat.le_refl _
  | ch :: cs, al => by
    rw [cpl, List.length_cons]
    split
    · have := cpl_le cs (al + 1); omega
    · omega
theorem cpl_b : ∀ (cs : List Int32) (al j : Nat), al ≤ j → j < cpl B p cs al → B (p + j) = cs.getD (j - al) 0
  | [], al, j, h1, h2 => by rw [cpl] at h2; omega
  | ch :: cs, al, j, h1, h2 => by
    rw [cpl] at h2
    by_cases hb : B (p + al) = ch
    · rw [if_pos hb] at h2
      by_cases e : j = al
      · rw [e, Nat.sub_self]; exact hb
      · have := cpl_b cs (al + 1) j (by omega) h2
        rw [this, show j - al = j - (al + 1) + 1 by omega]
        rfl
    · rw [if_neg hb] at h2; omega
theorem cpl_c : ∀ (cs : List Int32) (al : Nat), cpl B p cs al < al + cs.length → ¬ B (p + cpl B p cs al) = cs.getD (cpl B p cs al - al) 0
  | [], al, h => by rw [cpl] at h; exact absurd h (Nat.lt_irrefl _)
  | ch :: cs, al, h => by
    rw [cpl] at h ⊢
    by_cases hb : B (p + al) = ch
    · rw [if_pos hb] at h ⊢
      have h1 := cpl_ge (B := B) (p := p) cs (al + 1)
      have h2 := cpl_c cs (al + 1) (by rw [List.length_cons] at h; omega)
      rw [show cpl B p cs (al + 1) - al = cpl B p cs (al + 1) - (al + 1) + 1 by omega]
      exact h2
    · rw [if_neg hb, Nat.sub_self]; exact hb
theorem cpW_le (w : Nat) : cpW B p w ≤ szW w := by have := cpl_le (B := B) (p := p) (wordL w) 0; rw [Nat.zero_add] at this; exact this
theorem cpW_s {w n : Nat} (h1 : n ≤ cpW B p w) (h2 : n < szW w) : B (p + n) = chW w n ↔ n + 1 ≤ cpW B p w := by
  constructor
  · intro h
    by_cases e : n = cpW B p w
    · have := cpl_c (B := B) (p := p) (wordL w) 0 (by rw [Nat.zero_add]; have e2 := e; unfold cpW at e2; rw [← e2]; exact h2)
      rw [Nat.sub_zero] at this
      unfold cpW at e
      rw [← e] at this
      exact absurd h this
    · omega
  · intro h
    have := cpl_b (B := B) (p := p) (wordL w) 0 n (Nat.zero_le _) h
    rw [Nat.sub_zero] at this
    exact this
theorem pw_skip : ∀ (cs rest : List Int32) (wh al mo : Nat), (∀ ch ∈ cs, ¬ ch = nI 32) → pw B p (cs ++ nI 32 :: rest) wh al mo false = pw B p rest (wh + 1) 0 mo true
  | [], rest, wh, al, mo, _ => by rw [List.nil_append, pw, if_pos rfl, if_neg (by decide)]
  | ch :: cs, rest, wh, al, mo, h => by
    rw [List.cons_append, pw, if_neg (h ch List.mem_cons_self), if_neg (by intro g; exact absurd g.1 (by decide))]
    exact pw_skip cs rest wh al mo (fun x hx => h x (List.mem_cons_of_mem _ hx))
theorem pw_word : ∀ (cs rest : List Int32) (wh al mo : Nat), (∀ ch ∈ cs, ¬ ch = nI 32) → al ≤ mo → pw B p (cs ++ nI 32 :: rest) wh al mo true = if cpl B p cs al = al + cs.length then (nI wh, p + (al + cs.length)) else pw B p rest (wh + 1) 0 (if mo < cpl B p cs al then cpl B p cs al else mo) true
  | [], rest, wh, al, mo, _, _ => by rw [List.nil_append, pw, if_pos rfl, if_pos rfl, cpl, List.length_nil, Nat.add_zero, if_pos rfl]
  | ch :: cs, rest, wh, al, mo, h, hm => by
    rw [List.cons_append, pw, if_neg (h ch List.mem_cons_self), cpl, List.length_cons]
    by_cases hb : B (p + al) = ch
    · rw [if_pos ⟨rfl, hb⟩, if_pos hb, pw_word cs rest wh (al + 1) _ (fun x hx => h x (List.mem_cons_of_mem _ hx)) (by split <;> omega)]
      have hge := cpl_ge (B := B) (p := p) cs (al + 1)
      rw [show al + 1 + cs.length = al + (cs.length + 1) by omega]
      congr 2
      repeat' split
      all_goals omega
    · rw [if_neg (fun g => hb g.2), if_neg hb, if_neg (by omega), if_neg (by omega)]
      exact pw_skip cs rest wh al mo (fun x hx => h x (List.mem_cons_of_mem _ hx))
theorem pw_all : ∀ (ws : List (List Int32)) (wh mo : Nat), (∀ w ∈ ws, ∀ ch ∈ w, ¬ ch = nI 32) → pw B p (flW ws) wh 0 mo true = pwW B p ws wh mo
  | [], wh, mo, _ => rfl
  | w :: ws, wh, mo, h => by
    rw [flW, pw_word w (flW ws) wh 0 mo (h w List.mem_cons_self) (Nat.zero_le _), pwW, Nat.zero_add]
    rw [pw_all ws (wh + 1) _ (fun x hx => h x (List.mem_cons_of_mem _ hx))]
theorem pwW_full : ∀ (ws : List (List Int32)) (wh mo i : Nat), i < ws.length → cpl B p (ws.getD i []) 0 = (ws.getD i []).length → (∀ j, j < ws.length → cpl B p (ws.getD j []) 0 = (ws.getD j []).length → j = i) → pwW B p ws wh mo = (nI (wh + i), p + (ws.getD i []).length)
  | [], _, _, i, hi, _, _ => absurd hi (Nat.not_lt_zero _)
  | w :: ws, wh, mo, i, hi, hf, hu => by
    rw [pwW]
    cases i with
    | zero => rw [if_pos (show cpl B p w 0 = w.length from hf)]; rfl
    | succ i =>
      rw [if_neg (show ¬ cpl B p w 0 = w.length from fun g => absurd (hu 0 (by rw [List.length_cons]; omega) g) (by omega)), pwW_full ws (wh + 1) _ i (by rw [List.length_cons] at hi; omega) hf (fun j hj hg => by have := hu (j + 1) (by rw [List.length_cons]; omega) hg; omega)]
      rw [show wh + 1 + i = wh + (i + 1) by omega]
      rfl
theorem pwW_none : ∀ (ws : List (List Int32)) (wh mo n : Nat), (∀ j, j < ws.length → ¬ cpl B p (ws.getD j []) 0 = (ws.getD j []).length) → mo ≤ n → (∀ j, j < ws.length → cpl B p (ws.getD j []) 0 ≤ n) → (n = mo ∨ ∃ j, j < ws.length ∧ cpl B p (ws.getD j []) 0 = n) → pwW B p ws wh mo = (-1, p + n)
  | [], wh, mo, n, _, _, _, hx => by
    rw [pwW]
    rcases hx with e | ⟨j, hj, -⟩
    · rw [e]
    · exact absurd hj (Nat.not_lt_zero _)
  | w :: ws, wh, mo, n, hn, hm, hl, hx => by
    have h0 : ¬ cpl B p w 0 = w.length := hn 0 (by rw [List.length_cons]; omega)
    have l0 : cpl B p w 0 ≤ n := hl 0 (by rw [List.length_cons]; omega)
    rw [pwW, if_neg h0]
    refine pwW_none ws (wh + 1) _ n (fun j hj => hn (j + 1) (by rw [List.length_cons]; omega)) (by split <;> omega) (fun j hj => hl (j + 1) (by rw [List.length_cons]; omega)) ?_
    rcases hx with e | ⟨j, hj, e⟩
    · left; split <;> omega
    · cases j with
      | zero =>
        left
        have e2 : cpl B p w 0 = n := e
        split <;> omega
      | succ j => right; exact ⟨j, by rw [List.length_cons] at hj; omega, e⟩
theorem cpl_tp {tp : Nat} (hB : ∀ i, tp ≤ i → B i = -1) : ∀ (cs : List Int32) (al : Nat), (∀ ch ∈ cs, ¬ ch = -1) → p + al ≤ tp → p + cpl B p cs al ≤ tp
  | [], al, _, h => h
  | ch :: cs, al, hc, h => by
    rw [cpl]
    by_cases hb : B (p + al) = ch
    · rw [if_pos hb]
      refine cpl_tp hB cs (al + 1) (fun x hx => hc x (List.mem_cons_of_mem _ hx)) ?_
      have : ¬ tp ≤ p + al := fun g => hc ch List.mem_cons_self (hb.symm.trans (hB _ g))
      omega
    · rw [if_neg hb]; exact h
theorem pwW_tp {tp : Nat} (hB : ∀ i, tp ≤ i → B i = -1) : ∀ (ws : List (List Int32)) (wh mo : Nat), (∀ w ∈ ws, ∀ ch ∈ w, ¬ ch = -1) → p + mo ≤ tp → p ≤ tp → (pwW B p ws wh mo).2 ≤ tp
  | [], wh, mo, _, h, _ => h
  | w :: ws, wh, mo, hc, h, hp => by
    have h1 := cpl_tp (p := p) hB w 0 (hc w List.mem_cons_self) hp
    rw [pwW]
    split
    · rename_i e; rw [e] at h1; exact h1
    · refine pwW_tp hB ws (wh + 1) _ (fun x hx => hc x (List.mem_cons_of_mem _ hx)) ?_ hp
      split <;> omega
end CP
theorem w_free : ∀ w, w < 11 → ∀ v, v < 11 → w = v ∨ ∃ k, k < 7 ∧ k < szW w ∧ k < szW v ∧ ¬ chW w k = chW v k := by decide +kernel
theorem w_uq {B : FN} {p w v : Nat} (hw : w < 11) (hv : v < 11) (fw : cpW B p w = szW w) (fv : cpW B p v = szW v) : v = w := by
  rcases w_free w hw v hv with e | ⟨k, -, h1, h2, h3⟩
  · exact e.symm
  · exfalso
    have a := cpl_b (B := B) (p := p) (wordL w) 0 k (Nat.zero_le _) (by have := fw; unfold cpW at this; rw [this]; exact h1)
    have b := cpl_b (B := B) (p := p) (wordL v) 0 k (Nat.zero_le _) (by have := fv; unfold cpW at this; rw [this]; exact h2)
    exact h3 (by unfold chW; rw [Nat.sub_zero] at a b; rw [← a, ← b])
def wdK (B : FN) (p : Nat) : Int32 × Nat := pwW B p keysL 0 0
def wdF (B : FN) (p : Nat) : Int32 × Nat := pwW B p factL 0 0
theorem kL_at : ∀ j, j < 3 → keysL.getD j [] = wordL j := by decide +kernel
theorem fL_at : ∀ j, j < 8 → factL.getD j [] = wordL (3 + j) := by decide +kernel
section WD
variable {B : FN} {p : Nat}
theorem wdK_y {w : Nat} (hw : w < 3) (hf : cpW B p w = szW w) : wdK B p = (nI w, p + szW w) := by
  have h := pwW_full (B := B) (p := p) keysL 0 0 w hw (by rw [kL_at w hw]; exact hf) (fun j hj hg => by rw [kL_at j hj] at hg; exact w_uq (by omega) (by have : j < 3 := hj; omega) hf hg)
  rw [kL_at w hw, Nat.zero_add] at h
  exact h
theorem wdF_y {w : Nat} (h3 : 3 ≤ w) (hw : w < 11) (hf : cpW B p w = szW w) : wdF B p = (nI (w - 3), p + szW w) := by
  have e : 3 + (w - 3) = w := by omega
  have h := pwW_full (B := B) (p := p) factL 0 0 (w - 3) (show w - 3 < 8 by omega) (by rw [fL_at (w - 3) (by omega), e]; exact hf) (fun j hj hg => by rw [fL_at j hj] at hg; have : j < 8 := hj; have := w_uq (by omega) (by omega) hf hg; omega)
  rw [fL_at (w - 3) (by omega), e, Nat.zero_add] at h
  exact h
theorem wdK_n {n : Nat} (h1 : ∀ w, w < 3 → cpW B p w ≤ n ∧ ¬ cpW B p w = szW w) (h2 : ∃ w, w < 3 ∧ cpW B p w = n) : wdK B p = (-1, p + n) := by
  refine pwW_none keysL 0 0 n (fun j hj => by rw [kL_at j hj]; exact (h1 j hj).2) (Nat.zero_le _) (fun j hj => by rw [kL_at j hj]; exact (h1 j hj).1) (Or.inr ?_)
  obtain ⟨w, hw, e⟩ := h2
  exact ⟨w, hw, by rw [kL_at w hw]; exact e⟩
theorem wdF_n {n : Nat} (h1 : ∀ w, 3 ≤ w → w < 11 → cpW B p w ≤ n ∧ ¬ cpW B p w = szW w) (h2 : ∃ w, 3 ≤ w ∧ w < 11 ∧ cpW B p w = n) : wdF B p = (-1, p + n) := by
  refine pwW_none factL 0 0 n (fun j hj => by rw [fL_at j hj]; have : j < 8 := hj; exact (h1 (3 + j) (by omega) (by omega)).2) (Nat.zero_le _) (fun j hj => by rw [fL_at j hj]; have : j < 8 := hj; exact (h1 (3 + j) (by omega) (by omega)).1) (Or.inr ?_)
  obtain ⟨w, h3, hw, e⟩ := h2
  exact ⟨w - 3, show w - 3 < 8 by omega, by rw [fL_at (w - 3) (by omega), show 3 + (w - 3) = w by omega]; exact e⟩
theorem pwW_v : ∀ (ws : List (List Int32)) (wh mo n : Nat), wh + ws.length ≤ n → n < 1000 → (pwW B p ws wh mo).1 = -1 ∨ isN (pwW B p ws wh mo).1 n
  | [], wh, mo, n, _, _ => Or.inl rfl
  | w :: ws, wh, mo, n, h, hn => by
    rw [List.length_cons] at h
    rw [pwW]
    split
    · exact Or.inr (isN_nI (by omega) (by omega))
    · exact pwW_v ws (wh + 1) _ n (by omega) hn
theorem wdK_v : (wdK B p).1 = -1 ∨ isN (wdK B p).1 3 := pwW_v keysL 0 0 3 (by decide) (by decide)
theorem wdF_v : (wdF B p).1 = -1 ∨ isN (wdF B p).1 8 := pwW_v factL 0 0 8 (by decide) (by decide)
theorem tx_K : txtB.getD 0 [] = flW keysL := by decide +kernel
theorem tx_F : txtB.getD 1 [] = flW factL := by decide +kernel
theorem no32K : ∀ w ∈ keysL, ∀ ch ∈ w, ¬ ch = nI 32 := by decide +kernel
theorem no32F : ∀ w ∈ factL, ∀ ch ∈ w, ¬ ch = nI 32 := by decide +kernel
theorem nom1K : ∀ w ∈ keysL, ∀ ch ∈ w, ¬ ch = -1 := by decide +kernel
theorem nom1F : ∀ w ∈ factL, ∀ ch ∈ w, ¬ ch = -1 := by decide +kernel
theorem pw_K : pw B p (txtB.getD 0 []) 0 0 0 true = wdK B p := by rw [tx_K]; exact pw_all keysL 0 0 no32K
theorem pw_F : pw B p (txtB.getD 1 []) 0 0 0 true = wdF B p := by rw [tx_F]; exact pw_all factL 0 0 no32F
end WD
/-- a number: at most four digits -/
def nmV (B : FN) : Nat → Nat → Int32 → Int32 × Nat
  | 0, p, v => (v, p)
  | k + 1, p, v => if nI 48 ≤ B p ∧ B p ≤ nI 57 then nmV B k (p + 1) (nI 10 * v + B p - nI 48) else (v, p)
def spN (B : FN) (p : Nat) : Int32 × Nat := if (nmV B 4 p (nI 0)).2 = p then (-1, p) else nmV B 4 p (nI 0)
theorem nmV_ge (B : FN) : ∀ k p v, p ≤ (nmV B k p v).2
  | 0, p, v => Nat.le_refl _
  | k + 1, p, v => by
    rw [nmV]
    split
    · exact Nat.le_trans (Nat.le_succ _) (nmV_ge B k (p + 1) _)
    · exact Nat.le_refl _
theorem nm_dig {b : Int32} {a : Nat} (ha : a < 1000) (h1 : nI 48 ≤ b) (h2 : b ≤ nI 57) : ∃ e, e < 10 ∧ nI 10 * nI a + b - nI 48 = nI (10 * a + e) := by
  obtain ⟨q, hq, rfl⟩ := nI_btw (by decide) (by rw [Int32.le_iff_toInt_le] at h1 ⊢; have e1 : (nI 48).toInt = 48 := by decide
                                                have e2 : (nI 0).toInt = 0 := by decide
                                                omega) h2
  have h48 := (nI_leI (by decide) (by omega)).mp h1
  refine ⟨q - 48, by omega, ?_⟩
  rw [show nI 10 * nI a = nI (10 * a) from (Int32.ofNat_mul 10 a).symm, nI_add]
  have := isN_sub (x := nI (10 * a + q)) (y := nI 48) (by rw [tnt (show 10 * a + q < 100000 by omega)]) (by decide) (by rw [tnt (show 10 * a + q < 100000 by omega), tnt (show 48 < 100 by decide)]; omega)
  rw [this, tnt (show 10 * a + q < 100000 by omega), tnt (show 48 < 100 by decide)]
  congr 1
  omega
theorem nmV_N (B : FN) : ∀ k p a, a < 10 ^ (4 - k) → k ≤ 4 → isN (nmV B k p (nI a)).1 10000
  | 0, p, a, ha, _ => isN_nI (by simpa using ha)
  | k + 1, p, a, ha, hk => by
    rw [nmV]
    split
    · rename_i h
      have h3 : 10 ^ (4 - (k + 1)) ≤ 1000 := by
        have : 10 ^ (4 - (k + 1)) ≤ 10 ^ 3 := Nat.pow_le_pow_right (by decide) (by omega)
        exact this
      obtain ⟨e, he, ee⟩ := nm_dig (a := a) (by omega) h.1 h.2
      rw [ee]
      refine nmV_N B k (p + 1) (10 * a + e) ?_ (by omega)
      rw [show 4 - k = 4 - (k + 1) + 1 by omega, Nat.pow_succ]
      omega
    · have h3 : 10 ^ (4 - (k + 1)) ≤ 1000 := by
        have : 10 ^ (4 - (k + 1)) ≤ 10 ^ 3 := Nat.pow_le_pow_right (by decide) (by omega)
        exact this
      exact isN_nI (by omega)
theorem spN_v (B : FN) (p : Nat) : (spN B p).1 = -1 ∨ isN (spN B p).1 10000 := by
  unfold spN
  split
  · exact Or.inl rfl
  · exact Or.inr (nmV_N B 4 p 0 (by decide) (Nat.le_refl _))
theorem nmV_tp {B : FN} {tp : Nat} (hB : ∀ i, tp ≤ i → B i = -1) : ∀ k p v, p ≤ tp → (nmV B k p v).2 ≤ tp
  | 0, p, v, h => h
  | k + 1, p, v, h => by
    rw [nmV]
    split
    · rename_i g
      refine nmV_tp hB k (p + 1) _ ?_
      have : ¬ tp ≤ p := fun q => absurd g.1 (by rw [hB p q]; decide)
      omega
    · exact h
theorem spN_tp {B : FN} {tp : Nat} (hB : ∀ i, tp ≤ i → B i = -1) {p : Nat} (h : p ≤ tp) : (spN B p).2 ≤ tp := by
  unfold spN
  split
  · exact h
  · exact nmV_tp hB 4 p _ h
def tst (B : FN) (p : Nat) : Option (Int32 × Int32 × Int32) × Nat := if (wdF B p).1 = -1 then (none, (wdF B p).2) else if ¬ (B (wdF B p).2 = nI 60 ∨ B (wdF B p).2 = nI 62 ∨ B (wdF B p).2 = nI 61) then (none, (wdF B p).2) else if (spN B ((wdF B p).2 + 1)).1 = -1 then (none, (spN B ((wdF B p).2 + 1)).2) else (some ((wdF B p).1, B (wdF B p).2, (spN B ((wdF B p).2 + 1)).1), (spN B ((wdF B p).2 + 1)).2)
def tsF (B : FN) : Nat → Nat → Nat → FN → FN → FN → Option (Nat × FN × FN × FN) × Nat
  | 0, t, p, F, S, G => (some (t, F, S, G), p)
  | k + 1, t, p, F, S, G => if B p = nI 63 then (match tst B (p + 1) with
    | (none, q) => (none, q)
    | (some v, q) => tsF B k (t + 1) q (upd F t v.1) (upd S t v.2.1) (upd G t v.2.2)) else (some (t, F, S, G), p)
def pln (B : FN) (p : Nat) : Option LR × Nat := if (wdK B p).1 = -1 ∨ ¬ B (wdK B p).2 = nI 61 then (none, (wdK B p).2) else if (spN B ((wdK B p).2 + 1)).1 = -1 then (none, (spN B ((wdK B p).2 + 1)).2) else match tsF B 3 0 (spN B ((wdK B p).2 + 1)).2 (fun _ => 0) (fun _ => 0) (fun _ => 0) with
  | (none, q) => (none, q)
  | (some v, q) => (some ((wdK B p).1, (spN B ((wdK B p).2 + 1)).1, v), q)
def pal (B : FN) (tp : Nat) : Nat → Nat → Nat → (Nat → LR) → Option (Nat × (Nat → LR)) × Nat
  | 0, _, p, _ => (none, p)
  | f + 1, k, p, A => match pln B p with
    | (none, q) => (none, q)
    | (some v, q) => if tp ≤ q then (some (k + 1, va_up A k v), q) else if k = 7 ∨ ¬ B q = nI 47 then (none, q) else pal B tp f (k + 1) (q + 1) (va_up A k v)
section PB
variable {B : FN} {tp : Nat}
theorem tst_tp (hB : ∀ i, tp ≤ i → B i = -1) {p : Nat} (h : p ≤ tp) : (tst B p).2 ≤ tp := by
  have h1 : (wdF B p).2 ≤ tp := pwW_tp hB factL 0 0 nom1F h h
  unfold tst
  split
  · exact h1
  · split
    · exact h1
    · rename_i hs
      have h2 : (wdF B p).2 + 1 ≤ tp := by
        have : ¬ tp ≤ (wdF B p).2 := fun q => hs (by rw [hB _ q]; decide)
        omega
      have h3 := spN_tp hB h2
      split
      · exact h3
      · exact h3
theorem tsF_tp (hB : ∀ i, tp ≤ i → B i = -1) : ∀ k t p F S G, p ≤ tp → (tsF B k t p F S G).2 ≤ tp
  | 0, t, p, F, S, G, h => h
  | k + 1, t, p, F, S, G, h => by
    rw [tsF]
    split
    · rename_i hb
      have h2 : p + 1 ≤ tp := by
        have : ¬ tp ≤ p := fun q => by rw [hB _ q] at hb; exact absurd hb (by decide)
        omega
      have h3 := tst_tp hB h2
      split
      · rename_i q e; rw [e] at h3; exact h3
      · rename_i v q e; rw [e] at h3; exact tsF_tp hB k (t + 1) q _ _ _ h3
    · exact h
theorem pln_tp (hB : ∀ i, tp ≤ i → B i = -1) {p : Nat} (h : p ≤ tp) : (pln B p).2 ≤ tp := by
  have h1 : (wdK B p).2 ≤ tp := pwW_tp hB keysL 0 0 nom1K h h
  unfold pln
  split
  · exact h1
  · rename_i hs
    have h2 : (wdK B p).2 + 1 ≤ tp := by
      have : ¬ tp ≤ (wdK B p).2 := fun q => hs (Or.inr (by rw [hB _ q]; decide))
      omega
    have h3 := spN_tp hB h2
    split
    · exact h3
    · have h4 := tsF_tp hB 3 0 _ (fun _ => 0) (fun _ => 0) (fun _ => 0) h3
      split
      · rename_i q e; rw [e] at h4; exact h4
      · rename_i v q e; rw [e] at h4; exact h4
end PB
theorem byB_out {c : T2} {tp : Nat} : ∀ i, tp ≤ i → byB c tp i = -1 := fun i h => if_neg (by omega)
