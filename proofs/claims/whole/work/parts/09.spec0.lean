theorem lt_le {a b : Int32} (h : a < b) : ¬ b ≤ a := fun h2 => by
  rw [Int32.lt_iff_toInt_lt] at h; rw [Int32.le_iff_toInt_le] at h2; omega
theorem nlt_le {a b : Int32} (h : ¬ a < b) : b ≤ a := by
  rw [Int32.lt_iff_toInt_lt] at h; rw [Int32.le_iff_toInt_le]; omega
theorem nle_lt {a b : Int32} (h : ¬ a ≤ b) : b < a := by
  rw [Int32.le_iff_toInt_le] at h; rw [Int32.lt_iff_toInt_lt]; omega
theorem le_nlt {a b : Int32} (h : a ≤ b) : ¬ b < a := fun h2 => lt_le h2 h
/-- a whole number in 0 .. b -/
theorem nI_btw {x : Int32} {b : Nat} (hb : b < 2147483648) (h0 : nI 0 ≤ x) (h1 : x ≤ nI b) : ∃ a : Nat, a ≤ b ∧ x = nI a := by
  have h2 : ¬ x < 0 := by rw [← nI_0]; exact le_nlt h0
  obtain ⟨j, hj, rfl⟩ := nI_of h2
  exact ⟨j, (nI_leI hj (by omega)).mp h1, rfl⟩
theorem nI_btw' {b a : Nat} (hb : b < 2147483648) (ha : a ≤ b) : nI 0 ≤ nI a ∧ nI a ≤ nI b := ⟨nI_le (Nat.zero_le _) (by omega), nI_le ha (by omega)⟩
abbrev tn (x : Int32) : Nat := x.toNatClampNeg
abbrev inn (x : Int32) (b : Nat) : Prop := nI 0 ≤ x ∧ x ≤ nI b
abbrev btw (lo x hi : Int32) : Prop := lo ≤ x ∧ x ≤ hi
theorem inn_i (x : Int32) (b : Nat) : inn x b ↔ (nI 0 ≤ x ∧ x ≤ nI b) := Iff.rfl
theorem inn_t {a b : Nat} (h : a ≤ b) (hb : b < 2147483648 := by decide) : inn (nI a) b := ⟨nI_le (Nat.zero_le _) (by omega), nI_le h hb⟩
theorem tnl {a b : Nat} (h : a ≤ b) (hb : b < 2147483648 := by decide) : tn (nI a) = a := nI_clamp (by omega)
theorem tnt {a b : Nat} (h : a < b) (hb : b < 2147483648 := by decide) : tn (nI a) = a := nI_clamp (by omega)
def tup (c : T2) (k i : Nat) (v : Int32) : T2 := tput c k (upd (c k) i v)
theorem tput2 (c : T2) (k : Nat) (f f2 : Nat → Int32) : tput (tput c k f) k f2 = tput c k f2 := by
  funext a; simp only [tput]; split <;> rfl
theorem tputs (c : T2) {k a : Nat} (f : Nat → Int32) (h : a ≠ k := by decide) : tput c k f a = c a := tput_ne c f h
abbrev inb (c : T2) (b : Int32) : Prop := nI 0 ≤ b ∧ b < c 32 1
abbrev inm (c : T2) (b : Int32) : Prop := nI 0 ≤ b ∧ b < c 32 4
theorem va_upeq {α : Type} (f : Nat → α) (k : Nat) (v : α) : va_up f k v k = v := va_up_self f k v
theorem va_upne {α : Type} (f : Nat → α) {k j : Nat} (v : α) (h : j ≠ k) : va_up f k v j = f j := va_up_ne f v h
theorem va_up2 {α : Type} (f : Nat → α) (k : Nat) (v w : α) : va_up (va_up f k v) k w = va_up f k w := bx_uu f k v w
theorem va_upid {α : Type} (f : Nat → α) (k : Nat) : va_up f k (f k) = f := by
  funext j; simp only [va_up]; split
  · subst_vars; rfl
  · rfl
theorem inb_iff {b e : Int32} {nb : Nat} (he : e = nI nb) (hb : nb ≤ 1000000) : (nI 0 ≤ b ∧ b < e) ↔ ∃ a : Nat, a < nb ∧ b = nI a := by
  subst he
  constructor
  · intro h
    have h2 : ¬ b < 0 := by rw [← nI_0]; exact le_nlt h.1
    obtain ⟨j, hj, rfl⟩ := nI_of h2
    exact ⟨j, (nI_ltI hj (by omega)).mp h.2, rfl⟩
  · rintro ⟨a, ha, rfl⟩
    exact ⟨nI_le (Nat.zero_le _) (by omega), nI_lt ha (by omega)⟩
theorem inb_sub {b e : Int32} {nb : Nat} (he : e = nI nb) (hb : nb ≤ 1000000) : (nI 0 ≤ b ∧ b ≤ e - nI 1) ↔ (nI 0 ≤ b ∧ b < e) := by
  subst he
  rw [Int32.le_iff_toInt_le, Int32.le_iff_toInt_le, Int32.lt_iff_toInt_lt, pk_sub_toInt (by omega) (by omega), nI_toInt (by omega), nI_toInt (by omega)]
  omega
theorem inb_t {c : T2} {nb a : Nat} (hnb : c 32 1 = nI nb) (h12 : nb ≤ 12) (ha : a < nb) : inb c (nI a) := (inb_iff hnb (by omega)).mpr ⟨a, ha, rfl⟩
theorem inm_t {c : T2} {nm a : Nat} (hnm : c 32 4 = nI nm) (hm6 : nm ≤ 6) (ha : a < nm) : inm c (nI a) := (inb_iff hnm (by omega)).mpr ⟨a, ha, rfl⟩
theorem kP {D : xD} {N : Nat} {c x V : T2} {ln df : Nat → Option Nat} {rest : List va_E} {K : Option Value → List va_E → Prop} {w : Nat} {r r2 : Option Value} {P1 P2 : Nat → Int32} (h : K r (encC D N c x (va_up V w P1) ln df ++ rest)) (er : r = r2) (eP : P1 = P2) : K r2 (encC D N c x (va_up V w P2) ln df ++ rest) := by subst er; subst eP; exact h
theorem kR {D : xD} {N : Nat} {c z : T2} {Q : Nat → Int32} {rest : List va_E} {K : Option Value → List va_E → Prop} {r r2 : Option Value} {P1 P2 : Nat → Int32} (h : K r (encR D N c z P1 Q ++ rest)) (er : r = r2) (eP : P1 = P2) : K r2 (encR D N c z P2 Q ++ rest) := by subst er; subst eP; exact h
theorem kc {D : xD} {N : Nat} {c1 c2 x V : T2} {ln df : Nat → Option Nat} {rest : List va_E} {K : Option Value → List va_E → Prop} {r r2 : Option Value} (h : K r (encC D N c1 x V ln df ++ rest)) (er : r = r2) (eP : c1 = c2) : K r2 (encC D N c2 x V ln df ++ rest) := by subst er; subst eP; exact h
theorem kRc {D : xD} {N : Nat} {c1 c2 z : T2} {P Q : Nat → Int32} {rest : List va_E} {K : Option Value → List va_E → Prop} {r r2 : Option Value} (h : K r (encR D N c1 z P Q ++ rest)) (er : r = r2) (eP : c1 = c2) : K r2 (encR D N c2 z P Q ++ rest) := by subst er; subst eP; exact h
theorem sw (x : Int32) (b : Nat) (hb : b < 2147483648) : (∃ k : Nat, k ≤ b ∧ x = nI k) ∨ (¬ inn x b ∧ (x.toInt < 0 ∨ (b : Int) < x.toInt)) := by
  by_cases h : inn x b
  · exact Or.inl (nI_btw hb h.1 h.2)
  · refine Or.inr ⟨h, ?_⟩
    unfold inn at h
    rw [Int32.le_iff_toInt_le, Int32.le_iff_toInt_le, nI_toInt (by decide), nI_toInt (by omega)] at h
    omega
theorem up_loop {F : Nat → Prop} {n : Nat} (hend : F n) (hstep : ∀ b, b < n → F (b + 1) → F b) : ∀ b, b ≤ n → F b := by
  intro b hb
  have key : ∀ k b, b + k = n → F b := by
    intro k
    induction k with
    | zero => intro b e; rw [show b = n by omega]; exact hend
    | succ k ih => intro b e; exact hstep b (by omega) (ih (b + 1) (by omega))
  exact key (n - b) b (by omega)
def ov (o : Option Nat) : Int32 := match o with
  | none => -1
  | some j => nI j
def sc (c : T2) (i : Nat) : Int32 := c 32 i
section WX
variable {D : xD} {N : Nat} {l : Launch} {E : EX} {M : MD} {R : Room} {Qf : QF} {k n pc : Nat} {L : List (Nat × Value)} {st : List Value} {g : List va_E}
theorem wp_sub (ks : List Nat) {L2 : List (Nat × Value)} (hL : lv_pick L ks = L2) (h : Wp D N l E M R Qf k n pc L2 st g) : Wp D N l E M R Qf k n pc L st g := by
  intro p e s m args below meth c C H locs ls hH hS hl
  exact h p e s m args below meth c C H locs ls hH hS (lv_sub hl ks hL)
theorem wp_imulC {q : Nat} {a b : Nat} (hd : decode M.2.1 pc = .ok (.imul, 1)) (hq : pc + 1 = q) (h : Wp D N l E M R Qf k n q L (.int (nI (b * a)) :: st) g) : Wp D N l E M R Qf k n pc L (.int (nI b) :: .int (nI a) :: st) g := wp_imulN hd hq (by rw [Nat.mul_comm]; exact h)
end WX

