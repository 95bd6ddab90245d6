abbrev tn (x : Int32) : Nat := x.toNatClampNeg
abbrev inn (x : Int32) (b : Nat) : Prop := nI 0 ≤ x ∧ x ≤ nI b
abbrev btw (lo x hi : Int32) : Prop := lo ≤ x ∧ x ≤ hi
theorem inn_i (x : Int32) (b : Nat) : inn x b ↔ (nI 0 ≤ x ∧ x ≤ nI b) := Iff.rfl
theorem inn_t {a b : Nat} (h : a ≤ b) (hb : b < 2147483648 := by decide) : inn (nI a) b := ⟨nI_le (Nat.zero_le _) (by omega), nI_le h hb⟩
theorem tnl {a b : Nat} (h : a ≤ b) (hb : b < 2147483648 := by decide) : tn (nI a) = a := nI_clamp (by omega)
theorem tnt {a b : Nat} (h : a < b) (hb : b < 2147483648 := by decide) : tn (nI a) = a := nI_clamp (by omega)
def tup (c : T2) (k i : Nat) (v : Int32) : T2 := tput c k (upd (c k) i v)
theorem tput2 (c : T2) (k : Nat) (f f2 : Nat → Int32) : tput (tput c k f) k f2 = tput c k f2 := by
  funext a; simp only [tput]; split <;> rfl
def sc (c : T2) (i : Nat) : Int32 := c 32 i
section WX
variable {D : xD} {N : Nat} {l : Launch} {E : EX} {M : MD} {R : Room} {Qf : QF} {k n pc : Nat} {L : List (Nat × Value)} {st : List Value} {g : List va_E}
theorem wp_imulC {q : Nat} {a b : Nat} (hd : decode M.2.1 pc = .ok (.imul, 1)) (hq : pc + 1 = q) (h : Wp D N l E M R Qf k n q L (.int (nI (b * a)) :: st) g) : Wp D N l E M R Qf k n pc L (.int (nI b) :: .int (nI a) :: st) g := wp_imulN hd hq (by rw [Nat.mul_comm]; exact h)
end WX

