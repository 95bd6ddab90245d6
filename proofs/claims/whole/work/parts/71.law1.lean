abbrev HG (D : xD) (N : Nat) (c x V : T2) (P Q : FN) (ln df : Nat → Option Nat) (z : T2) (lines : List va_E) : List va_E := encC D N c x (va_up (va_up V 2 Q) 0 P) ln df ++ (encR D (N + 124) c z P Q ++ lines)
def EW (D : xD) (N b Ln : Nat) (xs : Nat → Int32) : EX := fun s args meth => EL D b Ln xs s args meth ∧ s.heap.size = N
abbrev LL (N b i : Nat) : List (Nat × Value) := [(3, .int (nI i)), (2, .ref (N + 124)), (1, .ref (N + 0)), (0, .ref b)]
abbrev LWp (D : xD) (N : Nat) (l : Launch) (b Ln : Nat) (xs : Nat → Int32) (t pc : Nat) (st : List Value) (g : List va_E) : Prop := Wp D N l (EW D N b Ln xs) M_Lw_law room_1 lw_Z (164 + 32 * t) (3739 + 120 * t) pc (LL N b (6 * t)) st g
/-- what is to be shown behind the answer to one call of the script -/
def NX (D : xD) (N : Nat) (l : Launch) (b Ln : Nat) (xs : Nat → Int32) (t : Nat) : Prop := ∀ (c x V z : T2) (P Q : FN) (ln df : Nat → Option Nat) (lines : List va_E), IE c P Q (2500 * t + 2500) → LK D N c ln lines → Wp D N l (EW D N b Ln xs) M_Lw_law room_1 lw_Z (164 + 32 * t + 32) (3739 + 120 * t + 120) 1702 (LL N b (6 * t)) [] (HG D N c x V P Q ln df z lines)
section TL
variable {D : xD} {N : Nat} {l : Launch} {E : EX} {M : MD} {R : Room} {Qf : QF} {k n pc : Nat} {L : List (Nat × Value)} {st : List Value} {g : List va_E}
theorem lw_k0 {v : Value} (h : Wp D N l E M R Qf k n pc L (v :: st) g) : Wp D N l E M R Qf k n pc L (pv (some v) st) g := h
theorem lw_arg {b Ln i j : Nat} {xs : Nat → Int32} {z : Int} (h0 : decode M_Lw_law.2.1 pc = .ok (.aload_n 0, 1)) (h1 : decode M_Lw_law.2.1 (pc + 1) = .ok (.iload_n 3, 1)) (h2 : decode M_Lw_law.2.1 (pc + 2) = .ok (.iconst z, 1)) (h3 : decode M_Lw_law.2.1 (pc + 3) = .ok (.iadd, 1)) (h4 : decode M_Lw_law.2.1 (pc + 4) = .ok (.iaload, 1)) (hz : Int32.ofInt z = nI j) (hb : b < N) (hi : i + j < Ln) (hL : Ln ≤ 3072) (h : Wp D N l (EW D N b Ln xs) M_Lw_law R Qf k n (pc + 5) (LL N b i) (.int (xs (i + j)) :: st) g) : Wp D N l (EW D N b Ln xs) M_Lw_law R Qf k n pc (LL N b i) st g := by
  refine wp_aload_n h0 rfl rfl ?_
  refine wp_iload_n h1 rfl rfl ?_
  refine wp_iconst h2 rfl hz ?_
  refine wp_iaddN h3 rfl ?_
  exact wp_sld (b := b) (fun s a meth q => q.1.2.1) hb h4 rfl hi (by omega) h
theorem lg_cmp0 (x : Int64) : lg_cmp x x = 0 := by
  unfold lg_cmp
  simp
end TL
theorem IE.lift {c : T2} {P Q : FN} {t : Nat} (h : IE c P Q (2500 * t)) : IE c P Q (2500 * t + 2500) := h.mono (by omega)
def KP (c c2 : T2) : Prop := (∀ k, 22 ≤ k → k ≤ 28 → c2 k = c k) ∧ c2 32 9 = c 32 9
theorem KP.rf (c : T2) : KP c c := ⟨fun _ _ _ => rfl, rfl⟩
theorem KP.tr {a b c : T2} (h : KP a b) (g : KP b c) : KP a c := ⟨fun k h1 h2 => (g.1 k h1 h2).trans (h.1 k h1 h2), g.2.trans h.2⟩
theorem KP.put {c : T2} {k : Nat} {f : FN} (hk : ¬ (22 ≤ k ∧ k ≤ 28)) (h32 : k = 32 → f 9 = c 32 9) : KP c (tput c k f) := by
  refine ⟨fun j h1 h2 => tput_ne _ _ (by omega), ?_⟩
  by_cases e : k = 32
  · subst e; rw [tput_eq]; exact h32 rfl
  · rw [tput_ne _ _ (by omega)]
theorem KP.go {c c2 : T2} (_ : True) (a : c2 22 = c 22) (b : c2 23 = c 23) (d : c2 24 = c 24) (e : c2 25 = c 25) (f : c2 26 = c 26) (g : c2 27 = c 27) (h : c2 28 = c 28) (i : c2 32 9 = c 32 9) : KP c c2 := ⟨fun k h1 h2 => by rcases (show k = 22 ∨ k = 23 ∨ k = 24 ∨ k = 25 ∨ k = 26 ∨ k = 27 ∨ k = 28 by omega) with rfl | rfl | rfl | rfl | rfl | rfl | rfl <;> assumption, i⟩
theorem LK.kp {D : xD} {N : Nat} {c c2 : T2} {ln : Nat → Option Nat} {lines : List va_E} (h : LK D N c ln lines) (g : KP c c2) : LK D N c2 ln lines := h.cg g.1 g.2
theorem ro_law {d : Nat} (h : d ≤ 11) : RO room_1 d := ⟨show d + 1 ≤ 12 by omega, show 37 * (d + 1) ≤ 450 by omega⟩

theorem kp_road (c : T2) (a b n : Int32) : KP c (sp_road c a b n).2 := by
  unfold sp_road
  repeat' split
  all_goals exact KP.go trivial rfl rfl rfl rfl rfl rfl rfl rfl
theorem kp_jam (c : T2) (h t : Int32) : KP c (sp_jam c h t).2 := by
  unfold sp_jam
  repeat' split
  all_goals exact KP.go trivial rfl rfl rfl rfl rfl rfl rfl rfl
theorem kp_people (c : T2) (a b n : Int32) : KP c (sp_people c a b n).2 := by
  unfold sp_people
  repeat' split
  all_goals exact KP.go trivial rfl rfl rfl rfl rfl rfl rfl rfl
theorem kp_bus (c : T2) (nb : Nat) (s w a f : Int32) : KP c (sp_bus c nb s w a f).2 := by
  unfold sp_bus
  repeat' split
  all_goals exact KP.go trivial rfl rfl rfl rfl rfl rfl rfl rfl
theorem kp_wants (c : T2) (b k : Int32) : KP c (sp_wants c b k).2 := by
  unfold sp_wants
  repeat' split
  all_goals exact KP.go trivial rfl rfl rfl rfl rfl rfl rfl rfl
theorem kp_feed (c : T2) (tp : Nat) (w : Int64) (n : Int32) : KP c (sp_feed c tp w n).2 := by
  unfold sp_feed
  repeat' split
  all_goals exact KP.go trivial rfl rfl rfl rfl rfl rfl rfl rfl
theorem kp_force (c : T2) (s k : Int32) : KP c (sp_force c s k).2 := by
  unfold sp_force
  repeat' split
  all_goals exact KP.go trivial rfl rfl rfl rfl rfl rfl rfl rfl
theorem kp_gain (c : T2) (r s v : Int32) : KP c (sp_gain c r s v).2 := by
  unfold sp_gain
  repeat' split
  all_goals exact KP.go trivial rfl rfl rfl rfl rfl rfl rfl rfl
theorem kp_fights (c : T2) (f : Int32) : KP c (sp_fights c f).2 := by
  unfold sp_fights
  repeat' split
  all_goals exact KP.go trivial rfl rfl rfl rfl rfl rfl rfl rfl
theorem kp_round (c : T2) (m s : Int32) : KP c (sp_round c m s).2 := by
  unfold sp_round
  repeat' split
  all_goals exact KP.go trivial rfl rfl rfl rfl rfl rfl rfl rfl
theorem kp_stops (c : T2) (m : Int32) : KP c (sp_stops c m).2 := by
  unfold sp_stops
  repeat' split
  all_goals exact KP.go trivial rfl rfl rfl rfl rfl rfl rfl rfl
theorem kp_turns (c : T2) (nm tu : Nat) : KP c (sp_turns c nm tu).2 := by
  unfold sp_turns
  repeat' split
  all_goals exact KP.go trivial rfl rfl rfl rfl rfl rfl rfl rfl
theorem kp_book (c : T2) (P : Nat → Int32) (nk : Nat) (b y s : Int32) : KP c (sp_book c P nk b y s).2 := by
  unfold sp_book
  repeat' split
  all_goals exact KP.go trivial rfl rfl rfl rfl rfl rfl rfl rfl
theorem kp_mend (c : T2) (P : Nat → Int32) (k m : Int32) : KP c (sp_mend c P k m).2 := by
  unfold sp_mend
  repeat' split
  all_goals exact KP.go trivial rfl rfl rfl rfl rfl rfl rfl rfl
theorem kp_sheet (c : T2) (s t n : Int32) : KP c (sp_sheet c s t n).2 := by
  unfold sp_sheet
  repeat' split
  all_goals exact KP.go trivial rfl rfl rfl rfl rfl rfl rfl rfl
theorem kp_cell (c : T2) (s i v : Int32) : KP c (sp_cell c s i v).2 := by
  unfold sp_cell
  repeat' split
  all_goals exact KP.go trivial rfl rfl rfl rfl rfl rfl rfl rfl
theorem kp_copy (c : T2) (s i w j n : Int32) : KP c (sp_copy c s i w j n).2 := by
  unfold sp_copy
  repeat' split
  all_goals exact KP.go trivial rfl rfl rfl rfl rfl rfl rfl rfl
theorem kp_bsR (s : Nat) (fr : Int32) (sz : Nat) : ∀ (f k w : Nat) (c : T2) (nb : Nat), KP c (bsR s fr sz f k w c nb).2
  | 0, _, _, c, nb => KP.rf c
  | f + 1, k, w, c, nb => by
    rw [bsR]
    split
    · exact KP.rf c
    · exact (kp_bus _ _ _ _ _ _).tr (kp_bsR s fr sz f (k + 1) _ _ _)
theorem kp_buses (c : T2) (nb : Nat) (s t fr n : Int32) : KP c (sp_buses c nb s t fr n).2 := by
  unfold sp_buses
  repeat' split
  · exact KP.rf c
  · exact KP.rf c
  · exact KP.rf c
  · exact kp_bsR _ _ _ _ _ _ _ _
theorem kp_plan (c : T2) (P : FN) (nb m : Nat) (s t n : Int32) : KP c (sp_plan c P nb m s t n).2 := by
  by_cases hp : plOK c m s t n
  · rw [spp_y hp]; exact KP.go trivial rfl rfl rfl rfl rfl rfl rfl rfl
  · rw [spp_n hp]; exact KP.rf c
theorem kp_image (c : T2) : KP c (tput c 32 (upd (c 32) 0 (nI 1))) := KP.go trivial rfl rfl rfl rfl rfl rfl rfl rfl
