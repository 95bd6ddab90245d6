def pv (v : Option Value) (st : List Value) : List Value := match v with
  | some x => x :: st
  | none => st
def RO (R : Room) (d : Nat) : Prop := d + 1 ≤ R.frames ∧ 37 * (d + 1) ≤ R.locals
theorem ro (d mc ms : Nat) : RO (Rm (d + 1) mc ms) d := ⟨Nat.le_refl _, Nat.le_refl _⟩
def CW (M2 : MD) (np : Nat) : Prop := Cond.code M2.1 M2.2.1 M2.2.2.1 M2.2.2.2 ∈ lw_good ∧ Cond.initialized M2.1.cls ∈ lw_good ∧ (M2.1.cls ≠ "java/lang/invoke/MethodHandle" ∧ M2.1.cls ≠ "java/lang/invoke/VarHandle" ∧ (parseMethodDescriptor M2.1.desc).map (fun d => d.parameters.length) = some np) ∧ M2.2.2.1 ≤ 18
def LkS (own : String) (idx : Nat) (M2 : MD) (np : Nat) : Prop := CW M2 np ∧ Cond.methodLink own idx M2.1 ∈ lw_good ∧ Cond.static M2.1 ∈ lw_good
def LV (own : String) (idx : Nat) (M2 : MD) (np : Nat) : Prop := CW M2 np ∧ Cond.methodLink own idx M2.1 ∈ lw_good ∧ Cond.instanceMethod M2.1 ∈ lw_good ∧ Cond.selects M2.1.cls M2.1 M2.1 ∈ lw_good
def LI (own : String) (idx : Nat) (M2 : MD) (np : Nat) : Prop := CW M2 np ∧ Cond.methodLink own idx M2.1 ∈ lw_good ∧ Cond.instanceMethod M2.1 ∈ lw_good ∧ M2.1.name = "<init>" ∧ M2.2.2.2 = none
def LSN (own : String) (idx : Nat) (M2 : MD) (np : Nat) (host : String) : Prop := CW M2 np ∧ Cond.methodLinkNest own idx M2.1 host ∈ nestw ∧ Cond.static M2.1 ∈ lw_good
def LIN (own : String) (idx : Nat) (M2 : MD) (np : Nat) (host : String) : Prop := CW M2 np ∧ Cond.methodLinkNest own idx M2.1 host ∈ nestw ∧ Cond.instanceMethod M2.1 ∈ lw_good ∧ M2.1.name = "<init>" ∧ M2.2.2.2 = none
def LU (own : String) (idx : Nat) (Cn : String) (x : MethodName) (M2 : MD) (np : Nat) : Prop := CW M2 np ∧ Cond.methodLink own idx x ∈ lw_good ∧ Cond.sameMethod x.cls x.cls x.name x.desc ∈ lw_good ∧ Cond.selects Cn x M2.1 ∈ lw_good ∧ Cond.instanceMethod M2.1 ∈ lw_good ∧ Cond.instanceMethod ⟨x.cls, x.name, x.desc⟩ ∈ lw_good ∧ (∃ (b0 : ByteArray) (m0 : Nat) (r0 : Option FieldType), Cond.code ⟨x.cls, x.name, x.desc⟩ b0 m0 r0 ∈ lw_good) ∧ (x.cls ≠ "java/lang/invoke/MethodHandle" ∧ x.cls ≠ "java/lang/invoke/VarHandle" ∧ (parseMethodDescriptor x.desc).map (fun d => d.parameters.length) = some np)
def LSU (own : String) (idx : Nat) (M2 : MD) (np : Nat) : Prop := CW M2 np ∧ Cond.methodLink own idx M2.1 ∈ lw_good ∧ Cond.sameMethod M2.1.cls M2.1.cls M2.1.name M2.1.desc ∈ lw_good ∧ Cond.superclass own M2.1.cls ∈ lw_good ∧ Cond.instanceMethod M2.1 ∈ lw_good ∧ M2.1.name ≠ "<init>"
theorem good_ws {c : Cond} (h : c ∈ lw_good) : GoodIn lw_good (c :: lw_good) := by
  intro w hw
  have hw2 : w ∈ lw_good := by
    rcases List.mem_cons.mp hw with e | e
    · rw [e]; exact h
    · exact e
  exact ⟨hw2, good_of_word (List.mem_filter.mp hw2).2⟩
section WC
variable {D : xD} {N : Nat} {l : Launch} {E : EX} {M : MD} {R : Room} {Qf : QF} {k n pc : Nat} {L : List (Nat × Value)} {st : List Value} {g : List va_E}
theorem ok_blind {as : List Value} : FrameBlind (va_Pc as (fun U => hs D.1 N g U.heap ∧ xK D N U ∧ N ≤ U.heap.size)) := by
  intro a U g2 mk h
  obtain ⟨h1, h2, h3, h4⟩ := h
  exact ⟨h1, h2, xK.blind h3 rfl rfl, h4⟩
theorem ok_pre {as : List Value} {p : Program} {s : State} {m : MethodId} {args : Array Value} {meth : Method} {c : Code} (C : Cx D N E M p s m args meth c) {H : Heap} {locs : List Loc} (hH : hs D.1 N g H) (hS : va_S (fr N) s.heap H locs) : PreS s H (va_Pc as (fun U => hs D.1 N g U.heap ∧ xK D N U ∧ N ≤ U.heap.size)) as :=
  ⟨ok_blind, fun U hU hW => ⟨rfl, by rw [hU]; exact hH, C.2.2.2.2.2.1.move hS hU hW, by rw [hU, hH.1]; exact Nat.le_add_right _ _⟩⟩
theorem ok_preV {as : List Value} {Cn : String} {p : Program} {s : State} {m : MethodId} {args : Array Value} {meth : Method} {c : Code} (C : Cx D N E M p s m args meth c) {H : Heap} {locs : List Loc} (hH : hs D.1 N g H) (hS : va_S (fr N) s.heap H locs) {i ci : Nat} {fs : List Value} (hr : g[i]? = some (.inr (ci, fs))) (hc : classes[ci]?.map (fun r => r.1) = some Cn) : PreV s H Cn (N + i) (va_Pc (.ref (N + i) :: as) (fun U => hs D.1 N g U.heap ∧ xK D N U ∧ N ≤ U.heap.size)) as := by
  refine ⟨ok_blind, ?_, fun U hU hW => ⟨rfl, by rw [hU]; exact hH, C.2.2.2.2.2.1.move hS hU hW, by rw [hU, hH.1]; exact Nat.le_add_right _ _⟩⟩
  obtain ⟨r, hr2, e⟩ : ∃ r, classes[ci]? = some r ∧ r.1 = Cn := by
    cases hh : classes[ci]? with
    | none => rw [hh] at hc; cases hc
    | some r => rw [hh] at hc; exact ⟨r, rfl, Option.some.inj hc⟩
  subst e
  exact va_recv C.2.2.2.2.2.1.1 (hH.one hr) hr2 (q0 := 0) rfl
theorem wp_run {q : Nat} {rest st0 : List Value} {p : Program} {e : Env} {s : State} {m : MethodId} {args : Array Value} {below : List Frame} {meth : Method} {c : Code} {H : Heap} {locs : List Loc} {ls : Array Slot} {mc ms : Nat} {a : Array Value} (C : Cx D N E M p s m args meth c) (hq : pc + 3 = q) (hr : va_Run p l e R s m args below meth c H locs k n mc ms (F0 m pc ls st0) rest (Qk D N (fun v g2 => Wp D N l E M R Qf (k + mc) (n + ms) q L (pv v rest) g2) a) (fr N)) (hS : va_S (fr N) s.heap H locs) (hl : lv_has ls M.2.2.1 L) : W p l e R s m args below meth c H locs k n (Qf below args s) (F0 m pc ls st0) := by
  subst hq
  intro T hT X
  obtain ⟨v, st₀, t, T', L', h0, X', hL, e1, e2, ⟨⟨v2, g2, hv, hp, hb⟩, hz, hk⟩, stp⟩ := hr T hT X
  cases hv
  rw [h0] at hz hk
  obtain ⟨t2, a1, b1⟩ := hp p e s m args below meth c C T'.heap (locs ++ L') ls (by rw [e1]; exact hb)
    ⟨Nat.le_trans hS.1 (by rw [e1]; exact hz), fun q h1 h2 => by rw [e1, hk q (Nat.lt_of_lt_of_le h1 hS.1) h2]; exact hS.2.1 q h1 h2, fun q hq => by
      rcases List.mem_append.mp hq with h | h
      · exact hS.2.2 q h
      · exact hL q h⟩ hl T' rfl X'
  refine ⟨t2, stp t2 ?_, b1⟩
  have e3 : (v.toList ++ rest : List Value) = pv v rest := by cases v <;> rfl
  rw [e3]
  exact a1
theorem ro_call {d ml : Nat} (hR : RO R d) (hm : ml ≤ 18) (mc ms : Nat) : (Rm d mc ms).frames + 1 ≤ R.frames ∧ 8 + (ml + 11) + (Rm d mc ms).locals ≤ R.locals := ⟨hR.1, by have := hR.2; show 8 + (ml + 11) + 37 * d ≤ _; omega⟩
theorem wp_callS {q d np idx mc ms : Nat} {M2 : MD} (as : List Value) {st0 : List Value} (hL : LkS M.1.cls idx M2 np) (hR : RO R d) (hd : decode M.2.1 pc = .ok (.invokestatic idx, 3)) (hq : pc + 3 = q) (hn : as.length = np) (hst : st0 = as.reverse ++ st) (hcat : (st.map fun v => v.category).sum ≤ 8) (hc : k + mc ≤ R.cells) (hs : n + ms ≤ R.slots) (hok : Ok D N l d M2 as g mc ms (fun v g2 => Wp D N l E M R Qf (k + mc) (n + ms) q L (pv v st) g2)) : Wp D N l E M R Qf k n pc L st0 g := by
  intro p e s m args below meth c C H locs ls hH hS hl
  obtain ⟨⟨c1, c2, c3, c4⟩, l1, l2⟩ := hL
  have hts := C.2.2.2.2.1
  subst hst
  exact wp_run C hq (va_runS (As := as) (rest := st) ⟨C.1, C.2.1, C.2.2.1, C.2.2.2.1, hts⟩ hok ⟨callB_of np hts (good_ws c1) rfl rfl rfl (hts _ c2) (hts _ l1) c3 (ro_call hR c4 mc ms), hts _ l2⟩ (ok_pre C hH hS) rfl hn hl.1 rfl (lv_room hcat) hd ⟨hc, hs⟩) hS hl
theorem wp_callV {q d np idx mc ms i ci : Nat} {M2 : MD} {fs : List Value} (as : List Value) {st0 : List Value} (hL : LV M.1.cls idx M2 np) (hR : RO R d) (hd : decode M.2.1 pc = .ok (.invokevirtual idx, 3)) (hq : pc + 3 = q) (hn : as.length = np) (hst : st0 = as.reverse ++ .ref (N + i) :: st) (hcat : (st.map fun v => v.category).sum ≤ 8) (hr : g[i]? = some (.inr (ci, fs))) (hcl : classes[ci]?.map (fun r => r.1) = some M2.1.cls) (hc : k + mc ≤ R.cells) (hs : n + ms ≤ R.slots) (hok : Ok D N l d M2 (.ref (N + i) :: as) g mc ms (fun v g2 => Wp D N l E M R Qf (k + mc) (n + ms) q L (pv v st) g2)) : Wp D N l E M R Qf k n pc L st0 g := by
  intro p e s m args below meth c C H locs ls hH hS hl
  obtain ⟨⟨c1, c2, c3, c4⟩, l1, l2, l3⟩ := hL
  have hts := C.2.2.2.2.1
  subst hst
  exact wp_run C hq (va_runV (As := as) (rest := st) ⟨C.1, C.2.1, C.2.2.1, C.2.2.2.1, hts⟩ hok ⟨callB_of np hts (good_ws c1) rfl rfl rfl (hts _ c2) (hts _ l1) c3 (ro_call hR c4 mc ms), hts _ l2, hts _ l3⟩ (ok_preV C hH hS hr hcl) rfl hn hl.1 rfl (lv_room hcat) hd ⟨hc, hs⟩) hS hl
theorem wp_callI {q d np idx mc ms i : Nat} {M2 : MD} (as : List Value) {st0 : List Value} (hL : LI M.1.cls idx M2 np) (hR : RO R d) (hd : decode M.2.1 pc = .ok (.invokespecial idx, 3)) (hq : pc + 3 = q) (hn : as.length = np) (hst : st0 = as.reverse ++ .ref (N + i) :: st) (hcat : (st.map fun v => v.category).sum ≤ 8) (hc : k + mc ≤ R.cells) (hs : n + ms ≤ R.slots) (hok : Ok D N l d M2 (.ref (N + i) :: as) g mc ms (fun v g2 => Wp D N l E M R Qf (k + mc) (n + ms) q L (pv v st) g2)) : Wp D N l E M R Qf k n pc L st0 g := by
  intro p e s m args below meth c C H locs ls hH hS hl
  obtain ⟨⟨c1, c2, c3, c4⟩, l1, l2, l3, l4⟩ := hL
  have hts := C.2.2.2.2.1
  subst hst
  unfold Ok at hok
  rw [l4] at hok c1
  exact wp_run C hq (va_runI (As := as) (rest := st) ⟨C.1, C.2.1, C.2.2.1, C.2.2.2.1, hts⟩ hok ⟨callB_of np hts (good_ws c1) rfl rfl rfl (hts _ c2) (hts _ l1) c3 (ro_call hR c4 mc ms), l3, hts _ l2⟩ (ok_pre C hH hS) rfl hn hl.1 rfl (lv_room hcat) hd ⟨hc, hs⟩) hS hl
theorem wp_callSN {q d np idx mc ms : Nat} {M2 : MD} {host : String} (as : List Value) {st0 : List Value} (hL : LSN M.1.cls idx M2 np host) (hR : RO R d) (hd : decode M.2.1 pc = .ok (.invokestatic idx, 3)) (hq : pc + 3 = q) (hn : as.length = np) (hst : st0 = as.reverse ++ st) (hcat : (st.map fun v => v.category).sum ≤ 8) (hc : k + mc ≤ R.cells) (hs : n + ms ≤ R.slots) (hok : Ok D N l d M2 as g mc ms (fun v g2 => Wp D N l E M R Qf (k + mc) (n + ms) q L (pv v st) g2)) : Wp D N l E M R Qf k n pc L st0 g := by
  intro p e s m args below meth c C H locs ls hH hS hl
  obtain ⟨⟨c1, c2, c3, c4⟩, l1, l2⟩ := hL
  have hts := C.2.2.2.2.1
  subst hst
  exact wp_run C hq (va_runSN (As := as) (rest := st) ⟨C.1, C.2.1, C.2.2.1, C.2.2.2.1, hts⟩ hok ⟨va_cnB np hts (good_ws c1) rfl rfl rfl (C.2.2.2.2.2.1.2.1 _ l1) (hts _ c2) c3 (ro_call hR c4 mc ms), hts _ l2, trivial⟩ (ok_pre C hH hS) rfl hn hl.1 rfl (lv_room hcat) hd ⟨hc, hs⟩) hS hl
theorem wp_callIN {q d np idx mc ms i : Nat} {M2 : MD} {host : String} (as : List Value) {st0 : List Value} (hL : LIN M.1.cls idx M2 np host) (hR : RO R d) (hd : decode M.2.1 pc = .ok (.invokespecial idx, 3)) (hq : pc + 3 = q) (hn : as.length = np) (hst : st0 = as.reverse ++ .ref (N + i) :: st) (hcat : (st.map fun v => v.category).sum ≤ 8) (hc : k + mc ≤ R.cells) (hs : n + ms ≤ R.slots) (hok : Ok D N l d M2 (.ref (N + i) :: as) g mc ms (fun v g2 => Wp D N l E M R Qf (k + mc) (n + ms) q L (pv v st) g2)) : Wp D N l E M R Qf k n pc L st0 g := by
  intro p e s m args below meth c C H locs ls hH hS hl
  obtain ⟨⟨c1, c2, c3, c4⟩, l1, l2, l3, l4⟩ := hL
  have hts := C.2.2.2.2.1
  subst hst
  unfold Ok at hok
  rw [l4] at hok c1
  exact wp_run C hq (va_runIN (As := as) (rest := st) ⟨C.1, C.2.1, C.2.2.1, C.2.2.2.1, hts⟩ hok ⟨va_cnB np hts (good_ws c1) rfl rfl rfl (C.2.2.2.2.2.1.2.1 _ l1) (hts _ c2) c3 (ro_call hR c4 mc ms), l3, hts _ l2⟩ (ok_pre C hH hS) rfl hn hl.1 rfl (lv_room hcat) hd ⟨hc, hs⟩) hS hl
theorem wp_callU {q d np idx mc ms i ci : Nat} {M2 : MD} {Cn : String} {x : MethodName} {fs : List Value} (as : List Value) {st0 : List Value} (hL : LU M.1.cls idx Cn x M2 np) (hR : RO R d) (hd : decode M.2.1 pc = .ok (.invokevirtual idx, 3)) (hq : pc + 3 = q) (hn : as.length = np) (hst : st0 = as.reverse ++ .ref (N + i) :: st) (hcat : (st.map fun v => v.category).sum ≤ 8) (hr : g[i]? = some (.inr (ci, fs))) (hcl : classes[ci]?.map (fun r => r.1) = some Cn) (hc : k + mc ≤ R.cells) (hs : n + ms ≤ R.slots) (hok : Ok D N l d M2 (.ref (N + i) :: as) g mc ms (fun v g2 => Wp D N l E M R Qf (k + mc) (n + ms) q L (pv v st) g2)) : Wp D N l E M R Qf k n pc L st0 g := by
  intro p e s m args below meth c C H locs ls hH hS hl
  obtain ⟨⟨c1, c2, c3, c4⟩, l1, l2, l3, l4, l5, ⟨b0, m0, r0, l6⟩, l7⟩ := hL
  have hts := C.2.2.2.2.1
  subst hst
  have hG : GoodIn lw_good (va_wsO M.1.cls idx Cn x.cls x M2.1 (Cond.code M2.1 M2.2.1 M2.2.2.1 M2.2.2.2 :: lw_good)) := by
    intro w hw
    have hw2 : w ∈ lw_good := by
      rcases List.mem_append.mp hw with h | h
      · simp only [List.mem_cons, List.not_mem_nil, or_false] at h
        rcases h with h | h | h | h | h | h <;> rw [h] <;> assumption
      · exact (good_ws c1 w h).1
    exact ⟨hw2, good_of_word (List.mem_filter.mp hw2).2⟩
  exact wp_run C hq (va_runU (As := as) (rest := st) ⟨C.1, C.2.1, C.2.2.1, C.2.2.2.1, hts⟩ hok (va_cwO np hts hG rfl rfl rfl l6 l7 (ro_call hR c4 mc ms)) (ok_preV C hH hS hr hcl) rfl hn hl.1 rfl (lv_room hcat) hd ⟨hc, hs⟩) hS hl
theorem wp_callSU {q d np idx mc ms i ci : Nat} {M2 : MD} {fs : List Value} (as : List Value) {st0 : List Value} (hL : LSU M.1.cls idx M2 np) (hR : RO R d) (hd : decode M.2.1 pc = .ok (.invokespecial idx, 3)) (hq : pc + 3 = q) (hn : as.length = np) (hst : st0 = as.reverse ++ .ref (N + i) :: st) (hcat : (st.map fun v => v.category).sum ≤ 8) (hr : g[i]? = some (.inr (ci, fs))) (hc : k + mc ≤ R.cells) (hs : n + ms ≤ R.slots) (hok : Ok D N l d M2 (.ref (N + i) :: as) g mc ms (fun v g2 => Wp D N l E M R Qf (k + mc) (n + ms) q L (pv v st) g2)) : Wp D N l E M R Qf k n pc L st0 g := by
  intro p e s m args below meth c C H locs ls hH hS hl
  obtain ⟨⟨c1, c2, c3, c4⟩, l1, l2, l3, l4, l5⟩ := hL
  have hts := C.2.2.2.2.1
  subst hst
  have hG : GoodIn lw_good (va_wsSU M.1.cls idx M2.1 (Cond.code M2.1 M2.2.1 M2.2.2.1 M2.2.2.2 :: lw_good)) := by
    intro w hw
    have hw2 : w ∈ lw_good := by
      rcases List.mem_append.mp hw with h | h
      · simp only [List.mem_cons, List.not_mem_nil, or_false] at h
        rcases h with h | h | h | h | h <;> rw [h] <;> assumption
      · exact (good_ws c1 w h).1
    exact ⟨hw2, good_of_word (List.mem_filter.mp hw2).2⟩
  obtain ⟨r, hrc, -⟩ := hH.2 i _ hr
  have hat := (C.2.2.2.2.2.1.1.1 ci r hrc).2
  exact wp_run C hq (va_runSU (As := as) (rest := st) hat ⟨C.1, C.2.1, C.2.2.1, C.2.2.2.1, hts⟩ hok (va_cwSU np hts hG rfl rfl rfl ⟨l5, c3.2.2⟩ (ro_call hR c4 mc ms)) (ok_preV C hH hS hr (by rw [hrc]; rfl)) rfl hn hl.1 rfl (lv_room hcat) hd ⟨hc, hs⟩) hS hl
theorem wp_objInit {q idx i : Nat} (hl1 : Cond.methodLink M.1.cls idx objectInit ∈ lw_good) (hl2 : Cond.instanceMethod objectInit ∈ lw_good) (hl3 : Cond.code objectInit ⟨#[0xb1]⟩ 1 none ∈ lw_good) (hR : RO R 0) (hd : decode M.2.1 pc = .ok (.invokespecial idx, 3)) (hq : pc + 3 = q) (hcat : (st.map fun v => v.category).sum ≤ 8) (h : Wp D N l E M R Qf k n q L st g) : Wp D N l E M R Qf k n pc L (.ref (N + i) :: st) g := by
  subst hq
  intro p e s m args below meth c C H locs ls hH hS hl
  have hts := C.2.2.2.2.1
  refine W.objInit C.1 C.2.1 C.2.2.2.1 (hts _ hl1) (hts _ hl2) (hts _ hl3) rfl (by rw [C.2.2.1]; exact hl.1) rfl hd hR.1 (by have := hR.2; show 2 * 0 + _ + 12 ≤ _; omega) ?_
  exact h p e s m args below meth c C H locs ls hH hS hl
theorem wp_widen {k2 n2 : Nat} (h1 : k ≤ k2) (h2 : n ≤ n2) (h : Wp D N l E M R Qf k2 n2 pc L st g) : Wp D N l E M R Qf k n pc L st g := by
  intro p e s m args below meth c C H locs ls hH hS hl
  exact W.widen h1 h2 (h p e s m args below meth c C H locs ls hH hS hl)
theorem wp_cs0 {q d idx : Nat} {M2 : MD} (hL : LkS M.1.cls idx M2 0) (hR : RO R d) (hd : decode M.2.1 pc = .ok (.invokestatic idx, 3)) (hq : pc + 3 = q) (hcat : (st.map fun v => v.category).sum ≤ 8) (hc : k ≤ R.cells) (hs : n ≤ R.slots) (hok : Ok D N l d M2 [] g 0 0 (fun v g2 => Wp D N l E M R Qf k n q L (pv v st) g2)) : Wp D N l E M R Qf k n pc L (st) g := wp_callS [] hL hR hd hq rfl rfl hcat hc hs hok
theorem wp_csn0 {q d idx : Nat} {M2 : MD} {host : String} (hL : LSN M.1.cls idx M2 0 host) (hR : RO R d) (hd : decode M.2.1 pc = .ok (.invokestatic idx, 3)) (hq : pc + 3 = q) (hcat : (st.map fun v => v.category).sum ≤ 8) (hc : k ≤ R.cells) (hs : n ≤ R.slots) (hok : Ok D N l d M2 [] g 0 0 (fun v g2 => Wp D N l E M R Qf k n q L (pv v st) g2)) : Wp D N l E M R Qf k n pc L (st) g := wp_callSN [] hL hR hd hq rfl rfl hcat hc hs hok
theorem wp_cv0 {q d idx i ci : Nat} {M2 : MD} {fs : List Value} (hL : LV M.1.cls idx M2 0) (hR : RO R d) (hd : decode M.2.1 pc = .ok (.invokevirtual idx, 3)) (hq : pc + 3 = q) (hcat : (st.map fun v => v.category).sum ≤ 8) (hr : g[i]? = some (.inr (ci, fs))) (hcl : classes[ci]?.map (fun r => r.1) = some M2.1.cls) (hc : k ≤ R.cells) (hs : n ≤ R.slots) (hok : Ok D N l d M2 (.ref (N + i) :: []) g 0 0 (fun v g2 => Wp D N l E M R Qf k n q L (pv v st) g2)) : Wp D N l E M R Qf k n pc L (.ref (N + i) :: st) g := wp_callV [] hL hR hd hq rfl rfl hcat hr hcl hc hs hok
theorem wp_cu0 {q d idx i ci : Nat} {M2 : MD} {Cn : String} {x : MethodName} {fs : List Value} (hL : LU M.1.cls idx Cn x M2 0) (hR : RO R d) (hd : decode M.2.1 pc = .ok (.invokevirtual idx, 3)) (hq : pc + 3 = q) (hcat : (st.map fun v => v.category).sum ≤ 8) (hr : g[i]? = some (.inr (ci, fs))) (hcl : classes[ci]?.map (fun r => r.1) = some Cn) (hc : k ≤ R.cells) (hs : n ≤ R.slots) (hok : Ok D N l d M2 (.ref (N + i) :: []) g 0 0 (fun v g2 => Wp D N l E M R Qf k n q L (pv v st) g2)) : Wp D N l E M R Qf k n pc L (.ref (N + i) :: st) g := wp_callU [] hL hR hd hq rfl rfl hcat hr hcl hc hs hok
theorem wp_csu0 {q d idx i ci : Nat} {M2 : MD} {fs : List Value} (hL : LSU M.1.cls idx M2 0) (hR : RO R d) (hd : decode M.2.1 pc = .ok (.invokespecial idx, 3)) (hq : pc + 3 = q) (hcat : (st.map fun v => v.category).sum ≤ 8) (hr : g[i]? = some (.inr (ci, fs))) (hc : k ≤ R.cells) (hs : n ≤ R.slots) (hok : Ok D N l d M2 (.ref (N + i) :: []) g 0 0 (fun v g2 => Wp D N l E M R Qf k n q L (pv v st) g2)) : Wp D N l E M R Qf k n pc L (.ref (N + i) :: st) g := wp_callSU [] hL hR hd hq rfl rfl hcat hr hc hs hok
theorem wp_cs1 {q d idx : Nat} {M2 : MD} {a1 : Value} (hL : LkS M.1.cls idx M2 1) (hR : RO R d) (hd : decode M.2.1 pc = .ok (.invokestatic idx, 3)) (hq : pc + 3 = q) (hcat : (st.map fun v => v.category).sum ≤ 8) (hc : k ≤ R.cells) (hs : n ≤ R.slots) (hok : Ok D N l d M2 [a1] g 0 0 (fun v g2 => Wp D N l E M R Qf k n q L (pv v st) g2)) : Wp D N l E M R Qf k n pc L (a1 :: st) g := wp_callS [a1] hL hR hd hq rfl rfl hcat hc hs hok
theorem wp_csn1 {q d idx : Nat} {M2 : MD} {host : String} {a1 : Value} (hL : LSN M.1.cls idx M2 1 host) (hR : RO R d) (hd : decode M.2.1 pc = .ok (.invokestatic idx, 3)) (hq : pc + 3 = q) (hcat : (st.map fun v => v.category).sum ≤ 8) (hc : k ≤ R.cells) (hs : n ≤ R.slots) (hok : Ok D N l d M2 [a1] g 0 0 (fun v g2 => Wp D N l E M R Qf k n q L (pv v st) g2)) : Wp D N l E M R Qf k n pc L (a1 :: st) g := wp_callSN [a1] hL hR hd hq rfl rfl hcat hc hs hok
theorem wp_cv1 {q d idx i ci : Nat} {M2 : MD} {fs : List Value} {a1 : Value} (hL : LV M.1.cls idx M2 1) (hR : RO R d) (hd : decode M.2.1 pc = .ok (.invokevirtual idx, 3)) (hq : pc + 3 = q) (hcat : (st.map fun v => v.category).sum ≤ 8) (hr : g[i]? = some (.inr (ci, fs))) (hcl : classes[ci]?.map (fun r => r.1) = some M2.1.cls) (hc : k ≤ R.cells) (hs : n ≤ R.slots) (hok : Ok D N l d M2 (.ref (N + i) :: [a1]) g 0 0 (fun v g2 => Wp D N l E M R Qf k n q L (pv v st) g2)) : Wp D N l E M R Qf k n pc L (a1 :: .ref (N + i) :: st) g := wp_callV [a1] hL hR hd hq rfl rfl hcat hr hcl hc hs hok
theorem wp_cu1 {q d idx i ci : Nat} {M2 : MD} {Cn : String} {x : MethodName} {fs : List Value} {a1 : Value} (hL : LU M.1.cls idx Cn x M2 1) (hR : RO R d) (hd : decode M.2.1 pc = .ok (.invokevirtual idx, 3)) (hq : pc + 3 = q) (hcat : (st.map fun v => v.category).sum ≤ 8) (hr : g[i]? = some (.inr (ci, fs))) (hcl : classes[ci]?.map (fun r => r.1) = some Cn) (hc : k ≤ R.cells) (hs : n ≤ R.slots) (hok : Ok D N l d M2 (.ref (N + i) :: [a1]) g 0 0 (fun v g2 => Wp D N l E M R Qf k n q L (pv v st) g2)) : Wp D N l E M R Qf k n pc L (a1 :: .ref (N + i) :: st) g := wp_callU [a1] hL hR hd hq rfl rfl hcat hr hcl hc hs hok
theorem wp_csu1 {q d idx i ci : Nat} {M2 : MD} {fs : List Value} {a1 : Value} (hL : LSU M.1.cls idx M2 1) (hR : RO R d) (hd : decode M.2.1 pc = .ok (.invokespecial idx, 3)) (hq : pc + 3 = q) (hcat : (st.map fun v => v.category).sum ≤ 8) (hr : g[i]? = some (.inr (ci, fs))) (hc : k ≤ R.cells) (hs : n ≤ R.slots) (hok : Ok D N l d M2 (.ref (N + i) :: [a1]) g 0 0 (fun v g2 => Wp D N l E M R Qf k n q L (pv v st) g2)) : Wp D N l E M R Qf k n pc L (a1 :: .ref (N + i) :: st) g := wp_callSU [a1] hL hR hd hq rfl rfl hcat hr hc hs hok
theorem wp_cs2 {q d idx : Nat} {M2 : MD} {a1 a2 : Value} (hL : LkS M.1.cls idx M2 2) (hR : RO R d) (hd : decode M.2.1 pc = .ok (.invokestatic idx, 3)) (hq : pc + 3 = q) (hcat : (st.map fun v => v.category).sum ≤ 8) (hc : k ≤ R.cells) (hs : n ≤ R.slots) (hok : Ok D N l d M2 [a1, a2] g 0 0 (fun v g2 => Wp D N l E M R Qf k n q L (pv v st) g2)) : Wp D N l E M R Qf k n pc L (a2 :: a1 :: st) g := wp_callS [a1, a2] hL hR hd hq rfl rfl hcat hc hs hok
theorem wp_csn2 {q d idx : Nat} {M2 : MD} {host : String} {a1 a2 : Value} (hL : LSN M.1.cls idx M2 2 host) (hR : RO R d) (hd : decode M.2.1 pc = .ok (.invokestatic idx, 3)) (hq : pc + 3 = q) (hcat : (st.map fun v => v.category).sum ≤ 8) (hc : k ≤ R.cells) (hs : n ≤ R.slots) (hok : Ok D N l d M2 [a1, a2] g 0 0 (fun v g2 => Wp D N l E M R Qf k n q L (pv v st) g2)) : Wp D N l E M R Qf k n pc L (a2 :: a1 :: st) g := wp_callSN [a1, a2] hL hR hd hq rfl rfl hcat hc hs hok
theorem wp_cv2 {q d idx i ci : Nat} {M2 : MD} {fs : List Value} {a1 a2 : Value} (hL : LV M.1.cls idx M2 2) (hR : RO R d) (hd : decode M.2.1 pc = .ok (.invokevirtual idx, 3)) (hq : pc + 3 = q) (hcat : (st.map fun v => v.category).sum ≤ 8) (hr : g[i]? = some (.inr (ci, fs))) (hcl : classes[ci]?.map (fun r => r.1) = some M2.1.cls) (hc : k ≤ R.cells) (hs : n ≤ R.slots) (hok : Ok D N l d M2 (.ref (N + i) :: [a1, a2]) g 0 0 (fun v g2 => Wp D N l E M R Qf k n q L (pv v st) g2)) : Wp D N l E M R Qf k n pc L (a2 :: a1 :: .ref (N + i) :: st) g := wp_callV [a1, a2] hL hR hd hq rfl rfl hcat hr hcl hc hs hok
theorem wp_cu2 {q d idx i ci : Nat} {M2 : MD} {Cn : String} {x : MethodName} {fs : List Value} {a1 a2 : Value} (hL : LU M.1.cls idx Cn x M2 2) (hR : RO R d) (hd : decode M.2.1 pc = .ok (.invokevirtual idx, 3)) (hq : pc + 3 = q) (hcat : (st.map fun v => v.category).sum ≤ 8) (hr : g[i]? = some (.inr (ci, fs))) (hcl : classes[ci]?.map (fun r => r.1) = some Cn) (hc : k ≤ R.cells) (hs : n ≤ R.slots) (hok : Ok D N l d M2 (.ref (N + i) :: [a1, a2]) g 0 0 (fun v g2 => Wp D N l E M R Qf k n q L (pv v st) g2)) : Wp D N l E M R Qf k n pc L (a2 :: a1 :: .ref (N + i) :: st) g := wp_callU [a1, a2] hL hR hd hq rfl rfl hcat hr hcl hc hs hok
theorem wp_csu2 {q d idx i ci : Nat} {M2 : MD} {fs : List Value} {a1 a2 : Value} (hL : LSU M.1.cls idx M2 2) (hR : RO R d) (hd : decode M.2.1 pc = .ok (.invokespecial idx, 3)) (hq : pc + 3 = q) (hcat : (st.map fun v => v.category).sum ≤ 8) (hr : g[i]? = some (.inr (ci, fs))) (hc : k ≤ R.cells) (hs : n ≤ R.slots) (hok : Ok D N l d M2 (.ref (N + i) :: [a1, a2]) g 0 0 (fun v g2 => Wp D N l E M R Qf k n q L (pv v st) g2)) : Wp D N l E M R Qf k n pc L (a2 :: a1 :: .ref (N + i) :: st) g := wp_callSU [a1, a2] hL hR hd hq rfl rfl hcat hr hc hs hok
theorem wp_cs3 {q d idx : Nat} {M2 : MD} {a1 a2 a3 : Value} (hL : LkS M.1.cls idx M2 3) (hR : RO R d) (hd : decode M.2.1 pc = .ok (.invokestatic idx, 3)) (hq : pc + 3 = q) (hcat : (st.map fun v => v.category).sum ≤ 8) (hc : k ≤ R.cells) (hs : n ≤ R.slots) (hok : Ok D N l d M2 [a1, a2, a3] g 0 0 (fun v g2 => Wp D N l E M R Qf k n q L (pv v st) g2)) : Wp D N l E M R Qf k n pc L (a3 :: a2 :: a1 :: st) g := wp_callS [a1, a2, a3] hL hR hd hq rfl rfl hcat hc hs hok
theorem wp_csn3 {q d idx : Nat} {M2 : MD} {host : String} {a1 a2 a3 : Value} (hL : LSN M.1.cls idx M2 3 host) (hR : RO R d) (hd : decode M.2.1 pc = .ok (.invokestatic idx, 3)) (hq : pc + 3 = q) (hcat : (st.map fun v => v.category).sum ≤ 8) (hc : k ≤ R.cells) (hs : n ≤ R.slots) (hok : Ok D N l d M2 [a1, a2, a3] g 0 0 (fun v g2 => Wp D N l E M R Qf k n q L (pv v st) g2)) : Wp D N l E M R Qf k n pc L (a3 :: a2 :: a1 :: st) g := wp_callSN [a1, a2, a3] hL hR hd hq rfl rfl hcat hc hs hok
theorem wp_cv3 {q d idx i ci : Nat} {M2 : MD} {fs : List Value} {a1 a2 a3 : Value} (hL : LV M.1.cls idx M2 3) (hR : RO R d) (hd : decode M.2.1 pc = .ok (.invokevirtual idx, 3)) (hq : pc + 3 = q) (hcat : (st.map fun v => v.category).sum ≤ 8) (hr : g[i]? = some (.inr (ci, fs))) (hcl : classes[ci]?.map (fun r => r.1) = some M2.1.cls) (hc : k ≤ R.cells) (hs : n ≤ R.slots) (hok : Ok D N l d M2 (.ref (N + i) :: [a1, a2, a3]) g 0 0 (fun v g2 => Wp D N l E M R Qf k n q L (pv v st) g2)) : Wp D N l E M R Qf k n pc L (a3 :: a2 :: a1 :: .ref (N + i) :: st) g := wp_callV [a1, a2, a3] hL hR hd hq rfl rfl hcat hr hcl hc hs hok
theorem wp_cu3 {q d idx i ci : Nat} {M2 : MD} {Cn : String} {x : MethodName} {fs : List Value} {a1 a2 a3 : Value} (hL : LU M.1.cls idx Cn x M2 3) (hR : RO R d) (hd : decode M.2.1 pc = .ok (.invokevirtual idx, 3)) (hq : pc + 3 = q) (hcat : (st.map fun v => v.category).sum ≤ 8) (hr : g[i]? = some (.inr (ci, fs))) (hcl : classes[ci]?.map (fun r => r.1) = some Cn) (hc : k ≤ R.cells) (hs : n ≤ R.slots) (hok : Ok D N l d M2 (.ref (N + i) :: [a1, a2, a3]) g 0 0 (fun v g2 => Wp D N l E M R Qf k n q L (pv v st) g2)) : Wp D N l E M R Qf k n pc L (a3 :: a2 :: a1 :: .ref (N + i) :: st) g := wp_callU [a1, a2, a3] hL hR hd hq rfl rfl hcat hr hcl hc hs hok
theorem wp_csu3 {q d idx i ci : Nat} {M2 : MD} {fs : List Value} {a1 a2 a3 : Value} (hL : LSU M.1.cls idx M2 3) (hR : RO R d) (hd : decode M.2.1 pc = .ok (.invokespecial idx, 3)) (hq : pc + 3 = q) (hcat : (st.map fun v => v.category).sum ≤ 8) (hr : g[i]? = some (.inr (ci, fs))) (hc : k ≤ R.cells) (hs : n ≤ R.slots) (hok : Ok D N l d M2 (.ref (N + i) :: [a1, a2, a3]) g 0 0 (fun v g2 => Wp D N l E M R Qf k n q L (pv v st) g2)) : Wp D N l E M R Qf k n pc L (a3 :: a2 :: a1 :: .ref (N + i) :: st) g := wp_callSU [a1, a2, a3] hL hR hd hq rfl rfl hcat hr hc hs hok
theorem wp_cs4 {q d idx : Nat} {M2 : MD} {a1 a2 a3 a4 : Value} (hL : LkS M.1.cls idx M2 4) (hR : RO R d) (hd : decode M.2.1 pc = .ok (.invokestatic idx, 3)) (hq : pc + 3 = q) (hcat : (st.map fun v => v.category).sum ≤ 8) (hc : k ≤ R.cells) (hs : n ≤ R.slots) (hok : Ok D N l d M2 [a1, a2, a3, a4] g 0 0 (fun v g2 => Wp D N l E M R Qf k n q L (pv v st) g2)) : Wp D N l E M R Qf k n pc L (a4 :: a3 :: a2 :: a1 :: st) g := wp_callS [a1, a2, a3, a4] hL hR hd hq rfl rfl hcat hc hs hok
theorem wp_csn4 {q d idx : Nat} {M2 : MD} {host : String} {a1 a2 a3 a4 : Value} (hL : LSN M.1.cls idx M2 4 host) (hR : RO R d) (hd : decode M.2.1 pc = .ok (.invokestatic idx, 3)) (hq : pc + 3 = q) (hcat : (st.map fun v => v.category).sum ≤ 8) (hc : k ≤ R.cells) (hs : n ≤ R.slots) (hok : Ok D N l d M2 [a1, a2, a3, a4] g 0 0 (fun v g2 => Wp D N l E M R Qf k n q L (pv v st) g2)) : Wp D N l E M R Qf k n pc L (a4 :: a3 :: a2 :: a1 :: st) g := wp_callSN [a1, a2, a3, a4] hL hR hd hq rfl rfl hcat hc hs hok
theorem wp_cv4 {q d idx i ci : Nat} {M2 : MD} {fs : List Value} {a1 a2 a3 a4 : Value} (hL : LV M.1.cls idx M2 4) (hR : RO R d) (hd : decode M.2.1 pc = .ok (.invokevirtual idx, 3)) (hq : pc + 3 = q) (hcat : (st.map fun v => v.category).sum ≤ 8) (hr : g[i]? = some (.inr (ci, fs))) (hcl : classes[ci]?.map (fun r => r.1) = some M2.1.cls) (hc : k ≤ R.cells) (hs : n ≤ R.slots) (hok : Ok D N l d M2 (.ref (N + i) :: [a1, a2, a3, a4]) g 0 0 (fun v g2 => Wp D N l E M R Qf k n q L (pv v st) g2)) : Wp D N l E M R Qf k n pc L (a4 :: a3 :: a2 :: a1 :: .ref (N + i) :: st) g := wp_callV [a1, a2, a3, a4] hL hR hd hq rfl rfl hcat hr hcl hc hs hok
theorem wp_cu4 {q d idx i ci : Nat} {M2 : MD} {Cn : String} {x : MethodName} {fs : List Value} {a1 a2 a3 a4 : Value} (hL : LU M.1.cls idx Cn x M2 4) (hR : RO R d) (hd : decode M.2.1 pc = .ok (.invokevirtual idx, 3)) (hq : pc + 3 = q) (hcat : (st.map fun v => v.category).sum ≤ 8) (hr : g[i]? = some (.inr (ci, fs))) (hcl : classes[ci]?.map (fun r => r.1) = some Cn) (hc : k ≤ R.cells) (hs : n ≤ R.slots) (hok : Ok D N l d M2 (.ref (N + i) :: [a1, a2, a3, a4]) g 0 0 (fun v g2 => Wp D N l E M R Qf k n q L (pv v st) g2)) : Wp D N l E M R Qf k n pc L (a4 :: a3 :: a2 :: a1 :: .ref (N + i) :: st) g := wp_callU [a1, a2, a3, a4] hL hR hd hq rfl rfl hcat hr hcl hc hs hok
theorem wp_csu4 {q d idx i ci : Nat} {M2 : MD} {fs : List Value} {a1 a2 a3 a4 : Value} (hL : LSU M.1.cls idx M2 4) (hR : RO R d) (hd : decode M.2.1 pc = .ok (.invokespecial idx, 3)) (hq : pc + 3 = q) (hcat : (st.map fun v => v.category).sum ≤ 8) (hr : g[i]? = some (.inr (ci, fs))) (hc : k ≤ R.cells) (hs : n ≤ R.slots) (hok : Ok D N l d M2 (.ref (N + i) :: [a1, a2, a3, a4]) g 0 0 (fun v g2 => Wp D N l E M R Qf k n q L (pv v st) g2)) : Wp D N l E M R Qf k n pc L (a4 :: a3 :: a2 :: a1 :: .ref (N + i) :: st) g := wp_callSU [a1, a2, a3, a4] hL hR hd hq rfl rfl hcat hr hc hs hok
theorem wp_cs5 {q d idx : Nat} {M2 : MD} {a1 a2 a3 a4 a5 : Value} (hL : LkS M.1.cls idx M2 5) (hR : RO R d) (hd : decode M.2.1 pc = .ok (.invokestatic idx, 3)) (hq : pc + 3 = q) (hcat : (st.map fun v => v.category).sum ≤ 8) (hc : k ≤ R.cells) (hs : n ≤ R.slots) (hok : Ok D N l d M2 [a1, a2, a3, a4, a5] g 0 0 (fun v g2 => Wp D N l E M R Qf k n q L (pv v st) g2)) : Wp D N l E M R Qf k n pc L (a5 :: a4 :: a3 :: a2 :: a1 :: st) g := wp_callS [a1, a2, a3, a4, a5] hL hR hd hq rfl rfl hcat hc hs hok
theorem wp_csn5 {q d idx : Nat} {M2 : MD} {host : String} {a1 a2 a3 a4 a5 : Value} (hL : LSN M.1.cls idx M2 5 host) (hR : RO R d) (hd : decode M.2.1 pc = .ok (.invokestatic idx, 3)) (hq : pc + 3 = q) (hcat : (st.map fun v => v.category).sum ≤ 8) (hc : k ≤ R.cells) (hs : n ≤ R.slots) (hok : Ok D N l d M2 [a1, a2, a3, a4, a5] g 0 0 (fun v g2 => Wp D N l E M R Qf k n q L (pv v st) g2)) : Wp D N l E M R Qf k n pc L (a5 :: a4 :: a3 :: a2 :: a1 :: st) g := wp_callSN [a1, a2, a3, a4, a5] hL hR hd hq rfl rfl hcat hc hs hok
theorem wp_cv5 {q d idx i ci : Nat} {M2 : MD} {fs : List Value} {a1 a2 a3 a4 a5 : Value} (hL : LV M.1.cls idx M2 5) (hR : RO R d) (hd : decode M.2.1 pc = .ok (.invokevirtual idx, 3)) (hq : pc + 3 = q) (hcat : (st.map fun v => v.category).sum ≤ 8) (hr : g[i]? = some (.inr (ci, fs))) (hcl : classes[ci]?.map (fun r => r.1) = some M2.1.cls) (hc : k ≤ R.cells) (hs : n ≤ R.slots) (hok : Ok D N l d M2 (.ref (N + i) :: [a1, a2, a3, a4, a5]) g 0 0 (fun v g2 => Wp D N l E M R Qf k n q L (pv v st) g2)) : Wp D N l E M R Qf k n pc L (a5 :: a4 :: a3 :: a2 :: a1 :: .ref (N + i) :: st) g := wp_callV [a1, a2, a3, a4, a5] hL hR hd hq rfl rfl hcat hr hcl hc hs hok
theorem wp_cu5 {q d idx i ci : Nat} {M2 : MD} {Cn : String} {x : MethodName} {fs : List Value} {a1 a2 a3 a4 a5 : Value} (hL : LU M.1.cls idx Cn x M2 5) (hR : RO R d) (hd : decode M.2.1 pc = .ok (.invokevirtual idx, 3)) (hq : pc + 3 = q) (hcat : (st.map fun v => v.category).sum ≤ 8) (hr : g[i]? = some (.inr (ci, fs))) (hcl : classes[ci]?.map (fun r => r.1) = some Cn) (hc : k ≤ R.cells) (hs : n ≤ R.slots) (hok : Ok D N l d M2 (.ref (N + i) :: [a1, a2, a3, a4, a5]) g 0 0 (fun v g2 => Wp D N l E M R Qf k n q L (pv v st) g2)) : Wp D N l E M R Qf k n pc L (a5 :: a4 :: a3 :: a2 :: a1 :: .ref (N + i) :: st) g := wp_callU [a1, a2, a3, a4, a5] hL hR hd hq rfl rfl hcat hr hcl hc hs hok
theorem wp_csu5 {q d idx i ci : Nat} {M2 : MD} {fs : List Value} {a1 a2 a3 a4 a5 : Value} (hL : LSU M.1.cls idx M2 5) (hR : RO R d) (hd : decode M.2.1 pc = .ok (.invokespecial idx, 3)) (hq : pc + 3 = q) (hcat : (st.map fun v => v.category).sum ≤ 8) (hr : g[i]? = some (.inr (ci, fs))) (hc : k ≤ R.cells) (hs : n ≤ R.slots) (hok : Ok D N l d M2 (.ref (N + i) :: [a1, a2, a3, a4, a5]) g 0 0 (fun v g2 => Wp D N l E M R Qf k n q L (pv v st) g2)) : Wp D N l E M R Qf k n pc L (a5 :: a4 :: a3 :: a2 :: a1 :: .ref (N + i) :: st) g := wp_callSU [a1, a2, a3, a4, a5] hL hR hd hq rfl rfl hcat hr hc hs hok
end WC
