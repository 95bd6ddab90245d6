theorem kw_cm : Cond.classLink "FillAndGo" 36 "[[I" ∈ lw_good := gw 290 (by decide +kernel) (by decide +kernel)
/-- a row of rows, as far as i of them are made -/
def mnF (a i : Nat) : Nat → Value := fun j => if j < i then .ref (a + 1 + j) else .null
theorem mnF_0 (a : Nat) : mnF a 0 = fun _ => .null := by
  funext j
  exact if_neg (Nat.not_lt_zero _)
theorem mnF_s (a i : Nat) : updV (mnF a i) i (.ref (a + 1 + i)) = mnF a (i + 1) := by
  funext j
  simp only [updV, mnF]
  by_cases e : j = i
  · subst e; rw [if_pos rfl, if_pos (Nat.lt_succ_self _)]
  · rw [if_neg e]
    by_cases h : j < i
    · rw [if_pos h, if_pos (by omega)]
    · rw [if_neg h, if_neg (by omega)]
def mnI (cI : ClassId) (w : Nat) : Cell := arrV cI w (fun _ => .int 0)
def mnO (cA : ClassId) (n a i : Nat) : Cell := arrV cA n (mnF a i)
theorem mnO_s (cA : ClassId) (n a i : Nat) : (mnO cA n a i).setSlot i (.ref (a + 1 + i)) = mnO cA n a (i + 1) := by
  unfold mnO
  rw [arrV_store, mnF_s]
/-- the state when i rows are made -/
def mnS (s : State) (cA cI : ClassId) (n w : Nat) : Nat → State
  | 0 => s.pushCell (mnO cA n s.heap.size 0)
  | i + 1 => ((mnS s cA cI n w i).pushCell (mnI cI w)).setCell s.heap.size (mnO cA n s.heap.size (i + 1))
section MN
variable {s : State} {cA cI : ClassId} {n w : Nat}
theorem mn_facts : ∀ i, (mnS s cA cI n w i).heap.size = s.heap.size + 1 + i ∧ (mnS s cA cI n w i).heap[s.heap.size]? = some (mnO cA n s.heap.size i) ∧ (mnS s cA cI n w i).vm = s.vm ∧ (mnS s cA cI n w i).slotsUsed = s.slotsUsed + n + i * w ∧ (∀ a, a < s.heap.size → (mnS s cA cI n w i).heap[a]? = s.heap[a]?) ∧ ∀ j, j < i → (mnS s cA cI n w i).heap[s.heap.size + 1 + j]? = some (mnI cI w)
  | 0 => by
    refine ⟨by simp [mnS], by simp [mnS], rfl, by simp [mnS, mnO, arrV_size], fun a ha => State.heap_pushCell_of_lt _ _ ha, fun j hj => absurd hj (Nat.not_lt_zero _)⟩
  | i + 1 => by
    obtain ⟨z, o, v, u, q, r⟩ := mn_facts i
    have hin : s.heap.size < (mnS s cA cI n w i).heap.size := by omega
    have ho : ((mnS s cA cI n w i).pushCell (mnI cI w)).heap[s.heap.size]? = some (mnO cA n s.heap.size i) := by
      rw [State.heap_pushCell_of_lt (h := hin)]; exact o
    refine ⟨?_, State.heap_setCell_self ho, ?_, ?_, fun a ha => ?_, fun j hj => ?_⟩
    · simp [mnS, State.setCell, z]; omega
    · simp [mnS, v]
    · simp [mnS, u, mnI, arrV_size, Nat.succ_mul]; omega
    · show (State.setCell _ s.heap.size _).heap[a]? = _
      have hl : a < (mnS s cA cI n w i).heap.size := by omega
      rw [State.heap_setCell_other (Nat.ne_of_gt ha), State.heap_pushCell_of_lt (h := hl)]
      exact q a ha
    · show (State.setCell _ s.heap.size _).heap[s.heap.size + 1 + j]? = _
      have hne : s.heap.size ≠ s.heap.size + 1 + j := by omega
      rw [State.heap_setCell_other hne]
      by_cases e : j = i
      · subst e
        rw [← z]
        exact State.heap_pushCell_size _ _
      · have hl : s.heap.size + 1 + j < (mnS s cA cI n w i).heap.size := by omega
        rw [State.heap_pushCell_of_lt (h := hl)]
        exact r j (by omega)
theorem mn_top (f : JFrame) : ∀ i, mnS (s.setTop f) cA cI n w i = (mnS s cA cI n w i).setTop f
  | 0 => rfl
  | i + 1 => by
    rw [mnS, mnS, mn_top f i, State.heap_setTop, State.pushCell_setTop, State.setCell_setTop]
end MN
section MW
variable {E : CtlPost} {e : Env} {d : Bool} {acts : List Action} {s : State}
theorem mn_one {cI cc : ClassId} {kI : Class} {w : Int32} (hk : s.vm.classes[cI]? = some kI) (hkd : kI.kind = .array cc .int) (hw : ¬ w < 0) (hl : ¬ w.toNatClampNeg > e.platform.arrayLengthLimit) (hh : ¬ w.toNatClampNeg * componentBytes .int > e.platform.maxHeapBytes) (h1 : s.heap.size < e.platform.maxCells) (h2 : s.slotsUsed + w.toNatClampNeg ≤ e.platform.maxSlots) {Q : Addr → Pre} (hq : ∀ acts', Q s.heap.size d acts' (s.pushCell (mnI cI w.toNatClampNeg))) : wp (Op.multianewarray.make cI [w]) Q E e d acts s := by
  rw [Op.multianewarray.make]
  simp only [wp_bind', W.ite, hw, if_false, wp_pure', W.theClass, hk, hkd, Option.some.injEq, exists_eq_left']
  refine W.newArray_of hk hkd hl hh h1 h2 rfl (fun acts' => ?_)
  have := hq acts'
  unfold mnI at this
  rw [← arrV_new] at this
  exact this
theorem mn_two {cA cI cc : ClassId} {kA kI : Class} {n w : Int32} (hkA : s.vm.classes[cA]? = some kA) (hdA : kA.kind = .array cI (.array .int)) (hkI : s.vm.classes[cI]? = some kI) (hdI : kI.kind = .array cc .int) (hn : ¬ n < 0) (hw : ¬ w < 0) (l1 : ¬ n.toNatClampNeg > e.platform.arrayLengthLimit) (b1 : ¬ n.toNatClampNeg * componentBytes (.array .int) > e.platform.maxHeapBytes) (l2 : ¬ w.toNatClampNeg > e.platform.arrayLengthLimit) (b2 : ¬ w.toNatClampNeg * componentBytes .int > e.platform.maxHeapBytes) (hc : s.heap.size + 1 + n.toNatClampNeg ≤ e.platform.maxCells) (hs : s.slotsUsed + n.toNatClampNeg + n.toNatClampNeg * w.toNatClampNeg ≤ e.platform.maxSlots) {Q : Addr → Pre} (hq : ∀ d' acts', Q s.heap.size d' acts' (mnS s cA cI n.toNatClampNeg w.toNatClampNeg n.toNatClampNeg)) : wp (Op.multianewarray.make cA [n, w]) Q E e d acts s := by
  generalize eN : n.toNatClampNeg = N at *
  generalize eW : w.toNatClampNeg = V at *
  have nobad : ([w].find? (· < 0)) = none := by simp [hw]
  rw [Op.multianewarray.make]
  simp only [wp_bind', W.ite, hn, if_false, wp_pure', W.theClass, hkA, hdA, Option.some.injEq, exists_eq_left', eN]
  refine W.newArray_of hkA hdA l1 b1 (by omega) (by have := Nat.zero_le (N * V); omega) rfl (fun acts' => ?_)
  rw [show ({ cls := cA, slots := Array.replicate N .null } : Cell) = mnO cA N s.heap.size 0 by unfold mnO; rw [mnF_0, ← arrV_new]]
  simp only [nobad]
  rw [ite_self, wp_bind', Std.Legacy.Range.forIn_eq_forIn_range', show ([:N] : Std.Legacy.Range).size = N by simp [Std.Legacy.Range.size]]
  show wp (forIn (List.range' 0 N 1) PUnit.unit _) _ E e d acts' _
  refine wp_forIn_inv (fun r t => ∃ i, i + r.length = N ∧ r = List.range' i r.length ∧ t = mnS s cA cI N V i) _ _ ⟨0, by simp, by simp, rfl⟩ ?_ ?_
  · rintro j r t d2 a2 Q2 ⟨i, hi, hr, rfl⟩ hnx
    rw [List.length_cons] at hi
    rw [List.length_cons, List.range'_succ] at hr
    obtain ⟨rfl, hr⟩ := List.cons.inj hr
    obtain ⟨z, oc, vm, us, -, -⟩ := mn_facts (s := s) (cA := cA) (cI := cI) (n := N) (w := V) j
    have hmul : j * V + V ≤ N * V := by
      have := Nat.mul_le_mul_right V (show j + 1 ≤ N by omega)
      rw [Nat.succ_mul] at this
      exact this
    simp only [wp_bind']
    refine mn_one (by rw [vm]; exact hkI) hdI hw (by rw [eW]; exact l2) (by rw [eW]; exact b2) (by omega) (by rw [eW]; omega) (fun a3 => ?_)
    rw [eW]
    simp only [wp_bind', W.writeLoc, wp_pure']
    have hl : s.heap.size < (mnS s cA cI N V j).heap.size := by omega
    refine ⟨mnO cA N s.heap.size j, by rw [State.heap_pushCell_of_lt (h := hl)]; exact oc, by unfold mnO arrV; simp, by unfold mnO; rw [arrV_size]; omega, ?_, hnx _ _ _ ⟨j + 1, by omega, hr, ?_⟩⟩
    · show State.fitsSlot _ cA _ _ _ = true
      simp [State.fitsSlot, State.slotType?, vm, hkA, hdA, mnO, arrV]
      rfl
    · rw [z, mnO_s]
      rfl
  · rintro t d2 a2 ⟨i, hi, -, rfl⟩
    rw [List.length_nil, Nat.add_zero] at hi
    subst hi
    simp only [wp_pure']
    exact hq _ _
end MW
theorem ao_spec {args : Array Value} {s : State} (h : (Cond.arrayOver (.array .int)).before args s = true) : ∃ cI cA kA, s.vm.findClass "[I" = some cI ∧ s.vm.classes[cA]? = some kA ∧ kA.kind = .array cI (.array .int) ∧ s.vm.findClass "[[I" = some cA := by
  simp only [Cond.before, Cond.holds, Cond.value, beq_iff_eq] at h
  have e1 : (FieldType.array FieldType.int).toString = "[I" := by decide +kernel
  rw [e1] at h
  cases hc : s.vm.findClass "[I" with
  | none => simp [hc] at h
  | some cI =>
    simp only [hc, Option.bind_some, Option.bind_eq_some_iff, Option.map_eq_some_iff] at h
    obtain ⟨cA, hi, kA, hk, hb⟩ := h
    obtain ⟨hlt, hp, -⟩ := Array.findIdx?_eq_some_iff_getElem.mp hi
    rw [(Array.getElem?_eq_some_iff.mp hk).2] at hp
    cases hd : kA.kind with
    | array c2 ty =>
      rw [hd] at hb hp
      simp at hb hp
      exact ⟨cI, cA, kA, rfl, hk, by rw [hd, hp, hb.1], hb.2⟩
    | _ => rw [hd] at hb; simp at hb
/-- what the tables say of a row of rows: its component is the row of ints -/
def MX (D : xD) (U : State) : Prop := ∃ kA : Class, U.vm.classes[D.2.1 7]? = some kA ∧ kA.kind = .array (D.2.1 0) (.array .int)
theorem MX.moved {D : xD} {s U : State} (h : MX D s) (hW : s.WarmedH U.vm) : MX D U := by
  obtain ⟨k, h1, h2⟩ := h
  obtain ⟨k2, g1, g2⟩ := hW.alike.2.2 _ _ h1
  exact ⟨k2, g1, by rw [g2]; exact h2⟩
theorem MX.of {D : xD} {args : Array Value} {s : State} (h : (Cond.arrayOver (.array .int)).before args s = true) (f7 : s.vm.findClass "[[I" = some (D.2.1 7)) (f0 : s.vm.findClass "[I" = some (D.2.1 0)) : MX D s := by
  obtain ⟨cI, cA, kA, f1, hk, hd, f2⟩ := ao_spec h
  obtain rfl : cI = D.2.1 0 := Option.some.inj (f1.symm.trans f0)
  obtain rfl : cA = D.2.1 7 := Option.some.inj (f2.symm.trans f7)
  exact ⟨kA, hk, hd⟩
theorem mn_stand {p : Program} {l : Launch} {e : Env} {R : Room} {s : State} {m : MethodId} {args : Array Value} {below : List Frame} {meth : Method} {c : Code} {T : State} {locs : List Loc} {cells slots : Nat} (X : Stand p l e R s m args below meth c T locs cells slots) (cA cI : ClassId) (n w : Nat) : ∀ i, ∃ L2 : List Loc, (∀ q ∈ L2, q.base = T.heap.size) ∧ Stand p l e R s m args below meth c (mnS T cA cI n w i) (locs ++ L2) (cells + 1 + i) (slots + n + i * w)
  | 0 => by
    have h := X.pushed (mnO cA n T.heap.size 0)
    rw [show (mnO cA n T.heap.size 0).slots.size = n from arrV_size _ _ _] at h
    exact ⟨[], fun q hq => absurd hq List.not_mem_nil, by rw [List.append_nil, Nat.zero_mul]; exact h⟩
  | i + 1 => by
    obtain ⟨L2, hL, Y⟩ := mn_stand X cA cI n w i
    obtain ⟨z, oc, -⟩ := mn_facts (s := T) (cA := cA) (cI := cI) (n := n) (w := w) i
    have hc : ((mnS T cA cI n w i).pushCell (mnI cI w)).heap[T.heap.size]? = some (mnO cA n T.heap.size i) := by
      have hl : T.heap.size < (mnS T cA cI n w i).heap.size := by omega
      rw [State.heap_pushCell_of_lt (h := hl)]; exact oc
    have h := (Y.pushed (mnI cI w)).stored hc i (.ref (T.heap.size + 1 + i))
    rw [mnO_s, show (mnI cI w).slots.size = w from arrV_size _ _ _, List.append_assoc] at h
    refine ⟨L2 ++ [⟨T.heap.size, i⟩], fun q hq => ?_, ?_⟩
    · rcases List.mem_append.mp hq with g | g
      · exact hL q g
      · rw [List.mem_singleton.mp g]
    · rw [Nat.succ_mul, ← Nat.add_assoc (slots + n)]
      exact h
theorem hs.many {D : xD} {N n w : Nat} {g : List va_E} {H H1 : Heap} (h : hs D.1 N g H) (hz : H1.size = H.size + 1 + n) (ho : ∀ a, a < H.size → H1[a]? = H[a]?) (h0 : H1[H.size]? = some (mnO (D.2.1 7) n H.size n)) (h1 : ∀ j, j < n → H1[H.size + 1 + j]? = some (mnI (D.2.1 0) w)) : hs D.1 N (g ++ (oA D 7 n (rows N (g.length + 1) n) :: List.replicate n (iA D w (fun _ => 0)))) H1 := by
  have hs0 := h.1
  refine ⟨by rw [hz, hs0]; simp; omega, fun i e he => ?_⟩
  by_cases hi : i < g.length
  · rw [List.getElem?_append_left hi] at he
    exact (h.2 i e he).kept (ho _ (by show N + i < H.size; omega))
  · rw [List.getElem?_append_right (by omega)] at he
    cases hj : i - g.length with
    | zero =>
      rw [hj] at he
      cases he
      show H1[N + i]? = some (vp_cell _ _)
      rw [show N + i = H.size by omega, h0, vp_cell_q]
      unfold mnO
      congr 2
      funext j
      simp only [mnF, rows]
      by_cases hjn : j < n
      · rw [if_pos hjn, if_pos hjn]
        show Value.ref (H.size + 1 + j) = Value.ref (N + (g.length + 1 + j))
        rw [show H.size + 1 + j = N + (g.length + 1 + j) by omega]
      · rw [if_neg hjn, if_neg hjn]
        rfl
    | succ j =>
      rw [hj, List.getElem?_cons_succ] at he
      have hjn : j < n := by
        have := (List.getElem?_eq_some_iff.mp he).1
        rw [List.length_replicate] at this
        exact this
      rw [List.getElem?_replicate, if_pos hjn] at he
      cases he
      show H1[N + i]? = some (vp_cell _ _)
      rw [show N + i = H.size + 1 + j by omega, h1 j hjn]
      rfl
set_option maxHeartbeats 4000000 in
set_option maxRecDepth 100000 in
theorem wp_multi {D : xD} {N : Nat} {l : Launch} {E : EX} {M : MD} {R : Room} {Qf : QF} {k nn pc : Nat} {L : List (Nat × Value)} {st : List Value} {g : List va_E} {q n w : Nat} (hE : ∀ s a meth, E s a meth → MX D s) (hM : M.1.cls = "FillAndGo") (hd : decode M.2.1 pc = .ok (.multianewarray 36 2, 4)) (hq : pc + 4 = q) (hn : n < 1000) (hw : w < 1000) (hcells : k + (1 + n) ≤ R.cells) (hslots : nn + (n + n * w) ≤ R.slots) (h : Wp D N l E M R Qf (k + 1 + n) (nn + n + n * w) q L (.ref (N + g.length) :: st) (g ++ (oA D 7 n (rows N (g.length + 1) n) :: List.replicate n (iA D w (fun _ => 0))))) : Wp D N l E M R Qf k nn pc L (.int (nI w) :: .int (nI n) :: st) g := by
  subst hq
  intro p e s m args below meth c C H locs ls hH hS hl T hT X
  have hts := C.2.2.2.2.1
  have hK := C.2.2.2.2.2.1.1
  have hown : s.vm.findClass "FillAndGo" = some m.cls := by rw [← hM]; exact C.2.2.2.1
  have hpl : e.platform.magicAccessors = ({} : Platform).magicAccessors := by rw [X.admits.platform]
  have fA : s.vm.findClass "[[I" = some (D.2.1 7) := (hK.2 7 _ rfl).2
  have fI : s.vm.findClass "[I" = some (D.2.1 0) := (hK.2 0 _ rfl).2
  obtain ⟨kA, hkA, hdA⟩ := hE _ _ _ C.2.2.2.2.2.2.2.2.2
  obtain ⟨cI2, kI, cc, f3, hkI, hdI⟩ := Cond.arrayClass_spec (hts _ kw_ai)
  obtain rfl : cI2 = D.2.1 0 := Option.some.inj (f3.symm.trans fI)
  obtain ⟨c0, f4, hcl⟩ := Cond.classLink_spec hown (hts _ kw_cm) e.platform hpl
  obtain rfl : c0 = D.2.1 7 := Option.some.inj (f4.symm.trans fA)
  obtain ⟨hg1, hw1, -⟩ := State.classEntry (e := e) X.warmed hcl
  generalize T.vm.noted m.cls 36 (.cls (D.2.1 7)) = vm1 at hg1 hw1
  obtain ⟨kA1, hkA1, eA⟩ := hw1.alike.2.2 _ _ hkA
  obtain ⟨kI1, hkI1, eI⟩ := hw1.alike.2.2 _ _ hkI
  have Y := X.noted hw1
  obtain ⟨r1, r2⟩ := X.roomAbove hcells hslots
  have cn : (nI n).toNatClampNeg = n := nI_clamp (by omega)
  have cw : (nI w).toNatClampNeg = w := nI_clamp (by omega)
  obtain ⟨L2, hL2, Z⟩ := mn_stand Y (D.2.1 7) (D.2.1 0) n w n
  obtain ⟨z, oc, -, -, qo, qi⟩ := mn_facts (s := T.setVm vm1) (cA := D.2.1 7) (cI := D.2.1 0) (n := n) (w := w) n
  have hTs : (T.setVm vm1).heap = H := hT
  rw [hTs] at z oc qo qi hL2
  have hsz := hH.1
  obtain ⟨t, hst, hQ⟩ := h p e s m args below meth c C _ _ ls (hH.many z qo oc qi) ⟨Nat.le_trans hS.1 (by omega), fun a h1 h2 => (qo a (Nat.lt_of_lt_of_le h1 hS.1)).trans (hS.2.1 a h1 h2), fun a ha => (List.mem_append.mp ha).elim (hS.2.2 a) (fun g => by rw [hL2 a g]; show N ≤ H.size; omega)⟩ hl _ rfl Z
  refine ⟨t, ?_, hQ⟩
  have hd2 : decode c.code pc = .ok (.multianewarray 36 2, 4) := by rw [C.2.1]; exact hd
  jvm_step X.here [C.1, hd2]
  simp only [Op.multianewarray.sem, wp_bind', W.resolveClassAt_links (State.method?_setTop (F0 m pc ls (.int (nI w) :: .int (nI n) :: st)) X.here.top) hg1]
  rw [W.popN, if_neg (by decide)]
  refine ⟨_, State.topJava?_setTop' (s := T.setVm vm1) (F0 m pc ls (.int (nI w) :: .int (nI n) :: st)) X.here.top, [.int (nI n), .int (nI w)], st, rfl, rfl, ?_⟩
  simp only [List.mapM_cons, List.mapM_nil, wp_bind', wp_pure']
  refine mn_two (kA := kA1) (kI := kI1) (cI := D.2.1 0) (cc := cc) hkA1 (by rw [eA]; exact hdA) hkI1 (by rw [eI]; exact hdI) (nI_pos (by omega)) (nI_pos (by omega)) (by rw [cn, Launch.admits_arrayLengthLimit X.admits]; omega) (by rw [cn, Launch.admits_maxHeapBytes X.admits]; show ¬ n * 4 > 536870912; omega) (by rw [cw, Launch.admits_arrayLengthLimit X.admits]; omega) (by rw [cw, Launch.admits_maxHeapBytes X.admits]; show ¬ w * 4 > 536870912; omega) (by rw [cn]; show T.heap.size + 1 + n ≤ _; omega) (by rw [cn, cw]; show T.slotsUsed + n + n * w ≤ _; omega) (fun d' acts' => ?_)
  rw [cn, cw]
  have eS : ((T.setTop (F0 m pc ls (.int (nI w) :: .int (nI n) :: st))).setVm vm1).setTop (F0 m pc ls st) = (T.setVm vm1).setTop (F0 m pc ls st) := by
    show ((T.setVm vm1).setTop _).setTop _ = _
    rw [State.setTop_setTop]
  rw [show ({ F0 m pc ls (.int (nI w) :: .int (nI n) :: st) with stack := st } : JFrame) = F0 m pc ls st from rfl, eS, mn_top]
  simp only [wp_bind', W.mark, W.pushRef, State.topJava?_setTop' _ Z.here.top, Option.some.injEq, exists_eq_left', State.setTop_setTop, State.heap_setTop]
  intro acts
  simp [jvm, Z.here.top]
  rw [hT, hsz]
  exact hst
