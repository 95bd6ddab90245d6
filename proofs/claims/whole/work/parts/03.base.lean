abbrev MD : Type := MethodName × ByteArray × Nat × Option FieldType
abbrev xD : Type := va_G × (Nat → ClassId) × (Nat × (Nat → Nat) × (Nat → Nat))
def x_tys (cA : Nat → ClassId) : List (ClassId × FieldType) := [(cA 0, .int), (cA 1, .byte), (cA 2, .long), (cA 3, .boolean), (cA 4, .object "FillAndGo$Ride"), (cA 5, .object "FillAndGo$Line"), (cA 6, .object "FillAndGo$Run"), (cA 7, .array .int)]
def isNest : Cond → Bool
  | .fieldLinkNest _ _ _ _ _ _ => true
  | .methodLinkNest _ _ _ _ => true
  | _ => false
def nestw : List Cond := tables_1.filter isNest
theorem gn (i : Nat) {w : Cond} (h : tables_1[i]? = some w) (hg : isNest w = true) : w ∈ nestw := List.mem_filter.mpr ⟨List.mem_of_getElem? h, hg⟩
def plainI (j : Nat) : Int32 := if j = 0 then nI 100 else if j = 1 then nI 20 else nI 30
def txtLen : List Nat := [13, 47]
def txtB : List (List Int32) := [[103, 111, 32, 102, 97, 114, 101, 32, 107, 101, 101, 112, 32], [119, 97, 105, 116, 101, 100, 32, 115, 111, 108, 100, 32, 114, 97, 105, 110, 32, 104, 111, 117, 114, 32, 113, 117, 101, 117, 101, 32, 115, 116, 97, 103, 101, 32, 111, 119, 110, 101, 114, 32, 101, 97, 114, 110, 101, 100, 32]]
abbrev fr (N : Nat) : Nat → Prop := fun q => N ≤ q
def xSta (D : xD) (N : Nat) (U : State) : Prop :=
  va_Z "FillAndGo" "PLAIN" "[I" (.ref D.2.2.1) (fr N) U U.heap ∧ va_T .int D.2.2.1 3 (fun j => .int (plainI j)) (fr N) U U.heap ∧
  vk_S 2 txtLen txtB D.2.2.2.1 D.2.2.2.2 (fr N) U U.heap ∧ vk_R "FillAndGo$Tape" 39 "go fare keep " (D.2.2.2.1 0) U ∧ vk_R "FillAndGo$Tape" 56 "waited sold rain hour queue stage owner earned " (D.2.2.2.1 1) U ∧
  va_Z "java/lang/String" "COMPACT_STRINGS" "Z" (.int 1) (fr N) U U.heap ∧
  va_Zq "jdk/internal/util/Preconditions" "SIOOBE_FORMATTER" "Ljava/util/function/BiFunction;" (fr N) U U.heap
def xK (D : xD) (N : Nat) (U : State) : Prop := va_K D.1 classes (x_tys D.2.1) U ∧ (∀ w ∈ nestw, va_Nw w U) ∧ xSta D N U
theorem nest_warm {s U : State} (hW : s.WarmedH U.vm) (h : ∀ w ∈ nestw, va_Nw w s) : ∀ w ∈ nestw, va_Nw w U := by
  intro w hw
  have h1 := h w hw
  have h2 : isNest w = true := (List.mem_filter.mp hw).2
  cases w <;> first | exact va_Nw.warmF hW h1 | exact va_Nw.warmM hW h1 | cases h2
theorem nest_same {s U : State} (hv : U.vm = s.vm) (h : ∀ w ∈ nestw, va_Nw w s) : ∀ w ∈ nestw, va_Nw w U := by
  intro w hw
  have h1 := h w hw
  have h2 : isNest w = true := (List.mem_filter.mp hw).2
  cases w <;> first | exact va_Nw.same rfl hv.symm h1 | cases h2
theorem xSta.move {D : xD} {N : Nat} {s U : State} {H : Heap} {locs : List Loc} (h : xSta D N s) (hS : va_S (fr N) s.heap H locs) (hU : U.heap = H) (hW : s.WarmedH U.vm) : xSta D N U := by
  obtain ⟨h1, h2, h3, h4, h5, h6, h7⟩ := h
  have hq : ∀ a : Nat, a < s.heap.size → ¬ fr N a → U.heap[a]? = s.heap[a]? := fun a h1 h2 => by rw [hU]; exact hS.2.1 a h1 h2
  have hA := hW.alike
  exact ⟨va_Z.moved hA (h1.kept hq), va_T.moved hA (h2.kept hq), vk_S.moved hA (h3.kept hq), vk_R.warm hW h4, vk_R.warm hW h5, va_Z.moved hA (h6.kept hq), va_Zq.moved hA (h7.kept hq)⟩
theorem xK.move {D : xD} {N : Nat} {s U : State} {H : Heap} {locs : List Loc} (h : xK D N s) (hS : va_S (fr N) s.heap H locs) (hU : U.heap = H) (hW : s.WarmedH U.vm) : xK D N U :=
  ⟨va_K.moved hW.alike h.1, nest_warm hW h.2.1, h.2.2.move hS hU hW⟩
theorem xK.blind {D : xD} {N : Nat} {U U2 : State} (h : xK D N U) (hh : U2.heap = U.heap) (hv : U2.vm = U.vm) : xK D N U2 := by
  obtain ⟨h1, h2, h3⟩ := h
  have hA : U.vm.Alike U2.vm := by rw [hv]; exact Vm.Alike.refl U.vm
  refine ⟨va_K.moved hA h1, nest_same hv h2, ?_⟩
  obtain ⟨h1, h2, h3, h4, h5, h6, h7⟩ := h3
  have hq : ∀ a : Nat, a < U.heap.size → ¬ fr N a → U2.heap[a]? = U.heap[a]? := fun a _ _ => by rw [hh]
  exact ⟨va_Z.moved hA (h1.kept hq), va_T.moved hA (h2.kept hq), vk_S.moved hA (h3.kept hq), vk_R.same hv h4, vk_R.same hv h5, va_Z.moved hA (h6.kept hq), va_Zq.moved hA (h7.kept hq)⟩
/-- the heap from N on is the list g -/
def hs (D : va_G) (N : Nat) (g : List va_E) (H : Heap) : Prop := H.size = N + g.length ∧ ∀ (i : Nat) (e : va_E), g[i]? = some e → va_at D classes (N + i, e) H
theorem hs.one {D : va_G} {N i : Nat} {g : List va_E} {H : Heap} {e : va_E} (h : hs D N g H) (hi : g[i]? = some e) : va_P D classes [(N + i, e)] H := by
  intro k q hk
  have hz : k < 1 := (List.getElem?_eq_some_iff.mp hk).1
  rw [show k = 0 by omega] at hk
  cases hk
  exact h.2 i e hi
theorem hs.set {D : va_G} {N i : Nat} {g : List va_E} {H H1 : Heap} {e0 e : va_E} (h : hs D N g H) (hi : g[i]? = some e0) (he : va_at D classes (N + i, e) H1) (hz : H1.size = H.size) (oq : ∀ q : Nat, q ≠ N + i → H1[q]? = H[q]?) : hs D N (g.set i e) H1 := by
  have hl := (List.getElem?_eq_some_iff.mp hi).1
  refine ⟨by rw [hz, h.1, List.length_set], fun j x hj => ?_⟩
  by_cases hij : i = j
  · subst hij
    rw [List.getElem?_set_self hl] at hj
    cases hj
    exact he
  · rw [List.getElem?_set_ne hij] at hj
    exact (h.2 j x hj).kept (oq _ (by show N + j ≠ N + i; omega))
theorem hs.push {D : va_G} {N : Nat} {g : List va_E} {H H1 : Heap} {e : va_E} (h : hs D N g H) (he : va_at D classes (N + g.length, e) H1) (hz : H1.size = H.size + 1) (oq : ∀ q : Nat, q < H.size → H1[q]? = H[q]?) : hs D N (g ++ [e]) H1 := by
  refine ⟨by rw [hz, h.1, List.length_append]; simp; omega, fun j x hj => ?_⟩
  by_cases hl : j < g.length
  · rw [List.getElem?_append_left hl] at hj
    exact (h.2 j x hj).kept (oq _ (by have := h.1; show N + j < H.size; omega))
  · rw [List.getElem?_append_right (by omega)] at hj
    have hz : j - g.length < 1 := (List.getElem?_eq_some_iff.mp hj).1
    have hj0 : j = g.length := by omega
    subst hj0
    rw [Nat.sub_self] at hj
    cases hj
    exact he
def Qk (D : xD) (N : Nat) (K : Option Value → List va_E → Prop) : Array Value → State → Outcome → State → Prop := fun _ st oc t => (∃ (v : Option Value) (g' : List va_E), oc = .returned v ∧ K v g' ∧ hs D.1 N g' t.heap) ∧ va_F (fr N) st t
def Rm (d mc ms : Nat) : Room := { frames := d, cells := mc, slots := ms, locals := 37 * d }
def Ok (D : xD) (N : Nat) (l : Launch) (d : Nat) (M : MD) (as : List Value) (g : List va_E) (mc ms : Nat) (K : Option Value → List va_E → Prop) : Prop :=
  Met l M.1 (Cond.code M.1 M.2.1 M.2.2.1 M.2.2.2 :: lw_good) (Rm d mc ms) (va_Pc as (fun U => hs D.1 N g U.heap ∧ xK D N U ∧ N ≤ U.heap.size)) (Qk D N K) mc ms (fr N)
abbrev QF : Type := List Frame → Array Value → State → State → Prop
def Qm (D : xD) (N : Nat) (K : Option Value → List va_E → Prop) (mc ms : Nat) : QF := fun below args s => MQ below (Qk D N K) args s mc ms (fr N)
abbrev EX : Type := State → Array Value → Method → Prop
def Cx (D : xD) (N : Nat) (E : EX) (M : MD) (p : Program) (s : State) (m : MethodId) (args : Array Value) (meth : Method) (c : Code) : Prop :=
  p.tables.exec = Jvm.exec ∧ c.code = M.2.1 ∧ c.maxLocals = M.2.2.1 ∧ s.vm.findClass M.1.cls = some m.cls ∧ (∀ w ∈ lw_good, w.before args s = true) ∧ xK D N s ∧ meth.locks = false ∧ meth.sig.returnType = M.2.2.2 ∧ N ≤ s.heap.size ∧ E s args meth
def Wp (D : xD) (N : Nat) (l : Launch) (E : EX) (M : MD) (R : Room) (Qf : QF) (k n pc : Nat) (L : List (Nat × Value)) (st : List Value) (g : List va_E) : Prop :=
  ∀ (p : Program) (e : Env) (s : State) (m : MethodId) (args : Array Value) (below : List Frame) (meth : Method) (c : Code), Cx D N E M p s m args meth c → ∀ (H : Heap) (locs : List Loc) (ls : Array Slot), hs D.1 N g H → va_S (fr N) s.heap H locs → lv_has ls M.2.2.1 L → W p l e R s m args below meth c H locs k n (Qf below args s) (F0 m pc ls st)
section WP
variable {D : xD} {N : Nat} {l : Launch} {E : EX} {M : MD} {R : Room} {Qf : QF} {k n pc : Nat} {L : List (Nat × Value)} {st : List Value} {g : List va_E}
def EI (M : MD) : EX := fun _ _ meth => M.1.name = "<init>" → meth.name = "<init>"
theorem ok_of {d mc ms : Nat} {as : List Value} {K : Option Value → List va_E → Prop} (hy : plainName M.1.cls = true) (hlen : (lg_sl as).length ≤ M.2.2.1) (hL : lv_args 0 as = L) (h : Wp D N l (EI M) M (Rm d mc ms) (Qm D N K mc ms) 0 0 0 L [] g) : Ok D N l d M as g mc ms K := by
  subst hL
  refine Met.ofW (cc := M.2.1) (maxL := M.2.2.1) (ret := M.2.2.2) hy rfl ?_
  intro p e s m args below meth c s₁ B hml hv
  obtain ⟨rfl, hH, hK, hN⟩ := hv
  have hts := atoms_spec (ws := Cond.code M.1 M.2.1 M.2.2.1 M.2.2.2 :: lw_good) B.pre
  rw [lg_entry_eq]
  exact h p e s m _ below meth c ⟨B.exec, B.bytes, hml, findClass_of_methodNamed B.named, fun w hw => hts w (List.mem_cons_of_mem _ hw), hK, B.notSynchronized, B.returns, hN, fun hi => by rw [(name_of_methodNamed B.named B.method).1]; exact hi⟩ s.heap [] _ hH va_S.rf (lv_entry as hlen)
theorem wp_iconst {q : Nat} {z : Int} {v : Int32} (hd : decode M.2.1 pc = .ok (.iconst z, 1)) (hq : pc + 1 = q) (hv : Int32.ofInt z = v) (h : Wp D N l E M R Qf k n q L (.int v :: st) g) : Wp D N l E M R Qf k n pc L (st) g := by
  subst hq
  intro p e s m args below meth c C H locs ls hH hS hl
  exact lv_iconst C.1 C.2.1 hd hv (h p e s m args below meth c C H locs ls hH hS hl)
theorem wp_bipush {q : Nat} {z : Int} {v : Int32} (hd : decode M.2.1 pc = .ok (.bipush z, 2)) (hq : pc + 2 = q) (hv : (Int8.ofInt z).toInt32 = v) (h : Wp D N l E M R Qf k n q L (.int v :: st) g) : Wp D N l E M R Qf k n pc L (st) g := by
  subst hq
  intro p e s m args below meth c C H locs ls hH hS hl
  exact lv_bipush C.1 C.2.1 hd hv (h p e s m args below meth c C H locs ls hH hS hl)
theorem wp_sipush {q : Nat} {z : Int} {v : Int32} (hd : decode M.2.1 pc = .ok (.sipush z, 3)) (hq : pc + 3 = q) (hv : (Int16.ofInt z).toInt32 = v) (h : Wp D N l E M R Qf k n q L (.int v :: st) g) : Wp D N l E M R Qf k n pc L (st) g := by
  subst hq
  intro p e s m args below meth c C H locs ls hH hS hl
  exact lv_sipush C.1 C.2.1 hd hv (h p e s m args below meth c C H locs ls hH hS hl)
theorem wp_lconst {q : Nat} {z : Fin 2} {v : Int64} (hd : decode M.2.1 pc = .ok (.lconst z, 1)) (hq : pc + 1 = q) (hv : Int64.ofNat (z : Nat) = v) (h : Wp D N l E M R Qf k n q L (.long v :: st) g) : Wp D N l E M R Qf k n pc L (st) g := by
  subst hq
  intro p e s m args below meth c C H locs ls hH hS hl
  exact lv_lconst C.1 C.2.1 hd hv (h p e s m args below meth c C H locs ls hH hS hl)
theorem wp_ldc {q : Nat} {idx : Nat} {v : Int32} (hd : decode M.2.1 pc = .ok (.ldc idx, 2)) (hq : pc + 2 = q) (hw : Cond.constant M.1.cls idx v ∈ lw_good) (h : Wp D N l E M R Qf k n q L (.int v :: st) g) : Wp D N l E M R Qf k n pc L (st) g := by
  subst hq
  intro p e s m args below meth c C H locs ls hH hS hl
  exact lv_ldc C.1 C.2.1 C.2.2.2.1 (C.2.2.2.2.1 _ hw) hd (h p e s m args below meth c C H locs ls hH hS hl)
theorem wp_ldcw {q : Nat} {idx : Nat} {v : Int32} (hd : decode M.2.1 pc = .ok (.ldc_w idx, 3)) (hq : pc + 3 = q) (hw : Cond.constant M.1.cls idx v ∈ lw_good) (h : Wp D N l E M R Qf k n q L (.int v :: st) g) : Wp D N l E M R Qf k n pc L (st) g := by
  subst hq
  intro p e s m args below meth c C H locs ls hH hS hl
  exact lv_ldcw C.1 C.2.1 C.2.2.2.1 (C.2.2.2.2.1 _ hw) hd (h p e s m args below meth c C H locs ls hH hS hl)
theorem wp_ldc2 {q : Nat} {idx : Nat} {v : Int64} (hd : decode M.2.1 pc = .ok (.ldc2_w idx, 3)) (hq : pc + 3 = q) (hw : Cond.constantLong M.1.cls idx v ∈ lw_good) (h : Wp D N l E M R Qf k n q L (.long v :: st) g) : Wp D N l E M R Qf k n pc L (st) g := by
  subst hq
  intro p e s m args below meth c C H locs ls hH hS hl
  exact lv_ldc2 C.1 C.2.1 C.2.2.2.1 (C.2.2.2.2.1 _ hw) hd (h p e s m args below meth c C H locs ls hH hS hl)
theorem wp_null {q : Nat}  (hd : decode M.2.1 pc = .ok (.aconst_null, 1)) (hq : pc + 1 = q)  (h : Wp D N l E M R Qf k n q L (.null :: st) g) : Wp D N l E M R Qf k n pc L (st) g := by
  subst hq
  intro p e s m args below meth c C H locs ls hH hS hl
  exact lv_null C.1 C.2.1 hd (h p e s m args below meth c C H locs ls hH hS hl)
theorem lk_mem : ∀ {L : List (Nat × Value)} {i : Nat} {v : Value}, L.lookup i = some v → (i, v) ∈ L
  | [], i, v, h => by cases h
  | (j, w) :: L, i, v, h => by
    rw [List.lookup_cons] at h
    by_cases e : i = j
    · subst e
      simp at h
      subst h
      exact List.mem_cons_self
    · have e2 : (i == j) = false := by simpa using e
      rw [e2] at h
      exact List.mem_cons_of_mem _ (lk_mem h)
theorem wp_iload_n {q : Nat} {i : Fin 4} {x : Int32} (hd : decode M.2.1 pc = .ok (.iload_n i, 1)) (hq : pc + 1 = q) (hi : L.lookup (i : Nat) = some (.int x)) (h : Wp D N l E M R Qf k n q L (.int x :: st) g) : Wp D N l E M R Qf k n pc L (st) g := by
  subst hq
  intro p e s m args below meth c C H locs ls hH hS hl
  exact lv_iload_n C.1 C.2.1 hd rfl (hl.2.2 _ (lk_mem hi)) (h p e s m args below meth c C H locs ls hH hS hl)
theorem wp_iload {q : Nat} {i : Nat} {x : Int32} (hd : decode M.2.1 pc = .ok (.iload i, 2)) (hq : pc + 2 = q) (hi : L.lookup i = some (.int x)) (h : Wp D N l E M R Qf k n q L (.int x :: st) g) : Wp D N l E M R Qf k n pc L (st) g := by
  subst hq
  intro p e s m args below meth c C H locs ls hH hS hl
  exact lv_iload C.1 C.2.1 hd (hl.2.2 _ (lk_mem hi)) (h p e s m args below meth c C H locs ls hH hS hl)
theorem wp_lload_n {q : Nat} {i : Fin 4} {x : Int64} (hd : decode M.2.1 pc = .ok (.lload_n i, 1)) (hq : pc + 1 = q) (hi : L.lookup (i : Nat) = some (.long x)) (h : Wp D N l E M R Qf k n q L (.long x :: st) g) : Wp D N l E M R Qf k n pc L (st) g := by
  subst hq
  intro p e s m args below meth c C H locs ls hH hS hl
  exact lv_lload_n C.1 C.2.1 hd rfl (hl.2.2 _ (lk_mem hi)) (h p e s m args below meth c C H locs ls hH hS hl)
theorem wp_lload {q : Nat} {i : Nat} {x : Int64} (hd : decode M.2.1 pc = .ok (.lload i, 2)) (hq : pc + 2 = q) (hi : L.lookup i = some (.long x)) (h : Wp D N l E M R Qf k n q L (.long x :: st) g) : Wp D N l E M R Qf k n pc L (st) g := by
  subst hq
  intro p e s m args below meth c C H locs ls hH hS hl
  exact lv_lload C.1 C.2.1 hd (hl.2.2 _ (lk_mem hi)) (h p e s m args below meth c C H locs ls hH hS hl)
theorem wp_aload_n {q : Nat} {i : Fin 4} {x : Nat} (hd : decode M.2.1 pc = .ok (.aload_n i, 1)) (hq : pc + 1 = q) (hi : L.lookup (i : Nat) = some (.ref x)) (h : Wp D N l E M R Qf k n q L (.ref x :: st) g) : Wp D N l E M R Qf k n pc L (st) g := by
  subst hq
  intro p e s m args below meth c C H locs ls hH hS hl
  exact lv_aload_n C.1 C.2.1 hd rfl (hl.2.2 _ (lk_mem hi)) (h p e s m args below meth c C H locs ls hH hS hl)
theorem wp_aload {q : Nat} {i : Nat} {x : Nat} (hd : decode M.2.1 pc = .ok (.aload i, 2)) (hq : pc + 2 = q) (hi : L.lookup i = some (.ref x)) (h : Wp D N l E M R Qf k n q L (.ref x :: st) g) : Wp D N l E M R Qf k n pc L (st) g := by
  subst hq
  intro p e s m args below meth c C H locs ls hH hS hl
  exact lv_aload C.1 C.2.1 hd (hl.2.2 _ (lk_mem hi)) (h p e s m args below meth c C H locs ls hH hS hl)
theorem wp_istore_n {q : Nat} {i : Fin 4} {x : Int32} {L2 : List (Nat × Value)} (hd : decode M.2.1 pc = .ok (.istore_n i, 1)) (hq : pc + 1 = q) (hn : (i : Nat) < M.2.2.1) (hL : ((i : Nat), Value.int x) :: L.filter (fun q => !(q.1 == (i : Nat)) && !(q.1 + 1 == (i : Nat) && q.2.category == 2)) = L2) (h : Wp D N l E M R Qf k n q L2 st g) : Wp D N l E M R Qf k n pc L (.int x :: st) g := by
  subst hq
  intro p e s m args below meth c C H locs ls hH hS hl
  exact lv_istore_n C.1 C.2.1 hd rfl hl hn hL (fun ls' hl' => h p e s m args below meth c C H locs ls' hH hS hl')
theorem wp_istore {q : Nat} {i : Nat} {x : Int32} {L2 : List (Nat × Value)} (hd : decode M.2.1 pc = .ok (.istore i, 2)) (hq : pc + 2 = q) (hn : i < M.2.2.1) (hL : (i, Value.int x) :: L.filter (fun q => !(q.1 == i) && !(q.1 + 1 == i && q.2.category == 2)) = L2) (h : Wp D N l E M R Qf k n q L2 st g) : Wp D N l E M R Qf k n pc L (.int x :: st) g := by
  subst hq
  intro p e s m args below meth c C H locs ls hH hS hl
  exact lv_istore C.1 C.2.1 hd hl hn hL (fun ls' hl' => h p e s m args below meth c C H locs ls' hH hS hl')
theorem wp_astore_n {q : Nat} {i : Fin 4} {x : Nat} {L2 : List (Nat × Value)} (hd : decode M.2.1 pc = .ok (.astore_n i, 1)) (hq : pc + 1 = q) (hn : (i : Nat) < M.2.2.1) (hL : ((i : Nat), Value.ref x) :: L.filter (fun q => !(q.1 == (i : Nat)) && !(q.1 + 1 == (i : Nat) && q.2.category == 2)) = L2) (h : Wp D N l E M R Qf k n q L2 st g) : Wp D N l E M R Qf k n pc L (.ref x :: st) g := by
  subst hq
  intro p e s m args below meth c C H locs ls hH hS hl
  exact lv_astore_n C.1 C.2.1 hd rfl hl hn hL (fun ls' hl' => h p e s m args below meth c C H locs ls' hH hS hl')
theorem wp_astore {q : Nat} {i : Nat} {x : Nat} {L2 : List (Nat × Value)} (hd : decode M.2.1 pc = .ok (.astore i, 2)) (hq : pc + 2 = q) (hn : i < M.2.2.1) (hL : (i, Value.ref x) :: L.filter (fun q => !(q.1 == i) && !(q.1 + 1 == i && q.2.category == 2)) = L2) (h : Wp D N l E M R Qf k n q L2 st g) : Wp D N l E M R Qf k n pc L (.ref x :: st) g := by
  subst hq
  intro p e s m args below meth c C H locs ls hH hS hl
  exact lv_astore C.1 C.2.1 hd hl hn hL (fun ls' hl' => h p e s m args below meth c C H locs ls' hH hS hl')
theorem wp_lstore_n {q : Nat} {i : Fin 4} {x : Int64} {L2 : List (Nat × Value)} (hd : decode M.2.1 pc = .ok (.lstore_n i, 1)) (hq : pc + 1 = q) (hn : (i : Nat) + 1 < M.2.2.1) (hL : ((i : Nat), Value.long x) :: L.filter (fun q => !(q.1 == (i : Nat)) && (!(q.1 == (i : Nat) + 1) && !(q.1 + 1 == (i : Nat) && q.2.category == 2))) = L2) (h : Wp D N l E M R Qf k n q L2 st g) : Wp D N l E M R Qf k n pc L (.long x :: st) g := by
  subst hq
  intro p e s m args below meth c C H locs ls hH hS hl
  exact lv_lstore_n C.1 C.2.1 hd rfl hl hn hL (fun ls' hl' => h p e s m args below meth c C H locs ls' hH hS hl')
theorem wp_lstore {q : Nat} {i : Nat} {x : Int64} {L2 : List (Nat × Value)} (hd : decode M.2.1 pc = .ok (.lstore i, 2)) (hq : pc + 2 = q) (hn : i + 1 < M.2.2.1) (hL : (i, Value.long x) :: L.filter (fun q => !(q.1 == i) && (!(q.1 == i + 1) && !(q.1 + 1 == i && q.2.category == 2))) = L2) (h : Wp D N l E M R Qf k n q L2 st g) : Wp D N l E M R Qf k n pc L (.long x :: st) g := by
  subst hq
  intro p e s m args below meth c C H locs ls hH hS hl
  exact lv_lstore C.1 C.2.1 hd hl hn hL (fun ls' hl' => h p e s m args below meth c C H locs ls' hH hS hl')
theorem wp_iinc {q i : Nat} {z : Int} {x v : Int32} {L2 : List (Nat × Value)} (hd : decode M.2.1 pc = .ok (.iinc i z, 3)) (hq : pc + 3 = q) (hi : L.lookup i = some (.int x)) (hv : x + Int32.ofInt z = v) (hn : i < M.2.2.1) (hL : (i, Value.int v) :: L.filter (fun q => !(q.1 == i) && !(q.1 + 1 == i && q.2.category == 2)) = L2) (h : Wp D N l E M R Qf k n q L2 st g) : Wp D N l E M R Qf k n pc L st g := by
  subst hq
  intro p e s m args below meth c C H locs ls hH hS hl
  obtain ⟨j, hj⟩ := List.getElem?_of_mem (lk_mem hi)
  exact lv_iinc C.1 C.2.1 hd hl hj hv hn hL (fun ls' hl' => h p e s m args below meth c C H locs ls' hH hS hl')
theorem wp_iadd {q : Nat} {x y : Int32} (hd : decode M.2.1 pc = .ok (.iadd, 1)) (hq : pc + 1 = q)  (h : Wp D N l E M R Qf k n q L (.int (x + y) :: st) g) : Wp D N l E M R Qf k n pc L (.int y :: .int x :: st) g := by
  subst hq
  intro p e s m args below meth c C H locs ls hH hS hl
  exact lv_iadd C.1 C.2.1 hd (h p e s m args below meth c C H locs ls hH hS hl)
theorem wp_isub {q : Nat} {x y : Int32} (hd : decode M.2.1 pc = .ok (.isub, 1)) (hq : pc + 1 = q)  (h : Wp D N l E M R Qf k n q L (.int (x - y) :: st) g) : Wp D N l E M R Qf k n pc L (.int y :: .int x :: st) g := by
  subst hq
  intro p e s m args below meth c C H locs ls hH hS hl
  exact lv_isub C.1 C.2.1 hd (h p e s m args below meth c C H locs ls hH hS hl)
theorem wp_imul {q : Nat} {x y : Int32} (hd : decode M.2.1 pc = .ok (.imul, 1)) (hq : pc + 1 = q)  (h : Wp D N l E M R Qf k n q L (.int (x * y) :: st) g) : Wp D N l E M R Qf k n pc L (.int y :: .int x :: st) g := by
  subst hq
  intro p e s m args below meth c C H locs ls hH hS hl
  exact lv_imul C.1 C.2.1 hd (h p e s m args below meth c C H locs ls hH hS hl)
theorem wp_iand {q : Nat} {x y : Int32} (hd : decode M.2.1 pc = .ok (.iand, 1)) (hq : pc + 1 = q)  (h : Wp D N l E M R Qf k n q L (.int (x &&& y) :: st) g) : Wp D N l E M R Qf k n pc L (.int y :: .int x :: st) g := by
  subst hq
  intro p e s m args below meth c C H locs ls hH hS hl
  exact lv_iand C.1 C.2.1 hd (h p e s m args below meth c C H locs ls hH hS hl)
theorem wp_ior {q : Nat} {x y : Int32} (hd : decode M.2.1 pc = .ok (.ior, 1)) (hq : pc + 1 = q)  (h : Wp D N l E M R Qf k n q L (.int (x ||| y) :: st) g) : Wp D N l E M R Qf k n pc L (.int y :: .int x :: st) g := by
  subst hq
  intro p e s m args below meth c C H locs ls hH hS hl
  exact lv_ior C.1 C.2.1 hd (h p e s m args below meth c C H locs ls hH hS hl)
theorem wp_ishl {q : Nat} {x y : Int32} (hd : decode M.2.1 pc = .ok (.ishl, 1)) (hq : pc + 1 = q)  (h : Wp D N l E M R Qf k n q L (.int (x <<< (y &&& 31)) :: st) g) : Wp D N l E M R Qf k n pc L (.int y :: .int x :: st) g := by
  subst hq
  intro p e s m args below meth c C H locs ls hH hS hl
  exact lv_ishl C.1 C.2.1 hd (h p e s m args below meth c C H locs ls hH hS hl)
theorem wp_ishr {q : Nat} {x y : Int32} (hd : decode M.2.1 pc = .ok (.ishr, 1)) (hq : pc + 1 = q)  (h : Wp D N l E M R Qf k n q L (.int (x >>> (y &&& 31)) :: st) g) : Wp D N l E M R Qf k n pc L (.int y :: .int x :: st) g := by
  subst hq
  intro p e s m args below meth c C H locs ls hH hS hl
  exact lv_ishr C.1 C.2.1 hd (h p e s m args below meth c C H locs ls hH hS hl)
theorem wp_iaddN {q : Nat} {a b : Nat} (hd : decode M.2.1 pc = .ok (.iadd, 1)) (hq : pc + 1 = q)  (h : Wp D N l E M R Qf k n q L (.int (nI (a + b)) :: st) g) : Wp D N l E M R Qf k n pc L (.int (nI b) :: .int (nI a) :: st) g := by
  subst hq
  intro p e s m args below meth c C H locs ls hH hS hl
  exact lv_iadd C.1 C.2.1 hd (by rw [nI_add]; exact (h p e s m args below meth c C H locs ls hH hS hl))
theorem wp_imulN {q : Nat} {a b : Nat} (hd : decode M.2.1 pc = .ok (.imul, 1)) (hq : pc + 1 = q)  (h : Wp D N l E M R Qf k n q L (.int (nI (a * b)) :: st) g) : Wp D N l E M R Qf k n pc L (.int (nI b) :: .int (nI a) :: st) g := by
  subst hq
  intro p e s m args below meth c C H locs ls hH hS hl
  exact lv_imul C.1 C.2.1 hd (by rw [pk_mul]; exact (h p e s m args below meth c C H locs ls hH hS hl))
theorem wp_ladd {q : Nat} {x y : Int64} (hd : decode M.2.1 pc = .ok (.ladd, 1)) (hq : pc + 1 = q)  (h : Wp D N l E M R Qf k n q L (.long (x + y) :: st) g) : Wp D N l E M R Qf k n pc L (.long y :: .long x :: st) g := by
  subst hq
  intro p e s m args below meth c C H locs ls hH hS hl
  exact lv_ladd C.1 C.2.1 hd (h p e s m args below meth c C H locs ls hH hS hl)
theorem wp_lsub {q : Nat} {x y : Int64} (hd : decode M.2.1 pc = .ok (.lsub, 1)) (hq : pc + 1 = q)  (h : Wp D N l E M R Qf k n q L (.long (x - y) :: st) g) : Wp D N l E M R Qf k n pc L (.long y :: .long x :: st) g := by
  subst hq
  intro p e s m args below meth c C H locs ls hH hS hl
  exact lv_lsub C.1 C.2.1 hd (h p e s m args below meth c C H locs ls hH hS hl)
theorem wp_lmul {q : Nat} {x y : Int64} (hd : decode M.2.1 pc = .ok (.lmul, 1)) (hq : pc + 1 = q)  (h : Wp D N l E M R Qf k n q L (.long (x * y) :: st) g) : Wp D N l E M R Qf k n pc L (.long y :: .long x :: st) g := by
  subst hq
  intro p e s m args below meth c C H locs ls hH hS hl
  exact lv_lmul C.1 C.2.1 hd (h p e s m args below meth c C H locs ls hH hS hl)
theorem wp_land {q : Nat} {x y : Int64} (hd : decode M.2.1 pc = .ok (.land, 1)) (hq : pc + 1 = q)  (h : Wp D N l E M R Qf k n q L (.long (x &&& y) :: st) g) : Wp D N l E M R Qf k n pc L (.long y :: .long x :: st) g := by
  subst hq
  intro p e s m args below meth c C H locs ls hH hS hl
  exact lv_land C.1 C.2.1 hd (h p e s m args below meth c C H locs ls hH hS hl)
theorem wp_lor {q : Nat} {x y : Int64} (hd : decode M.2.1 pc = .ok (.lor, 1)) (hq : pc + 1 = q)  (h : Wp D N l E M R Qf k n q L (.long (x ||| y) :: st) g) : Wp D N l E M R Qf k n pc L (.long y :: .long x :: st) g := by
  subst hq
  intro p e s m args below meth c C H locs ls hH hS hl
  exact lv_lor C.1 C.2.1 hd (h p e s m args below meth c C H locs ls hH hS hl)
theorem wp_idiv {q : Nat} {x y : Int32} (hd : decode M.2.1 pc = .ok (.idiv, 1)) (hq : pc + 1 = q) (hne : ¬ y = 0) (h : Wp D N l E M R Qf k n q L (.int (x / y) :: st) g) : Wp D N l E M R Qf k n pc L (.int y :: .int x :: st) g := by
  subst hq
  intro p e s m args below meth c C H locs ls hH hS hl
  exact lv_idiv C.1 C.2.1 hd hne (h p e s m args below meth c C H locs ls hH hS hl)
theorem wp_irem {q : Nat} {x y : Int32} (hd : decode M.2.1 pc = .ok (.irem, 1)) (hq : pc + 1 = q) (hne : ¬ y = 0) (h : Wp D N l E M R Qf k n q L (.int (x - x / y * y) :: st) g) : Wp D N l E M R Qf k n pc L (.int y :: .int x :: st) g := by
  subst hq
  intro p e s m args below meth c C H locs ls hH hS hl
  exact lv_irem C.1 C.2.1 hd hne (h p e s m args below meth c C H locs ls hH hS hl)
theorem wp_idivN {q : Nat} {a b : Nat} (hd : decode M.2.1 pc = .ok (.idiv, 1)) (hq : pc + 1 = q) (ha : a < 2 ^ 31) (h0 : 0 < b) (hb : b < 2 ^ 31) (h : Wp D N l E M R Qf k n q L (.int (nI (a / b)) :: st) g) : Wp D N l E M R Qf k n pc L (.int (nI b) :: .int (nI a) :: st) g := by
  subst hq
  intro p e s m args below meth c C H locs ls hH hS hl
  exact lv_idiv C.1 C.2.1 hd (nI_ne0 h0 hb) (by rw [pk_div ha h0 hb]; exact (h p e s m args below meth c C H locs ls hH hS hl))
theorem wp_iremN {q : Nat} {a b : Nat} (hd : decode M.2.1 pc = .ok (.irem, 1)) (hq : pc + 1 = q) (ha : a < 2 ^ 31) (h0 : 0 < b) (hb : b < 2 ^ 31) (h : Wp D N l E M R Qf k n q L (.int (nI (a % b)) :: st) g) : Wp D N l E M R Qf k n pc L (.int (nI b) :: .int (nI a) :: st) g := by
  subst hq
  intro p e s m args below meth c C H locs ls hH hS hl
  exact lv_irem C.1 C.2.1 hd (nI_ne0 h0 hb) (by rw [pk_rem ha h0 hb]; exact (h p e s m args below meth c C H locs ls hH hS hl))
theorem wp_isubN {q : Nat} {a b : Nat} (hd : decode M.2.1 pc = .ok (.isub, 1)) (hq : pc + 1 = q) (hab : b ≤ a) (h : Wp D N l E M R Qf k n q L (.int (nI (a - b)) :: st) g) : Wp D N l E M R Qf k n pc L (.int (nI b) :: .int (nI a) :: st) g := by
  subst hq
  intro p e s m args below meth c C H locs ls hH hS hl
  exact lv_isub C.1 C.2.1 hd (by rw [pk_sub hab]; exact (h p e s m args below meth c C H locs ls hH hS hl))
theorem wp_ldiv {q : Nat} {x y : Int64} (hd : decode M.2.1 pc = .ok (.ldiv, 1)) (hq : pc + 1 = q) (hne : ¬ y = 0) (h : Wp D N l E M R Qf k n q L (.long (x / y) :: st) g) : Wp D N l E M R Qf k n pc L (.long y :: .long x :: st) g := by
  subst hq
  intro p e s m args below meth c C H locs ls hH hS hl
  exact lv_ldiv C.1 C.2.1 hd hne (h p e s m args below meth c C H locs ls hH hS hl)
theorem wp_iushr {q : Nat} {x y : Int32} (hd : decode M.2.1 pc = .ok (.iushr, 1)) (hq : pc + 1 = q)  (h : Wp D N l E M R Qf k n q L (.int (x.toUInt32 >>> (y.toUInt32 &&& Int32.toUInt32 31)).toInt32 :: st) g) : Wp D N l E M R Qf k n pc L (.int y :: .int x :: st) g := by
  subst hq
  intro p e s m args below meth c C H locs ls hH hS hl
  exact lv_iushr C.1 C.2.1 hd rfl (h p e s m args below meth c C H locs ls hH hS hl)
theorem wp_lshl {q : Nat} {x : Int64} {y : Int32} (hd : decode M.2.1 pc = .ok (.lshl, 1)) (hq : pc + 1 = q)  (h : Wp D N l E M R Qf k n q L (.long (x <<< (y.toInt64 &&& 63)) :: st) g) : Wp D N l E M R Qf k n pc L (.int y :: .long x :: st) g := by
  subst hq
  intro p e s m args below meth c C H locs ls hH hS hl
  exact lv_lshl C.1 C.2.1 hd rfl (h p e s m args below meth c C H locs ls hH hS hl)
theorem wp_lshr {q : Nat} {x : Int64} {y : Int32} (hd : decode M.2.1 pc = .ok (.lshr, 1)) (hq : pc + 1 = q)  (h : Wp D N l E M R Qf k n q L (.long (x >>> (y.toInt64 &&& 63)) :: st) g) : Wp D N l E M R Qf k n pc L (.int y :: .long x :: st) g := by
  subst hq
  intro p e s m args below meth c C H locs ls hH hS hl
  exact lv_lshr C.1 C.2.1 hd rfl (h p e s m args below meth c C H locs ls hH hS hl)
theorem wp_i2l {q : Nat} {x : Int32} (hd : decode M.2.1 pc = .ok (.i2l, 1)) (hq : pc + 1 = q)  (h : Wp D N l E M R Qf k n q L (.long x.toInt64 :: st) g) : Wp D N l E M R Qf k n pc L (.int x :: st) g := by
  subst hq
  intro p e s m args below meth c C H locs ls hH hS hl
  exact lv_i2l C.1 C.2.1 hd rfl (h p e s m args below meth c C H locs ls hH hS hl)
theorem wp_l2i {q : Nat} {x : Int64} (hd : decode M.2.1 pc = .ok (.l2i, 1)) (hq : pc + 1 = q)  (h : Wp D N l E M R Qf k n q L (.int x.toInt32 :: st) g) : Wp D N l E M R Qf k n pc L (.long x :: st) g := by
  subst hq
  intro p e s m args below meth c C H locs ls hH hS hl
  exact lv_l2i C.1 C.2.1 hd rfl (h p e s m args below meth c C H locs ls hH hS hl)
theorem wp_i2b {q : Nat} {x : Int32} (hd : decode M.2.1 pc = .ok (.i2b, 1)) (hq : pc + 1 = q)  (h : Wp D N l E M R Qf k n q L (.int x.toInt8.toInt32 :: st) g) : Wp D N l E M R Qf k n pc L (.int x :: st) g := by
  subst hq
  intro p e s m args below meth c C H locs ls hH hS hl
  exact lv_i2b C.1 C.2.1 hd rfl (h p e s m args below meth c C H locs ls hH hS hl)
theorem wp_i2s {q : Nat} {x : Int32} (hd : decode M.2.1 pc = .ok (.i2s, 1)) (hq : pc + 1 = q)  (h : Wp D N l E M R Qf k n q L (.int x.toInt16.toInt32 :: st) g) : Wp D N l E M R Qf k n pc L (.int x :: st) g := by
  subst hq
  intro p e s m args below meth c C H locs ls hH hS hl
  exact lv_i2s C.1 C.2.1 hd rfl (h p e s m args below meth c C H locs ls hH hS hl)
theorem wp_i2c {q : Nat} {x : Int32} (hd : decode M.2.1 pc = .ok (.i2c, 1)) (hq : pc + 1 = q)  (h : Wp D N l E M R Qf k n q L (.int (x.toUInt32 % 65536).toInt32 :: st) g) : Wp D N l E M R Qf k n pc L (.int x :: st) g := by
  subst hq
  intro p e s m args below meth c C H locs ls hH hS hl
  exact lv_i2c C.1 C.2.1 hd rfl (h p e s m args below meth c C H locs ls hH hS hl)
theorem wp_lcmp {q : Nat} {x y : Int64} (hd : decode M.2.1 pc = .ok (.lcmp, 1)) (hq : pc + 1 = q)  (h : Wp D N l E M R Qf k n q L (.int (lg_cmp x y) :: st) g) : Wp D N l E M R Qf k n pc L (.long y :: .long x :: st) g := by
  subst hq
  intro p e s m args below meth c C H locs ls hH hS hl
  exact W.lcmp C.1 C.2.1 hd (h p e s m args below meth c C H locs ls hH hS hl)
theorem wp_dup {q : Nat} {v : Value} (hd : decode M.2.1 pc = .ok (.dup, 1)) (hq : pc + 1 = q) (hv : v.category = 1) (h : Wp D N l E M R Qf k n q L (v :: v :: st) g) : Wp D N l E M R Qf k n pc L (v :: st) g := by
  subst hq
  intro p e s m args below meth c C H locs ls hH hS hl
  exact lv_dup C.1 C.2.1 hd hv (h p e s m args below meth c C H locs ls hH hS hl)
theorem wp_pop {q : Nat} {v : Value} (hd : decode M.2.1 pc = .ok (.pop, 1)) (hq : pc + 1 = q) (hv : v.category = 1) (h : Wp D N l E M R Qf k n q L (st) g) : Wp D N l E M R Qf k n pc L (v :: st) g := by
  subst hq
  intro p e s m args below meth c C H locs ls hH hS hl
  exact lv_pop C.1 C.2.1 hd hv (h p e s m args below meth c C H locs ls hH hS hl)
theorem wp_dup2 {q : Nat} {v w : Value} (hd : decode M.2.1 pc = .ok (.dup2, 1)) (hq : pc + 1 = q) (hv : v.category = 1) (hw : w.category = 1) (h : Wp D N l E M R Qf k n q L (v :: w :: v :: w :: st) g) : Wp D N l E M R Qf k n pc L (v :: w :: st) g := by
  subst hq
  intro p e s m args below meth c C H locs ls hH hS hl
  exact lv_dup2_11 C.1 C.2.1 hd hv hw (h p e s m args below meth c C H locs ls hH hS hl)
theorem wp_if_eq {q tgt : Nat} {off : Int} {x : Int32} (hd : decode M.2.1 pc = .ok (.ifCond .eq off, 3)) (ht : (pc : Int) + off = (tgt : Int)) (hq : pc + 3 = q) (kt : x = 0 → Wp D N l E M R Qf k n tgt L st g) (kf : ¬ x = 0 → Wp D N l E M R Qf k n q L st g) : Wp D N l E M R Qf k n pc L (.int x :: st) g := by
  subst hq
  intro p e s m args below meth c C H locs ls hH hS hl
  exact lv_if_eq C.1 C.2.1 hd ht (fun hc => (kt hc p e s m args below meth c C H locs ls hH hS hl)) (fun hc => (kf hc p e s m args below meth c C H locs ls hH hS hl))
theorem wp_if_eq_t {tgt : Nat} {off : Int} {x : Int32} (hd : decode M.2.1 pc = .ok (.ifCond .eq off, 3)) (ht : (pc : Int) + off = (tgt : Int)) (hc : x = 0) (kt : Wp D N l E M R Qf k n tgt L st g) : Wp D N l E M R Qf k n pc L (.int x :: st) g :=
  wp_if_eq hd ht rfl (fun _ => kt) (fun h => absurd hc h)
theorem wp_if_eq_f {q : Nat} {off : Int} {tgt : Nat} {x : Int32} (hd : decode M.2.1 pc = .ok (.ifCond .eq off, 3)) (ht : (pc : Int) + off = (tgt : Int)) (hq : pc + 3 = q) (hc : ¬ x = 0) (kf : Wp D N l E M R Qf k n q L st g) : Wp D N l E M R Qf k n pc L (.int x :: st) g :=
  wp_if_eq hd ht hq (fun h => absurd h hc) (fun _ => kf)
theorem wp_icmp_eq {q tgt : Nat} {off : Int} {x y : Int32} (hd : decode M.2.1 pc = .ok (.if_icmp .eq off, 3)) (ht : (pc : Int) + off = (tgt : Int)) (hq : pc + 3 = q) (kt : x = y → Wp D N l E M R Qf k n tgt L st g) (kf : ¬ x = y → Wp D N l E M R Qf k n q L st g) : Wp D N l E M R Qf k n pc L (.int y :: .int x :: st) g := by
  subst hq
  intro p e s m args below meth c C H locs ls hH hS hl
  exact lv_icmp_eq C.1 C.2.1 hd ht (fun hc => (kt hc p e s m args below meth c C H locs ls hH hS hl)) (fun hc => (kf hc p e s m args below meth c C H locs ls hH hS hl))
theorem wp_icmp_eq_t {tgt : Nat} {off : Int} {x y : Int32} (hd : decode M.2.1 pc = .ok (.if_icmp .eq off, 3)) (ht : (pc : Int) + off = (tgt : Int)) (hc : x = y) (kt : Wp D N l E M R Qf k n tgt L st g) : Wp D N l E M R Qf k n pc L (.int y :: .int x :: st) g :=
  wp_icmp_eq hd ht rfl (fun _ => kt) (fun h => absurd hc h)
theorem wp_icmp_eq_f {q : Nat} {off : Int} {tgt : Nat} {x y : Int32} (hd : decode M.2.1 pc = .ok (.if_icmp .eq off, 3)) (ht : (pc : Int) + off = (tgt : Int)) (hq : pc + 3 = q) (hc : ¬ x = y) (kf : Wp D N l E M R Qf k n q L st g) : Wp D N l E M R Qf k n pc L (.int y :: .int x :: st) g :=
  wp_icmp_eq hd ht hq (fun h => absurd h hc) (fun _ => kf)
theorem wp_if_ne {q tgt : Nat} {off : Int} {x : Int32} (hd : decode M.2.1 pc = .ok (.ifCond .ne off, 3)) (ht : (pc : Int) + off = (tgt : Int)) (hq : pc + 3 = q) (kt : ¬ x = 0 → Wp D N l E M R Qf k n tgt L st g) (kf : x = 0 → Wp D N l E M R Qf k n q L st g) : Wp D N l E M R Qf k n pc L (.int x :: st) g := by
  subst hq
  intro p e s m args below meth c C H locs ls hH hS hl
  exact lv_if_ne C.1 C.2.1 hd ht (fun hc => (kt hc p e s m args below meth c C H locs ls hH hS hl)) (fun hc => (kf hc p e s m args below meth c C H locs ls hH hS hl))
theorem wp_if_ne_t {tgt : Nat} {off : Int} {x : Int32} (hd : decode M.2.1 pc = .ok (.ifCond .ne off, 3)) (ht : (pc : Int) + off = (tgt : Int)) (hc : ¬ x = 0) (kt : Wp D N l E M R Qf k n tgt L st g) : Wp D N l E M R Qf k n pc L (.int x :: st) g :=
  wp_if_ne hd ht rfl (fun _ => kt) (fun h => absurd hc (fun z => z h))
theorem wp_if_ne_f {q : Nat} {off : Int} {tgt : Nat} {x : Int32} (hd : decode M.2.1 pc = .ok (.ifCond .ne off, 3)) (ht : (pc : Int) + off = (tgt : Int)) (hq : pc + 3 = q) (hc : x = 0) (kf : Wp D N l E M R Qf k n q L st g) : Wp D N l E M R Qf k n pc L (.int x :: st) g :=
  wp_if_ne hd ht hq (fun h => absurd hc h) (fun _ => kf)
theorem wp_icmp_ne {q tgt : Nat} {off : Int} {x y : Int32} (hd : decode M.2.1 pc = .ok (.if_icmp .ne off, 3)) (ht : (pc : Int) + off = (tgt : Int)) (hq : pc + 3 = q) (kt : ¬ x = y → Wp D N l E M R Qf k n tgt L st g) (kf : x = y → Wp D N l E M R Qf k n q L st g) : Wp D N l E M R Qf k n pc L (.int y :: .int x :: st) g := by
  subst hq
  intro p e s m args below meth c C H locs ls hH hS hl
  exact lv_icmp_ne C.1 C.2.1 hd ht (fun hc => (kt hc p e s m args below meth c C H locs ls hH hS hl)) (fun hc => (kf hc p e s m args below meth c C H locs ls hH hS hl))
theorem wp_icmp_ne_t {tgt : Nat} {off : Int} {x y : Int32} (hd : decode M.2.1 pc = .ok (.if_icmp .ne off, 3)) (ht : (pc : Int) + off = (tgt : Int)) (hc : ¬ x = y) (kt : Wp D N l E M R Qf k n tgt L st g) : Wp D N l E M R Qf k n pc L (.int y :: .int x :: st) g :=
  wp_icmp_ne hd ht rfl (fun _ => kt) (fun h => absurd hc (fun z => z h))
theorem wp_icmp_ne_f {q : Nat} {off : Int} {tgt : Nat} {x y : Int32} (hd : decode M.2.1 pc = .ok (.if_icmp .ne off, 3)) (ht : (pc : Int) + off = (tgt : Int)) (hq : pc + 3 = q) (hc : x = y) (kf : Wp D N l E M R Qf k n q L st g) : Wp D N l E M R Qf k n pc L (.int y :: .int x :: st) g :=
  wp_icmp_ne hd ht hq (fun h => absurd hc h) (fun _ => kf)
theorem wp_if_lt {q tgt : Nat} {off : Int} {x : Int32} (hd : decode M.2.1 pc = .ok (.ifCond .lt off, 3)) (ht : (pc : Int) + off = (tgt : Int)) (hq : pc + 3 = q) (kt : x < 0 → Wp D N l E M R Qf k n tgt L st g) (kf : ¬ x < 0 → Wp D N l E M R Qf k n q L st g) : Wp D N l E M R Qf k n pc L (.int x :: st) g := by
  subst hq
  intro p e s m args below meth c C H locs ls hH hS hl
  exact lv_if_lt C.1 C.2.1 hd ht (fun hc => (kt hc p e s m args below meth c C H locs ls hH hS hl)) (fun hc => (kf hc p e s m args below meth c C H locs ls hH hS hl))
theorem wp_if_lt_t {tgt : Nat} {off : Int} {x : Int32} (hd : decode M.2.1 pc = .ok (.ifCond .lt off, 3)) (ht : (pc : Int) + off = (tgt : Int)) (hc : x < 0) (kt : Wp D N l E M R Qf k n tgt L st g) : Wp D N l E M R Qf k n pc L (.int x :: st) g :=
  wp_if_lt hd ht rfl (fun _ => kt) (fun h => absurd hc h)
theorem wp_if_lt_f {q : Nat} {off : Int} {tgt : Nat} {x : Int32} (hd : decode M.2.1 pc = .ok (.ifCond .lt off, 3)) (ht : (pc : Int) + off = (tgt : Int)) (hq : pc + 3 = q) (hc : ¬ x < 0) (kf : Wp D N l E M R Qf k n q L st g) : Wp D N l E M R Qf k n pc L (.int x :: st) g :=
  wp_if_lt hd ht hq (fun h => absurd h hc) (fun _ => kf)
theorem wp_icmp_lt {q tgt : Nat} {off : Int} {x y : Int32} (hd : decode M.2.1 pc = .ok (.if_icmp .lt off, 3)) (ht : (pc : Int) + off = (tgt : Int)) (hq : pc + 3 = q) (kt : x < y → Wp D N l E M R Qf k n tgt L st g) (kf : ¬ x < y → Wp D N l E M R Qf k n q L st g) : Wp D N l E M R Qf k n pc L (.int y :: .int x :: st) g := by
  subst hq
  intro p e s m args below meth c C H locs ls hH hS hl
  exact lv_icmp_lt C.1 C.2.1 hd ht (fun hc => (kt hc p e s m args below meth c C H locs ls hH hS hl)) (fun hc => (kf hc p e s m args below meth c C H locs ls hH hS hl))
theorem wp_icmp_lt_t {tgt : Nat} {off : Int} {x y : Int32} (hd : decode M.2.1 pc = .ok (.if_icmp .lt off, 3)) (ht : (pc : Int) + off = (tgt : Int)) (hc : x < y) (kt : Wp D N l E M R Qf k n tgt L st g) : Wp D N l E M R Qf k n pc L (.int y :: .int x :: st) g :=
  wp_icmp_lt hd ht rfl (fun _ => kt) (fun h => absurd hc h)
theorem wp_icmp_lt_f {q : Nat} {off : Int} {tgt : Nat} {x y : Int32} (hd : decode M.2.1 pc = .ok (.if_icmp .lt off, 3)) (ht : (pc : Int) + off = (tgt : Int)) (hq : pc + 3 = q) (hc : ¬ x < y) (kf : Wp D N l E M R Qf k n q L st g) : Wp D N l E M R Qf k n pc L (.int y :: .int x :: st) g :=
  wp_icmp_lt hd ht hq (fun h => absurd h hc) (fun _ => kf)
theorem wp_if_ge {q tgt : Nat} {off : Int} {x : Int32} (hd : decode M.2.1 pc = .ok (.ifCond .ge off, 3)) (ht : (pc : Int) + off = (tgt : Int)) (hq : pc + 3 = q) (kt : 0 ≤ x → Wp D N l E M R Qf k n tgt L st g) (kf : ¬ 0 ≤ x → Wp D N l E M R Qf k n q L st g) : Wp D N l E M R Qf k n pc L (.int x :: st) g := by
  subst hq
  intro p e s m args below meth c C H locs ls hH hS hl
  exact lv_if_ge C.1 C.2.1 hd ht (fun hc => (kt hc p e s m args below meth c C H locs ls hH hS hl)) (fun hc => (kf hc p e s m args below meth c C H locs ls hH hS hl))
theorem wp_if_ge_t {tgt : Nat} {off : Int} {x : Int32} (hd : decode M.2.1 pc = .ok (.ifCond .ge off, 3)) (ht : (pc : Int) + off = (tgt : Int)) (hc : 0 ≤ x) (kt : Wp D N l E M R Qf k n tgt L st g) : Wp D N l E M R Qf k n pc L (.int x :: st) g :=
  wp_if_ge hd ht rfl (fun _ => kt) (fun h => absurd hc h)
theorem wp_if_ge_f {q : Nat} {off : Int} {tgt : Nat} {x : Int32} (hd : decode M.2.1 pc = .ok (.ifCond .ge off, 3)) (ht : (pc : Int) + off = (tgt : Int)) (hq : pc + 3 = q) (hc : ¬ 0 ≤ x) (kf : Wp D N l E M R Qf k n q L st g) : Wp D N l E M R Qf k n pc L (.int x :: st) g :=
  wp_if_ge hd ht hq (fun h => absurd h hc) (fun _ => kf)
theorem wp_icmp_ge {q tgt : Nat} {off : Int} {x y : Int32} (hd : decode M.2.1 pc = .ok (.if_icmp .ge off, 3)) (ht : (pc : Int) + off = (tgt : Int)) (hq : pc + 3 = q) (kt : y ≤ x → Wp D N l E M R Qf k n tgt L st g) (kf : ¬ y ≤ x → Wp D N l E M R Qf k n q L st g) : Wp D N l E M R Qf k n pc L (.int y :: .int x :: st) g := by
  subst hq
  intro p e s m args below meth c C H locs ls hH hS hl
  exact lv_icmp_ge C.1 C.2.1 hd ht (fun hc => (kt hc p e s m args below meth c C H locs ls hH hS hl)) (fun hc => (kf hc p e s m args below meth c C H locs ls hH hS hl))
theorem wp_icmp_ge_t {tgt : Nat} {off : Int} {x y : Int32} (hd : decode M.2.1 pc = .ok (.if_icmp .ge off, 3)) (ht : (pc : Int) + off = (tgt : Int)) (hc : y ≤ x) (kt : Wp D N l E M R Qf k n tgt L st g) : Wp D N l E M R Qf k n pc L (.int y :: .int x :: st) g :=
  wp_icmp_ge hd ht rfl (fun _ => kt) (fun h => absurd hc h)
theorem wp_icmp_ge_f {q : Nat} {off : Int} {tgt : Nat} {x y : Int32} (hd : decode M.2.1 pc = .ok (.if_icmp .ge off, 3)) (ht : (pc : Int) + off = (tgt : Int)) (hq : pc + 3 = q) (hc : ¬ y ≤ x) (kf : Wp D N l E M R Qf k n q L st g) : Wp D N l E M R Qf k n pc L (.int y :: .int x :: st) g :=
  wp_icmp_ge hd ht hq (fun h => absurd h hc) (fun _ => kf)
theorem wp_if_gt {q tgt : Nat} {off : Int} {x : Int32} (hd : decode M.2.1 pc = .ok (.ifCond .gt off, 3)) (ht : (pc : Int) + off = (tgt : Int)) (hq : pc + 3 = q) (kt : 0 < x → Wp D N l E M R Qf k n tgt L st g) (kf : ¬ 0 < x → Wp D N l E M R Qf k n q L st g) : Wp D N l E M R Qf k n pc L (.int x :: st) g := by
  subst hq
  intro p e s m args below meth c C H locs ls hH hS hl
  exact lv_if_gt C.1 C.2.1 hd ht (fun hc => (kt hc p e s m args below meth c C H locs ls hH hS hl)) (fun hc => (kf hc p e s m args below meth c C H locs ls hH hS hl))
theorem wp_if_gt_t {tgt : Nat} {off : Int} {x : Int32} (hd : decode M.2.1 pc = .ok (.ifCond .gt off, 3)) (ht : (pc : Int) + off = (tgt : Int)) (hc : 0 < x) (kt : Wp D N l E M R Qf k n tgt L st g) : Wp D N l E M R Qf k n pc L (.int x :: st) g :=
  wp_if_gt hd ht rfl (fun _ => kt) (fun h => absurd hc h)
theorem wp_if_gt_f {q : Nat} {off : Int} {tgt : Nat} {x : Int32} (hd : decode M.2.1 pc = .ok (.ifCond .gt off, 3)) (ht : (pc : Int) + off = (tgt : Int)) (hq : pc + 3 = q) (hc : ¬ 0 < x) (kf : Wp D N l E M R Qf k n q L st g) : Wp D N l E M R Qf k n pc L (.int x :: st) g :=
  wp_if_gt hd ht hq (fun h => absurd h hc) (fun _ => kf)
theorem wp_icmp_gt {q tgt : Nat} {off : Int} {x y : Int32} (hd : decode M.2.1 pc = .ok (.if_icmp .gt off, 3)) (ht : (pc : Int) + off = (tgt : Int)) (hq : pc + 3 = q) (kt : y < x → Wp D N l E M R Qf k n tgt L st g) (kf : ¬ y < x → Wp D N l E M R Qf k n q L st g) : Wp D N l E M R Qf k n pc L (.int y :: .int x :: st) g := by
  subst hq
  intro p e s m args below meth c C H locs ls hH hS hl
  exact lv_icmp_gt C.1 C.2.1 hd ht (fun hc => (kt hc p e s m args below meth c C H locs ls hH hS hl)) (fun hc => (kf hc p e s m args below meth c C H locs ls hH hS hl))
theorem wp_icmp_gt_t {tgt : Nat} {off : Int} {x y : Int32} (hd : decode M.2.1 pc = .ok (.if_icmp .gt off, 3)) (ht : (pc : Int) + off = (tgt : Int)) (hc : y < x) (kt : Wp D N l E M R Qf k n tgt L st g) : Wp D N l E M R Qf k n pc L (.int y :: .int x :: st) g :=
  wp_icmp_gt hd ht rfl (fun _ => kt) (fun h => absurd hc h)
theorem wp_icmp_gt_f {q : Nat} {off : Int} {tgt : Nat} {x y : Int32} (hd : decode M.2.1 pc = .ok (.if_icmp .gt off, 3)) (ht : (pc : Int) + off = (tgt : Int)) (hq : pc + 3 = q) (hc : ¬ y < x) (kf : Wp D N l E M R Qf k n q L st g) : Wp D N l E M R Qf k n pc L (.int y :: .int x :: st) g :=
  wp_icmp_gt hd ht hq (fun h => absurd h hc) (fun _ => kf)
theorem wp_if_le {q tgt : Nat} {off : Int} {x : Int32} (hd : decode M.2.1 pc = .ok (.ifCond .le off, 3)) (ht : (pc : Int) + off = (tgt : Int)) (hq : pc + 3 = q) (kt : x ≤ 0 → Wp D N l E M R Qf k n tgt L st g) (kf : ¬ x ≤ 0 → Wp D N l E M R Qf k n q L st g) : Wp D N l E M R Qf k n pc L (.int x :: st) g := by
  subst hq
  intro p e s m args below meth c C H locs ls hH hS hl
  exact lv_if_le C.1 C.2.1 hd ht (fun hc => (kt hc p e s m args below meth c C H locs ls hH hS hl)) (fun hc => (kf hc p e s m args below meth c C H locs ls hH hS hl))
theorem wp_if_le_t {tgt : Nat} {off : Int} {x : Int32} (hd : decode M.2.1 pc = .ok (.ifCond .le off, 3)) (ht : (pc : Int) + off = (tgt : Int)) (hc : x ≤ 0) (kt : Wp D N l E M R Qf k n tgt L st g) : Wp D N l E M R Qf k n pc L (.int x :: st) g :=
  wp_if_le hd ht rfl (fun _ => kt) (fun h => absurd hc h)
theorem wp_if_le_f {q : Nat} {off : Int} {tgt : Nat} {x : Int32} (hd : decode M.2.1 pc = .ok (.ifCond .le off, 3)) (ht : (pc : Int) + off = (tgt : Int)) (hq : pc + 3 = q) (hc : ¬ x ≤ 0) (kf : Wp D N l E M R Qf k n q L st g) : Wp D N l E M R Qf k n pc L (.int x :: st) g :=
  wp_if_le hd ht hq (fun h => absurd h hc) (fun _ => kf)
theorem wp_icmp_le {q tgt : Nat} {off : Int} {x y : Int32} (hd : decode M.2.1 pc = .ok (.if_icmp .le off, 3)) (ht : (pc : Int) + off = (tgt : Int)) (hq : pc + 3 = q) (kt : x ≤ y → Wp D N l E M R Qf k n tgt L st g) (kf : ¬ x ≤ y → Wp D N l E M R Qf k n q L st g) : Wp D N l E M R Qf k n pc L (.int y :: .int x :: st) g := by
  subst hq
  intro p e s m args below meth c C H locs ls hH hS hl
  exact lv_icmp_le C.1 C.2.1 hd ht (fun hc => (kt hc p e s m args below meth c C H locs ls hH hS hl)) (fun hc => (kf hc p e s m args below meth c C H locs ls hH hS hl))
theorem wp_icmp_le_t {tgt : Nat} {off : Int} {x y : Int32} (hd : decode M.2.1 pc = .ok (.if_icmp .le off, 3)) (ht : (pc : Int) + off = (tgt : Int)) (hc : x ≤ y) (kt : Wp D N l E M R Qf k n tgt L st g) : Wp D N l E M R Qf k n pc L (.int y :: .int x :: st) g :=
  wp_icmp_le hd ht rfl (fun _ => kt) (fun h => absurd hc h)
theorem wp_icmp_le_f {q : Nat} {off : Int} {tgt : Nat} {x y : Int32} (hd : decode M.2.1 pc = .ok (.if_icmp .le off, 3)) (ht : (pc : Int) + off = (tgt : Int)) (hq : pc + 3 = q) (hc : ¬ x ≤ y) (kf : Wp D N l E M R Qf k n q L st g) : Wp D N l E M R Qf k n pc L (.int y :: .int x :: st) g :=
  wp_icmp_le hd ht hq (fun h => absurd h hc) (fun _ => kf)
theorem wp_goto {tgt : Nat} {off : Int} (hd : decode M.2.1 pc = .ok (.goto off, 3)) (ht : (pc : Int) + off = (tgt : Int)) (h : Wp D N l E M R Qf k n tgt L st g) : Wp D N l E M R Qf k n pc L st g := by
  intro p e s m args below meth c C H locs ls hH hS hl
  exact lv_goto C.1 C.2.1 hd ht (h p e s m args below meth c C H locs ls hH hS hl)
theorem wp_tabIn {tgt : Nat} {dflt lo hi off : Int} {offs : Array Int} {len : Nat} {x : Int32} (hd : decode M.2.1 pc = .ok (.tableswitch dflt lo hi offs, len)) (h1 : ¬ x.toInt < lo) (h2 : ¬ hi < x.toInt) (ho : offs[(x.toInt - lo).toNat]? = some off) (ht : (pc : Int) + off = (tgt : Int)) (h : Wp D N l E M R Qf k n tgt L st g) : Wp D N l E M R Qf k n pc L (.int x :: st) g := by
  intro p e s m args below meth c C H locs ls hH hS hl
  exact lv_tableIn C.1 C.2.1 hd h1 h2 ho ht (h p e s m args below meth c C H locs ls hH hS hl)
theorem wp_tabOut {tgt : Nat} {dflt lo hi : Int} {offs : Array Int} {len : Nat} {x : Int32} (hd : decode M.2.1 pc = .ok (.tableswitch dflt lo hi offs, len)) (h1 : x.toInt < lo ∨ hi < x.toInt) (ht : (pc : Int) + dflt = (tgt : Int)) (h : Wp D N l E M R Qf k n tgt L st g) : Wp D N l E M R Qf k n pc L (.int x :: st) g := by
  intro p e s m args below meth c C H locs ls hH hS hl
  exact lv_tableOut C.1 C.2.1 hd h1 ht (h p e s m args below meth c C H locs ls hH hS hl)
theorem wp_ifnull {q : Nat} {off : Int} {x : Nat} (hd : decode M.2.1 pc = .ok (.ifnull off, 3)) (hq : pc + 3 = q) (h : Wp D N l E M R Qf k n q L st g) : Wp D N l E M R Qf k n pc L (.ref x :: st) g := by
  subst hq
  intro p e s m args below meth c C H locs ls hH hS hl
  exact lv_ifnull C.1 C.2.1 hd (h p e s m args below meth c C H locs ls hH hS hl)
theorem wp_ifnonnull {tgt : Nat} {off : Int} {x : Nat} (hd : decode M.2.1 pc = .ok (.ifnonnull off, 3)) (ht : (pc : Int) + off = (tgt : Int)) (h : Wp D N l E M R Qf k n tgt L st g) : Wp D N l E M R Qf k n pc L (.ref x :: st) g := by
  intro p e s m args below meth c C H locs ls hH hS hl
  exact lv_ifnonnull C.1 C.2.1 hd ht (h p e s m args below meth c C H locs ls hH hS hl)
theorem wp_iret {mc ms : Nat} {K : Option Value → List va_E → Prop} {v : Int32} (hd : decode M.2.1 pc = .ok (.ireturn, 1)) (hr : M.2.2.2 = some .int) (hk : k ≤ mc) (hn : n ≤ ms) (h : K (some (.int v)) g) : Wp D N l E M R (Qm D N K mc ms) k n pc L [.int v] g := by
  intro p e s m args below meth c C H locs ls hH hS hl
  refine W.widen hk hn ?_
  exact W.iret C.1 C.2.1 (C.2.2.2.2.2.2.2.1.trans hr) (fun t ht hW => ⟨⟨_, g, rfl, h, by rw [ht]; exact hH⟩, hS.F ht⟩) hS.2.2 hd C.2.2.2.2.2.2.1
theorem wp_zret {mc ms : Nat} {K : Option Value → List va_E → Prop} {v : Int32} {ty : FieldType} (hd : decode M.2.1 pc = .ok (.ireturn, 1)) (hr : M.2.2.2 = some ty) (hv : narrow ty (.int v) = .int v) (hk : k ≤ mc) (hn : n ≤ ms) (h : K (some (.int v)) g) : Wp D N l E M R (Qm D N K mc ms) k n pc L [.int v] g := by
  intro p e s m args below meth c C H locs ls hH hS hl
  refine W.widen hk hn ?_
  exact W.zret C.1 C.2.1 (C.2.2.2.2.2.2.2.1.trans hr) hv (fun t ht hW => ⟨⟨_, g, rfl, h, by rw [ht]; exact hH⟩, hS.F ht⟩) hS.2.2 hd C.2.2.2.2.2.2.1
theorem wp_lret {mc ms : Nat} {K : Option Value → List va_E → Prop} {v : Int64} (hd : decode M.2.1 pc = .ok (.lreturn, 1)) (hr : M.2.2.2 = some .long) (hk : k ≤ mc) (hn : n ≤ ms) (h : K (some (.long v)) g) : Wp D N l E M R (Qm D N K mc ms) k n pc L [.long v] g := by
  intro p e s m args below meth c C H locs ls hH hS hl
  refine W.widen hk hn ?_
  exact W.lret C.1 C.2.1 (C.2.2.2.2.2.2.2.1.trans hr) (fun t ht hW => ⟨⟨_, g, rfl, h, by rw [ht]; exact hH⟩, hS.F ht⟩) hS.2.2 hd C.2.2.2.2.2.2.1
theorem wp_vret {mc ms : Nat} {K : Option Value → List va_E → Prop}  (hd : decode M.2.1 pc = .ok (.return_, 1)) (hr : M.2.2.2 = none) (hk : k ≤ mc) (hn : n ≤ ms) (h : K none g) : Wp D N l E M R (Qm D N K mc ms) k n pc L [] g := by
  intro p e s m args below meth c C H locs ls hH hS hl
  refine W.widen hk hn ?_
  exact W.vret C.1 C.2.1 (C.2.2.2.2.2.2.2.1.trans hr) (fun t ht hW => ⟨⟨_, g, rfl, h, by rw [ht]; exact hH⟩, hS.F ht⟩) hS.2.2 hd C.2.2.2.2.2.2.1
theorem wp_aret {mc ms : Nat} {K : Option Value → List va_E → Prop} {v : Value} {ty : FieldType} (hd : decode M.2.1 pc = .ok (.areturn, 1)) (hr : M.2.2.2 = some ty) (hty : (∃ n, ty = .object n) ∨ ∃ t, ty = .array t) (hv : v = .null ∨ ∃ a, v = .ref a) (hk : k ≤ mc) (hn : n ≤ ms) (h : K (some v) g) : Wp D N l E M R (Qm D N K mc ms) k n pc L [v] g := by
  intro p e s m args below meth c C H locs ls hH hS hl
  refine W.widen hk hn ?_
  exact W.aret C.1 C.2.1 (C.2.2.2.2.2.2.2.1.trans hr) hty hv (fun t ht hW => ⟨⟨_, g, rfl, h, by rw [ht]; exact hH⟩, hS.F ht⟩) hS.2.2 hd C.2.2.2.2.2.2.1
end WP
