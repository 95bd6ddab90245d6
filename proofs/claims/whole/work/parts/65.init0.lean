/-- what the tables say of rows of rows and of the kinds of runs -/
def XX (D : xD) (U : State) : Prop := MX D U ∧ (∀ ci, ci ∈ [0, 1, 2, 3, 7] → U.vm.assignable (D.1.1 ci) (D.1.1 6) = true) ∧ ∀ Cn, Cn ∈ ["FillAndGo$Line", "FillAndGo$Run", "FillAndGo$Ride"] → va_AO Cn U
theorem XX.moved {D : xD} {s U : State} (h : XX D s) (hW : s.WarmedH U.vm) : XX D U := ⟨h.1.moved hW, fun ci hc => by rw [hW.alike.assignable]; exact h.2.1 ci hc, fun Cn hc => (h.2.2 Cn hc).moved hW.alike⟩
def OkX (D : xD) (N : Nat) (l : Launch) (d : Nat) (M : MD) (as : List Value) (g : List va_E) (mc ms : Nat) (K : Option Value → List va_E → Prop) : Prop :=
  Met l M.1 (Cond.code M.1 M.2.1 M.2.2.1 M.2.2.2 :: lw_good) (Rm d mc ms) (va_Pc as (fun U => (hs D.1 N g U.heap ∧ xK D N U ∧ N ≤ U.heap.size) ∧ XX D U)) (Qk D N K) mc ms (fr N)
def EXX (D : xD) (M : MD) : EX := fun s _ meth => (M.1.name = "<init>" → meth.name = "<init>") ∧ XX D s
section OX
variable {D : xD} {N : Nat} {l : Launch} {E : EX} {M : MD} {R : Room} {Qf : QF} {k n pc : Nat} {L : List (Nat × Value)} {st : List Value} {g : List va_E}
theorem okX_of {d mc ms : Nat} {as : List Value} {K : Option Value → List va_E → Prop} (hy : plainName M.1.cls = true) (hlen : (lg_sl as).length ≤ M.2.2.1) (hL : lv_args 0 as = L) (h : Wp D N l (EXX D M) M (Rm d mc ms) (Qm D N K mc ms) 0 0 0 L [] g) : OkX D N l d M as g mc ms K := by
  subst hL
  refine Met.ofW (cc := M.2.1) (maxL := M.2.2.1) (ret := M.2.2.2) hy rfl ?_
  intro p e s m args below meth c s₁ B hml hv
  obtain ⟨rfl, ⟨hH, hK, hN⟩, hX⟩ := hv
  have hts := atoms_spec (ws := Cond.code M.1 M.2.1 M.2.2.1 M.2.2.2 :: lw_good) B.pre
  rw [lg_entry_eq]
  exact h p e s m _ below meth c ⟨B.exec, B.bytes, hml, findClass_of_methodNamed B.named, fun w hw => hts w (List.mem_cons_of_mem _ hw), hK, B.notSynchronized, B.returns, hN, fun hi => by rw [(name_of_methodNamed B.named B.method).1]; exact hi, hX⟩ s.heap [] _ hH va_S.rf (lv_entry as hlen)
theorem okX_blind {as : List Value} : FrameBlind (va_Pc as (fun U => (hs D.1 N g U.heap ∧ xK D N U ∧ N ≤ U.heap.size) ∧ XX D U)) := by
  intro a U g2 mk h
  obtain ⟨h1, ⟨h2, h3, h4⟩, h5⟩ := h
  exact ⟨h1, ⟨h2, xK.blind h3 rfl rfl, h4⟩, h5⟩
theorem okX_pre {as : List Value} {p : Program} {s : State} {m : MethodId} {args : Array Value} {meth : Method} {c : Code} (C : Cx D N E M p s m args meth c) (hX : XX D s) {H : Heap} {locs : List Loc} (hH : hs D.1 N g H) (hS : va_S (fr N) s.heap H locs) : PreS s H (va_Pc as (fun U => (hs D.1 N g U.heap ∧ xK D N U ∧ N ≤ U.heap.size) ∧ XX D U)) as :=
  ⟨okX_blind, fun U hU hW => ⟨rfl, ⟨by rw [hU]; exact hH, C.2.2.2.2.2.1.move hS hU hW, by rw [hU, hH.1]; exact Nat.le_add_right _ _⟩, hX.moved hW⟩⟩
theorem wp_callIX {q d np idx mc ms i : Nat} {M2 : MD} (as : List Value) {st0 : List Value} (hE : ∀ s a meth, E s a meth → XX D s) (hL : LI M.1.cls idx M2 np) (hR : RO R d) (hd : decode M.2.1 pc = .ok (.invokespecial idx, 3)) (hq : pc + 3 = q) (hn : as.length = np) (hst : st0 = as.reverse ++ .ref (N + i) :: st) (hcat : (st.map fun v => v.category).sum ≤ 8) (hc : k + mc ≤ R.cells) (hs : n + ms ≤ R.slots) (hok : OkX D N l d M2 (.ref (N + i) :: as) g mc ms (fun v g2 => Wp D N l E M R Qf (k + mc) (n + ms) q L (pv v st) g2)) : Wp D N l E M R Qf k n pc L st0 g := by
  intro p e s m args below meth c C H locs ls hH hS hl
  obtain ⟨⟨c1, c2, c3, c4⟩, l1, l2, l3, l4⟩ := hL
  have hts := C.2.2.2.2.1
  subst hst
  unfold OkX at hok
  rw [l4] at hok c1
  exact wp_run C hq (va_runI (As := as) (rest := st) ⟨C.1, C.2.1, C.2.2.1, C.2.2.2.1, hts⟩ hok ⟨callB_of np hts (good_ws c1) rfl rfl rfl (hts _ c2) (hts _ l1) c3 (ro_call hR c4 mc ms), l3, hts _ l2⟩ (okX_pre C (hE _ _ _ C.2.2.2.2.2.2.2.2.2) hH hS) rfl hn hl.1 rfl (lv_room hcat) hd ⟨hc, hs⟩) hS hl
theorem wp_callINX {q d np idx mc ms i : Nat} {M2 : MD} {host : String} (as : List Value) {st0 : List Value} (hE : ∀ s a meth, E s a meth → XX D s) (hL : LIN M.1.cls idx M2 np host) (hR : RO R d) (hd : decode M.2.1 pc = .ok (.invokespecial idx, 3)) (hq : pc + 3 = q) (hn : as.length = np) (hst : st0 = as.reverse ++ .ref (N + i) :: st) (hcat : (st.map fun v => v.category).sum ≤ 8) (hc : k + mc ≤ R.cells) (hs : n + ms ≤ R.slots) (hok : OkX D N l d M2 (.ref (N + i) :: as) g mc ms (fun v g2 => Wp D N l E M R Qf (k + mc) (n + ms) q L (pv v st) g2)) : Wp D N l E M R Qf k n pc L st0 g := by
  intro p e s m args below meth c C H locs ls hH hS hl
  obtain ⟨⟨c1, c2, c3, c4⟩, l1, l2, l3, l4⟩ := hL
  have hts := C.2.2.2.2.1
  subst hst
  unfold OkX at hok
  rw [l4] at hok c1
  exact wp_run C hq (va_runIN (As := as) (rest := st) ⟨C.1, C.2.1, C.2.2.1, C.2.2.2.1, hts⟩ hok ⟨va_cnB np hts (good_ws c1) rfl rfl rfl (C.2.2.2.2.2.1.2.1 _ l1) (hts _ c2) c3 (ro_call hR c4 mc ms), l3, hts _ l2⟩ (okX_pre C (hE _ _ _ C.2.2.2.2.2.2.2.2.2) hH hS) rfl hn hl.1 rfl (lv_room hcat) hd ⟨hc, hs⟩) hS hl
theorem wp_anewX (t0 : Nat) {q idx N' : Nat} {Cn : String} {z : Int32} (hE : ∀ s a meth, E s a meth → XX D s) (hCn : Cn ∈ ["FillAndGo$Line", "FillAndGo$Run", "FillAndGo$Ride"]) (hz : z = nI N') (ht : (x_tys D.2.1)[t0]? = some (D.2.1 t0, .object Cn)) (hw : Cond.classLink M.1.cls idx Cn ∈ lw_good) (hd : decode M.2.1 pc = .ok (.anewarray idx, 3)) (hq : pc + 3 = q) (hb : N' * 4 ≤ 536870912) (hb2 : N' < 2147483648) (hcells : k + 1 ≤ R.cells) (hslots : n + N' ≤ R.slots) (h : Wp D N l E M R Qf (k + 1) (n + N') q L (.ref (N + g.length) :: st) (g ++ [.inl (D.2.1 t0, N', .inr (.inr (.inr (.inr (fun _ => none)))))])) : Wp D N l E M R Qf k n pc L (.int z :: st) g := by
  subst hq
  subst hz
  intro p e s m args below meth c C H locs ls hH hS hl
  have hK := C.2.2.2.2.2.1.1
  have hts := C.2.2.2.2.1
  have hcl : (nI N').toNatClampNeg = N' := nI_clamp hb2
  refine W.anew C.1 C.2.1 C.2.2.2.1 (hts _ hw) (((hE _ _ _ C.2.2.2.2.2.2.2.2.2).2.2 Cn hCn).use) rfl hd rfl (nI_pos hb2) (by rw [hcl]; exact hb) hcells (by rw [hcl]; exact hslots) fun cA kA comp f1 f2 f3 f4 => ?_
  have hcA : cA = D.2.1 t0 := by
    obtain ⟨_, _, _, _, _, h3⟩ := (hK.2 t0 _ ht).2
    exact Option.some.inj (f1.symm.trans h3)
  subst hcA
  rw [hcl]
  generalize hH1 : H.push ({ cls := D.2.1 t0, slots := Array.replicate N' .null, vm := .none } : Cell) = H1
  have z1 : H1.size = H.size + 1 := by rw [← hH1, Array.size_push]
  have e1 : H1[H.size]? = some (arrV (D.2.1 t0) N' (fun _ => .null)) := by rw [← hH1, Array.getElem?_push_size, ← arrV_new]
  have o1 : ∀ q : Nat, q < H.size → H1[q]? = H[q]? := fun q hq => by rw [← hH1, Array.getElem?_push, if_neg (Nat.ne_of_lt hq)]
  have hsz := hH.1
  refine W.eq (g2 := F0 m (pc + 3) ls (.ref (N + g.length) :: st)) (by rw [hsz]) ?_
  refine h p e s m args below meth c C H1 locs ls (hH.push ?_ z1 o1) ⟨Nat.le_trans hS.1 (by omega), fun x h1 h2 => (o1 x (Nat.lt_of_lt_of_le h1 hS.1)).trans (hS.2.1 x h1 h2), hS.2.2⟩ hl
  show H1[N + g.length]? = some (vp_cell _ _)
  rw [vp_cell_q, ← hsz]
  exact e1
theorem wp_aastX {q i j i2 ci m' : Nat} {r : vw_C} {vs : List Value} {f : Nat → Option Nat} {g2 : List va_E} (hE : ∀ s a meth, E s a meth → XX D s) (hci : ci ∈ [0, 1, 2, 3, 7]) (hd : decode M.2.1 pc = .ok (.aastore, 1)) (hq : pc + 1 = q) (hr : g[i]? = some (.inl (D.2.1 6, m', .inr (.inr (.inr (.inr f)))))) (hr2 : g[i2]? = some (.inr (ci, vs))) (hc : classes[ci]? = some r) (hj : j < m') (hm : m' < 2147483648) (hg : g.set i (.inl (D.2.1 6, m', .inr (.inr (.inr (.inr (va_up f j (some (N + i2)))))))) = g2) (h : Wp D N l E M R Qf k n q L st g2) : Wp D N l E M R Qf k n pc L (.ref (N + i2) :: .int (nI j) :: .ref (N + i) :: st) g := by
  subst hq
  subst hg
  intro p e s m args below meth c C H locs ls hH hS hl
  obtain ⟨r', hr', cellV, g1, g2, g3, -⟩ := hH.2 i2 _ hr2
  have hK := C.2.2.2.2.2.1.1
  have hcls := (hK.1 ci r hc).2
  have hrun := (hK.1 6 _ rfl).2
  obtain ⟨kA, comp, k1, k2, k3, -⟩ := (hK.2 6 _ rfl).2
  have hcomp : comp = D.1.1 6 := Option.some.inj (k3.symm.trans hrun.1)
  subst hcomp
  obtain ⟨kC, hkC, -⟩ := hcls.2
  obtain ⟨kR, hkR, -⟩ := hrun.2
  refine W.aast C.1 C.2.1 (hH.2 i _ hr) (fun q h => by cases h) (fun h => by cases h) k1 k2 rfl hkR ⟨nI_pos (by omega), by show _ < (arrV _ _ _).slots.size; rw [arrV_size, nI_cl hj hm]; exact hj⟩ g1 (fun q h => by rw [g3] at h; cases h) (by rw [g2]; exact hkC) (by rw [g2]; exact (hE _ _ _ C.2.2.2.2.2.2.2.2.2).2.1 ci hci) rfl rfl hd fun H1 e1 z oq => ?_
  refine h p e s m args below meth c C H1 _ ls (hH.set hr ?_ z oq) (hS.put z oq (Nat.le_add_right N i)) hl
  show H1[N + i]? = some (vp_cell _ _)
  rw [e1]
  rw [vp_cell_q, vp_cell_q, arrV_store, nI_cl hj hm]
  congr 2
  funext q
  by_cases hq : q = j
  · subst hq
    simp [updV, va_up, va_rf]
  · simp [updV, va_up, hq]
end OX
def cfl (k : Nat) (v : Int32) : FN := fun i => if i < k then v else 0
theorem cstz (v : Int32) : (fun _ => 0) = cfl 0 v := by
  funext i
  exact (if_neg (Nat.not_lt_zero _)).symm
theorem csts (k : Nat) (v : Int32) : upd (cfl k v) k v = cfl (k + 1) v := by
  funext i
  simp only [upd, cfl]
  by_cases e : i = k
  · subst e; rw [if_pos rfl, if_pos (Nat.lt_succ_self _)]
  · rw [if_neg e]
    by_cases h : i < k
    · rw [if_pos h, if_pos (by omega)]
    · rw [if_neg h, if_neg (by omega)]
theorem rows_s (N a k : Nat) : va_up (rows N a k) k (some (N + (a + k))) = rows N a (k + 1) := by
  funext i
  by_cases e : i = k
  · subst e; rw [va_upeq, rows_at (Nat.lt_succ_self _)]
  · rw [va_upne _ _ e]
    simp only [rows]
    by_cases h : i < k
    · rw [if_pos h, if_pos (by omega)]
    · rw [if_neg h, if_neg (by omega)]
theorem rows_0 (N a : Nat) : (fun _ => none) = rows N a 0 := by
  funext i
  exact (if_neg (Nat.not_lt_zero _)).symm
def rwN (N b k : Nat) : Nat → Option Nat := fun i => if i < k then some (N + (b + (5 + i))) else none
theorem rwN_s (N b k : Nat) : va_up (rwN N b k) k (some (N + (b + (5 + k)))) = rwN N b (k + 1) := by
  funext i
  by_cases e : i = k
  · subst e; rw [va_upeq]; exact (if_pos (Nat.lt_succ_self _)).symm
  · rw [va_upne _ _ e]
    simp only [rwN]
    by_cases h : i < k
    · rw [if_pos h, if_pos (by omega)]
    · rw [if_neg h, if_neg (by omega)]
theorem rwN_0 (N b : Nat) : (fun _ => none) = rwN N b 0 := by
  funext i
  exact (if_neg (Nat.not_lt_zero _)).symm
theorem slz (a n : Nat) : sl (fun _ => 0) a n = fun _ => 0 := by
  funext i
  simp only [sl]
  split <;> rfl
section AZ
variable {g0 r : List va_E}
theorem rdZ {i : Nat} : (g0 ++ r)[g0.length + i]? = r[i]? := by rw [List.getElem?_append_right (by omega), show g0.length + i - g0.length = i by omega]
theorem fdZ {i : Nat} {e : va_E} : (g0 ++ r).set (g0.length + i) e = g0 ++ r.set i e := by rw [List.set_append, if_neg (by omega), show g0.length + i - g0.length = i by omega]
theorem lnZ : (g0 ++ r).length = g0.length + r.length := List.length_append
theorem apZ {e : va_E} : (g0 ++ r) ++ [e] = g0 ++ (r ++ [e]) := List.append_assoc _ _ _
end AZ
theorem kw_ab : Cond.arrayClass .byte ∈ lw_good := gw 289 (by decide +kernel) (by decide +kernel)
theorem kw_az : Cond.arrayClass .boolean ∈ lw_good := gw 1112 (by decide +kernel) (by decide +kernel)
theorem kw_aj : Cond.arrayClass .long ∈ lw_good := gw 1113 (by decide +kernel) (by decide +kernel)
theorem d_Rd_init_0 : decode M_Rd_init.2.1 0 = .ok (.aload_n 0, 1) := by decide +kernel
theorem d_Rd_init_1 : decode M_Rd_init.2.1 1 = .ok (.invokespecial 1, 3) := by decide +kernel
theorem d_Rd_init_4 : decode M_Rd_init.2.1 4 = .ok (.return_, 1) := by decide +kernel
set_option maxHeartbeats 4000000 in
set_option maxRecDepth 100000 in
theorem ok_Rd_init {D : xD} {N : Nat} {l : Launch} {d : Nat} {g : List va_E} {K : Option Value → List va_E → Prop} {i : Nat} (hK : K none g) : Ok D N l (d + 1) M_Rd_init [.ref (N + i)] g 0 0 K := by
  refine ok_of (L := [(0, _)]) (by decide) (Nat.le_of_ble_eq_true rfl) rfl ?_
  refine wp_aload_n (q := 1) d_Rd_init_0 rfl rfl ?_
  refine wp_objInit (q := 4) ko_Rd_1 ko_inst ko_code (RO0 ()) d_Rd_init_1 rfl (Nat.le_of_ble_eq_true rfl) ?_
  refine wp_vret d_Rd_init_4 rfl (Nat.le_refl _) (Nat.le_refl _) ?_
  exact hK
theorem d_Rn_init_0 : decode M_Rn_init.2.1 0 = .ok (.aload_n 0, 1) := by decide +kernel
theorem d_Rn_init_1 : decode M_Rn_init.2.1 1 = .ok (.invokespecial 3, 3) := by decide +kernel
theorem d_Rn_init_4 : decode M_Rn_init.2.1 4 = .ok (.return_, 1) := by decide +kernel
set_option maxHeartbeats 4000000 in
set_option maxRecDepth 100000 in
theorem ok_Rn_init {D : xD} {N : Nat} {l : Launch} {d : Nat} {g : List va_E} {K : Option Value → List va_E → Prop} {i : Nat} (hK : K none g) : Ok D N l (d + 1) M_Rn_init [.ref (N + i)] g 0 0 K := by
  refine ok_of (L := [(0, _)]) (by decide) (Nat.le_of_ble_eq_true rfl) rfl ?_
  refine wp_aload_n (q := 1) d_Rn_init_0 rfl rfl ?_
  refine wp_objInit (q := 4) ko_Rn_3 ko_inst ko_code (RO0 ()) d_Rn_init_1 rfl (Nat.le_of_ble_eq_true rfl) ?_
  refine wp_vret d_Rn_init_4 rfl (Nat.le_refl _) (Nat.le_refl _) ?_
  exact hK
theorem d_Sh_init_0 : decode M_Sh_init.2.1 0 = .ok (.aload_n 0, 1) := by decide +kernel
theorem d_Sh_init_1 : decode M_Sh_init.2.1 1 = .ok (.invokespecial 3, 3) := by decide +kernel
theorem d_Sh_init_4 : decode M_Sh_init.2.1 4 = .ok (.return_, 1) := by decide +kernel
set_option maxHeartbeats 4000000 in
set_option maxRecDepth 100000 in
theorem ok_Sh_init {D : xD} {N : Nat} {l : Launch} {d : Nat} {g : List va_E} {K : Option Value → List va_E → Prop} {i : Nat} (hK : K none g) : Ok D N l (d + 2) M_Sh_init [.ref (N + i)] g 0 0 K := by
  refine ok_of (L := [(0, _)]) (by decide) (Nat.le_of_ble_eq_true rfl) rfl ?_
  refine wp_aload_n (q := 1) d_Sh_init_0 rfl rfl ?_
  refine wp_callIN (q := 4) (mc := 0) (ms := 0) [] lk_Sh_3 (ro _ _ _) d_Sh_init_1 rfl rfl rfl (Nat.le_of_ble_eq_true rfl) (Nat.zero_le _) (Nat.zero_le _) ?_
  refine ok_Rn_init ?_
  refine wp_vret d_Sh_init_4 rfl (Nat.le_refl _) (Nat.le_refl _) ?_
  exact hK
theorem d_Em_init_0 : decode M_Em_init.2.1 0 = .ok (.aload_n 0, 1) := by decide +kernel
theorem d_Em_init_1 : decode M_Em_init.2.1 1 = .ok (.invokespecial 3, 3) := by decide +kernel
theorem d_Em_init_4 : decode M_Em_init.2.1 4 = .ok (.return_, 1) := by decide +kernel
set_option maxHeartbeats 4000000 in
set_option maxRecDepth 100000 in
theorem ok_Em_init {D : xD} {N : Nat} {l : Launch} {d : Nat} {g : List va_E} {K : Option Value → List va_E → Prop} {i : Nat} (hK : K none g) : Ok D N l (d + 2) M_Em_init [.ref (N + i)] g 0 0 K := by
  refine ok_of (L := [(0, _)]) (by decide) (Nat.le_of_ble_eq_true rfl) rfl ?_
  refine wp_aload_n (q := 1) d_Em_init_0 rfl rfl ?_
  refine wp_callIN (q := 4) (mc := 0) (ms := 0) [] lk_Em_3 (ro _ _ _) d_Em_init_1 rfl rfl rfl (Nat.le_of_ble_eq_true rfl) (Nat.zero_le _) (Nat.zero_le _) ?_
  refine ok_Rn_init ?_
  refine wp_vret d_Em_init_4 rfl (Nat.le_refl _) (Nat.le_refl _) ?_
  exact hK
theorem d_Ea_init_0 : decode M_Ea_init.2.1 0 = .ok (.aload_n 0, 1) := by decide +kernel
theorem d_Ea_init_1 : decode M_Ea_init.2.1 1 = .ok (.invokespecial 3, 3) := by decide +kernel
theorem d_Ea_init_4 : decode M_Ea_init.2.1 4 = .ok (.return_, 1) := by decide +kernel
set_option maxHeartbeats 4000000 in
set_option maxRecDepth 100000 in
theorem ok_Ea_init {D : xD} {N : Nat} {l : Launch} {d : Nat} {g : List va_E} {K : Option Value → List va_E → Prop} {i : Nat} (hK : K none g) : Ok D N l (d + 2) M_Ea_init [.ref (N + i)] g 0 0 K := by
  refine ok_of (L := [(0, _)]) (by decide) (Nat.le_of_ble_eq_true rfl) rfl ?_
  refine wp_aload_n (q := 1) d_Ea_init_0 rfl rfl ?_
  refine wp_callIN (q := 4) (mc := 0) (ms := 0) [] lk_Ea_3 (ro _ _ _) d_Ea_init_1 rfl rfl rfl (Nat.le_of_ble_eq_true rfl) (Nat.zero_le _) (Nat.zero_le _) ?_
  refine ok_Rn_init ?_
  refine wp_vret d_Ea_init_4 rfl (Nat.le_refl _) (Nat.le_refl _) ?_
  exact hK
theorem d_Ex_init_0 : decode M_Ex_init.2.1 0 = .ok (.aload_n 0, 1) := by decide +kernel
theorem d_Ex_init_1 : decode M_Ex_init.2.1 1 = .ok (.invokespecial 3, 3) := by decide +kernel
theorem d_Ex_init_4 : decode M_Ex_init.2.1 4 = .ok (.return_, 1) := by decide +kernel
set_option maxHeartbeats 4000000 in
set_option maxRecDepth 100000 in
theorem ok_Ex_init {D : xD} {N : Nat} {l : Launch} {d : Nat} {g : List va_E} {K : Option Value → List va_E → Prop} {i : Nat} (hK : K none g) : Ok D N l (d + 3) M_Ex_init [.ref (N + i)] g 0 0 K := by
  refine ok_of (L := [(0, _)]) (by decide) (Nat.le_of_ble_eq_true rfl) rfl ?_
  refine wp_aload_n (q := 1) d_Ex_init_0 rfl rfl ?_
  refine wp_callIN (q := 4) (mc := 0) (ms := 0) [] lk_Ex_3 (ro _ _ _) d_Ex_init_1 rfl rfl rfl (Nat.le_of_ble_eq_true rfl) (Nat.zero_le _) (Nat.zero_le _) ?_
  refine ok_Ea_init ?_
  refine wp_vret d_Ex_init_4 rfl (Nat.le_refl _) (Nat.le_refl _) ?_
  exact hK
theorem d_Hi_init_0 : decode M_Hi_init.2.1 0 = .ok (.aload_n 0, 1) := by decide +kernel
theorem d_Hi_init_1 : decode M_Hi_init.2.1 1 = .ok (.invokespecial 3, 3) := by decide +kernel
theorem d_Hi_init_4 : decode M_Hi_init.2.1 4 = .ok (.return_, 1) := by decide +kernel
set_option maxHeartbeats 4000000 in
set_option maxRecDepth 100000 in
theorem ok_Hi_init {D : xD} {N : Nat} {l : Launch} {d : Nat} {g : List va_E} {K : Option Value → List va_E → Prop} {i : Nat} (hK : K none g) : Ok D N l (d + 3) M_Hi_init [.ref (N + i)] g 0 0 K := by
  refine ok_of (L := [(0, _)]) (by decide) (Nat.le_of_ble_eq_true rfl) rfl ?_
  refine wp_aload_n (q := 1) d_Hi_init_0 rfl rfl ?_
  refine wp_callIN (q := 4) (mc := 0) (ms := 0) [] lk_Hi_3 (ro _ _ _) d_Hi_init_1 rfl rfl rfl (Nat.le_of_ble_eq_true rfl) (Nat.zero_le _) (Nat.zero_le _) ?_
  refine ok_Em_init ?_
  refine wp_vret d_Hi_init_4 rfl (Nat.le_refl _) (Nat.le_refl _) ?_
  exact hK
theorem d_Wd_init_0 : decode M_Wd_init.2.1 0 = .ok (.aload_n 0, 1) := by decide +kernel
theorem d_Wd_init_1 : decode M_Wd_init.2.1 1 = .ok (.invokespecial 3, 3) := by decide +kernel
theorem d_Wd_init_4 : decode M_Wd_init.2.1 4 = .ok (.aload_n 0, 1) := by decide +kernel
theorem d_Wd_init_5 : decode M_Wd_init.2.1 5 = .ok (.bipush 36, 2) := by decide +kernel
theorem d_Wd_init_7 : decode M_Wd_init.2.1 7 = .ok (.newarray .int, 2) := by decide +kernel
theorem d_Wd_init_9 : decode M_Wd_init.2.1 9 = .ok (.putfield 9, 3) := by decide +kernel
theorem d_Wd_init_12 : decode M_Wd_init.2.1 12 = .ok (.aload_n 0, 1) := by decide +kernel
theorem d_Wd_init_13 : decode M_Wd_init.2.1 13 = .ok (.bipush 36, 2) := by decide +kernel
theorem d_Wd_init_15 : decode M_Wd_init.2.1 15 = .ok (.newarray .int, 2) := by decide +kernel
theorem d_Wd_init_17 : decode M_Wd_init.2.1 17 = .ok (.putfield 15, 3) := by decide +kernel
theorem d_Wd_init_20 : decode M_Wd_init.2.1 20 = .ok (.aload_n 0, 1) := by decide +kernel
theorem d_Wd_init_21 : decode M_Wd_init.2.1 21 = .ok (.bipush 6, 2) := by decide +kernel
theorem d_Wd_init_23 : decode M_Wd_init.2.1 23 = .ok (.newarray .int, 2) := by decide +kernel
theorem d_Wd_init_25 : decode M_Wd_init.2.1 25 = .ok (.putfield 18, 3) := by decide +kernel
theorem d_Wd_init_28 : decode M_Wd_init.2.1 28 = .ok (.aload_n 0, 1) := by decide +kernel
theorem d_Wd_init_29 : decode M_Wd_init.2.1 29 = .ok (.bipush 12, 2) := by decide +kernel
theorem d_Wd_init_31 : decode M_Wd_init.2.1 31 = .ok (.anewarray 21, 3) := by decide +kernel
theorem d_Wd_init_34 : decode M_Wd_init.2.1 34 = .ok (.putfield 23, 3) := by decide +kernel
theorem d_Wd_init_37 : decode M_Wd_init.2.1 37 = .ok (.iconst 0, 1) := by decide +kernel
theorem d_Wd_init_38 : decode M_Wd_init.2.1 38 = .ok (.istore_n 1, 1) := by decide +kernel
theorem d_Wd_init_39 : decode M_Wd_init.2.1 39 = .ok (.iload_n 1, 1) := by decide +kernel
theorem d_Wd_init_40 : decode M_Wd_init.2.1 40 = .ok (.bipush 12, 2) := by decide +kernel
theorem d_Wd_init_42 : decode M_Wd_init.2.1 42 = .ok (.if_icmp .ge 22, 3) := by decide +kernel
theorem d_Wd_init_45 : decode M_Wd_init.2.1 45 = .ok (.aload_n 0, 1) := by decide +kernel
theorem d_Wd_init_46 : decode M_Wd_init.2.1 46 = .ok (.getfield 23, 3) := by decide +kernel
theorem d_Wd_init_49 : decode M_Wd_init.2.1 49 = .ok (.iload_n 1, 1) := by decide +kernel
theorem d_Wd_init_50 : decode M_Wd_init.2.1 50 = .ok (.new 21, 3) := by decide +kernel
theorem d_Wd_init_53 : decode M_Wd_init.2.1 53 = .ok (.dup, 1) := by decide +kernel
theorem d_Wd_init_54 : decode M_Wd_init.2.1 54 = .ok (.invokespecial 27, 3) := by decide +kernel
theorem d_Wd_init_57 : decode M_Wd_init.2.1 57 = .ok (.aastore, 1) := by decide +kernel
theorem d_Wd_init_58 : decode M_Wd_init.2.1 58 = .ok (.iinc 1 1, 3) := by decide +kernel
theorem d_Wd_init_61 : decode M_Wd_init.2.1 61 = .ok (.goto (-22), 3) := by decide +kernel
theorem d_Wd_init_64 : decode M_Wd_init.2.1 64 = .ok (.return_, 1) := by decide +kernel
abbrev ride0 : va_E := .inr (5, [.int 0, .int 0, .int 0, .int 0, .int 0, .int 0, .int 0, .int 0, .int 0, .int 0, .int 0, .int 0, .int 0])
theorem wz {D : xD} {N b : Nat} : wcells D N b (fun _ => 0) = [.inr (10, [.int 0, .int 0, .int 0, .int 0, .int 0, .ref (N + (b + 1)), .ref (N + (b + 2)), .ref (N + (b + 3)), .ref (N + (b + 4))]), iA D 36 (fun _ => 0), iA D 36 (fun _ => 0), iA D 6 (fun _ => 0), oA D 4 12 (rwN N b 12)] ++ List.replicate 12 ride0 := by
  unfold wcells
  rw [slz, slz, slz]
  rfl
theorem wst {D : xD} {N i : Nat} {g0 : List va_E} {a b c d : va_E} : g0 ++ ([a, b, c, d, oA D 4 12 (rwN N g0.length i)] ++ List.replicate (i + 1) ride0).set 4 (oA D 4 12 (va_up (rwN N g0.length i) i (some (N + (g0.length + (5 + i)))))) = g0 ++ ([a, b, c, d, oA D 4 12 (rwN N g0.length (i + 1))] ++ List.replicate (i + 1) ride0) := by
  rw [rwN_s]
  rfl
theorem rdRide {g0 : List va_E} {a b c d e : va_E} {i n : Nat} (h : i < n) : (g0 ++ ([a, b, c, d, e] ++ List.replicate n ride0))[g0.length + (5 + i)]? = some ride0 := by
  rw [rdZ, List.getElem?_append_right (by simp), List.getElem?_replicate]
  simp
  exact h
set_option maxHeartbeats 4000000 in
set_option maxRecDepth 100000 in
theorem ok_Wd_init {D : xD} {N : Nat} {l : Launch} {d : Nat} {g0 : List va_E} {K : Option Value → List va_E → Prop} (hK : K none (g0 ++ wcells D N g0.length (fun _ => 0))) : OkX D N l (d + 2) M_Wd_init [.ref (N + g0.length)] (g0 ++ [.inr (10, [.int 0, .int 0, .int 0, .int 0, .int 0, .null, .null, .null, .null])]) 16 246 K := by
  have lp : ∀ i : Nat, i ≤ 12 → Wp D N l (EXX D M_Wd_init) M_Wd_init (Rm (d + 2) 16 246) (Qm D N K 16 246) (4 + i) (90 + 13 * i) 39 [(1, .int (nI i)), (0, .ref (N + g0.length))] [] (g0 ++ ([.inr (10, [.int 0, .int 0, .int 0, .int 0, .int 0, .ref (N + (g0.length + 1)), .ref (N + (g0.length + 2)), .ref (N + (g0.length + 3)), .ref (N + (g0.length + 4))]), iA D 36 (fun _ => 0), iA D 36 (fun _ => 0), iA D 6 (fun _ => 0), oA D 4 12 (rwN N g0.length i)] ++ List.replicate i ride0)) := by
    refine up_loop ?_ ?_
    · skip
      refine wp_iload_n (q := 40) d_Wd_init_39 rfl rfl ?_
      refine wp_bipush (q := 42) d_Wd_init_40 rfl bp_12 ?_
      refine wp_icmp_ge_t (tgt := 64) d_Wd_init_42 (by decide) (nI_le (Nat.le_refl _) (by decide)) ?_
      refine wp_vret d_Wd_init_64 rfl (Nat.le_refl _) (Nat.le_refl _) ?_
      rw [wz] at hK
      exact hK
    · intro i hi ih
      have hi2 : i < i + 1 := Nat.lt_succ_self _
      refine wp_iload_n (q := 40) d_Wd_init_39 rfl rfl ?_
      refine wp_bipush (q := 42) d_Wd_init_40 rfl bp_12 ?_
      refine wp_icmp_ge_f (q := 45) (tgt := 64) d_Wd_init_42 (by decide) rfl (nI_ge hi (by decide)) ?_
      refine wp_aload_n (q := 46) d_Wd_init_45 rfl rfl ?_
      refine wp_get (q := 49) fl_Wd_23 d_Wd_init_46 rfl ((rdZ (i := 0)).trans rfl) rfl ?_
      refine wp_iload_n (q := 50) d_Wd_init_49 rfl rfl ?_
      refine wp_new (q := 53) (ci := 5) (Cn := RX5) (T := TX5) (nf := 13) (fs := [.int 0, .int 0, .int 0, .int 0, .int 0, .int 0, .int 0, .int 0, .int 0, .int 0, .int 0, .int 0, .int 0]) (ty0 := tyX5) rfl inX5 tyX5_ok (gw 141 (by decide +kernel) (by decide +kernel)) (gw 143 (by decide +kernel) (by decide +kernel)) (gw 10 (by decide +kernel) (by decide +kernel)) d_Wd_init_50 rfl (fun j hj => by rcases (show j = 0 ∨ j = 1 ∨ j = 2 ∨ j = 3 ∨ j = 4 ∨ j = 5 ∨ j = 6 ∨ j = 7 ∨ j = 8 ∨ j = 9 ∨ j = 10 ∨ j = 11 ∨ j = 12 by omega) with rfl | rfl | rfl | rfl | rfl | rfl | rfl | rfl | rfl | rfl | rfl | rfl | rfl <;> rfl) (show 4 + i + 1 ≤ 16 by omega) (show 90 + 13 * i + 13 ≤ 246 by omega) ?_
      rw [lnZ, apZ, List.length_append, List.length_replicate, List.append_assoc, show List.replicate i ride0 ++ [.inr (5, [.int 0, .int 0, .int 0, .int 0, .int 0, .int 0, .int 0, .int 0, .int 0, .int 0, .int 0, .int 0, .int 0])] = List.replicate (i + 1) ride0 from List.replicate_succ'.symm]
      refine wp_dup (q := 54) d_Wd_init_53 rfl rfl ?_
      refine wp_callIN (q := 57) (mc := 0) (ms := 0) [] lk_Wd_27 (ro _ _ _) d_Wd_init_54 rfl rfl rfl (Nat.le_of_ble_eq_true rfl) (by first | exact (show 4 + i + 1 ≤ 16 by omega) | exact (show 90 + 13 * i + 13 ≤ 246 by omega)) (by first | exact (show 4 + i + 1 ≤ 16 by omega) | exact (show 90 + 13 * i + 13 ≤ 246 by omega)) ?_
      refine ok_Rd_init ?_
      refine wp_aast 4 (q := 58) (r := (RX5, TX5, 13)) (ci := 5) (vs := [.int 0, .int 0, .int 0, .int 0, .int 0, .int 0, .int 0, .int 0, .int 0, .int 0, .int 0, .int 0, .int 0]) rfl d_Wd_init_57 rfl ((rdZ (i := 4)).trans rfl) (rdRide hi2) rfl (by omega) (by decide) ((fdZ (i := 4)).trans (wst (i := i))) ?_
      refine wp_iinc (q := 61) (L2 := [(1, _), (0, _)]) d_Wd_init_58 rfl rfl (iinc_1) (by decide) rfl ?_
      refine wp_goto (tgt := 39) d_Wd_init_61 (by decide) ?_
      have h := ih
      exact h
  refine okX_of (L := [(0, _)]) (by decide) (Nat.le_of_ble_eq_true rfl) rfl ?_
  refine wp_aload_n (q := 1) d_Wd_init_0 rfl rfl ?_
  refine wp_objInit (q := 4) ko_Wd_3 ko_inst ko_code (RO0 ()) d_Wd_init_1 rfl (Nat.le_of_ble_eq_true rfl) ?_
  refine wp_aload_n (q := 5) d_Wd_init_4 rfl rfl ?_
  refine wp_bipush (q := 7) d_Wd_init_5 rfl bp_36 ?_
  refine wp_newa 0 (q := 9) (atype := .int) (ty := .int) (N' := 36) (a0 := (36, .inl (fun _ => 0))) rfl rfl rfl kw_ai d_Wd_init_7 rfl (fun cA => rfl) (by decide) (by decide) (Nat.le_of_ble_eq_true rfl) (Nat.le_of_ble_eq_true rfl) ?_
  rw [lnZ, apZ]
  refine wp_putF (q := 12) fl_Wd_9 (fun _ _ _ h => h.1 rfl) rfl d_Wd_init_9 rfl ((rdZ (i := 0)).trans rfl) (Nat.le_of_ble_eq_true rfl) rfl rfl (fdZ (i := 0)) ?_
  refine wp_aload_n (q := 13) d_Wd_init_12 rfl rfl ?_
  refine wp_bipush (q := 15) d_Wd_init_13 rfl bp_36 ?_
  refine wp_newa 0 (q := 17) (atype := .int) (ty := .int) (N' := 36) (a0 := (36, .inl (fun _ => 0))) rfl rfl rfl kw_ai d_Wd_init_15 rfl (fun cA => rfl) (by decide) (by decide) (Nat.le_of_ble_eq_true rfl) (Nat.le_of_ble_eq_true rfl) ?_
  rw [lnZ, apZ]
  refine wp_putF (q := 20) fl_Wd_15 (fun _ _ _ h => h.1 rfl) rfl d_Wd_init_17 rfl ((rdZ (i := 0)).trans rfl) (Nat.le_of_ble_eq_true rfl) rfl rfl (fdZ (i := 0)) ?_
  refine wp_aload_n (q := 21) d_Wd_init_20 rfl rfl ?_
  refine wp_bipush (q := 23) d_Wd_init_21 rfl bp_6 ?_
  refine wp_newa 0 (q := 25) (atype := .int) (ty := .int) (N' := 6) (a0 := (6, .inl (fun _ => 0))) rfl rfl rfl kw_ai d_Wd_init_23 rfl (fun cA => rfl) (by decide) (by decide) (Nat.le_of_ble_eq_true rfl) (Nat.le_of_ble_eq_true rfl) ?_
  rw [lnZ, apZ]
  refine wp_putF (q := 28) fl_Wd_18 (fun _ _ _ h => h.1 rfl) rfl d_Wd_init_25 rfl ((rdZ (i := 0)).trans rfl) (Nat.le_of_ble_eq_true rfl) rfl rfl (fdZ (i := 0)) ?_
  refine wp_aload_n (q := 29) d_Wd_init_28 rfl rfl ?_
  refine wp_bipush (q := 31) d_Wd_init_29 rfl bp_12 ?_
  refine wp_anewX 4 (q := 34) (N' := 12) (Cn := "FillAndGo$Ride") (fun _ _ _ h => h.2) (by decide) rfl rfl (gw 141 (by decide +kernel) (by decide +kernel)) d_Wd_init_31 rfl (by decide) (by decide) (Nat.le_of_ble_eq_true rfl) (Nat.le_of_ble_eq_true rfl) ?_
  rw [lnZ, apZ]
  refine wp_putF (q := 37) fl_Wd_23 (fun _ _ _ h => h.1 rfl) rfl d_Wd_init_34 rfl ((rdZ (i := 0)).trans rfl) (Nat.le_of_ble_eq_true rfl) rfl rfl (fdZ (i := 0)) ?_
  refine wp_iconst (q := 38) d_Wd_init_37 rfl ic_0 ?_
  refine wp_istore_n (q := 39) (L2 := [(1, _), (0, _)]) d_Wd_init_38 rfl (by decide) rfl ?_
  have h := lp 0 (Nat.zero_le _)
  rw [← rwN_0] at h
  exact h
theorem d_Tp_init_0 : decode M_Tp_init.2.1 0 = .ok (.aload_n 0, 1) := by decide +kernel
theorem d_Tp_init_1 : decode M_Tp_init.2.1 1 = .ok (.invokespecial 3, 3) := by decide +kernel
theorem d_Tp_init_4 : decode M_Tp_init.2.1 4 = .ok (.aload_n 0, 1) := by decide +kernel
theorem d_Tp_init_5 : decode M_Tp_init.2.1 5 = .ok (.sipush 160, 3) := by decide +kernel
theorem d_Tp_init_8 : decode M_Tp_init.2.1 8 = .ok (.newarray .byte, 2) := by decide +kernel
theorem d_Tp_init_10 : decode M_Tp_init.2.1 10 = .ok (.putfield 9, 3) := by decide +kernel
theorem d_Tp_init_13 : decode M_Tp_init.2.1 13 = .ok (.aload_n 0, 1) := by decide +kernel
theorem d_Tp_init_14 : decode M_Tp_init.2.1 14 = .ok (.bipush 8, 2) := by decide +kernel
theorem d_Tp_init_16 : decode M_Tp_init.2.1 16 = .ok (.anewarray 15, 3) := by decide +kernel
theorem d_Tp_init_19 : decode M_Tp_init.2.1 19 = .ok (.putfield 17, 3) := by decide +kernel
theorem d_Tp_init_22 : decode M_Tp_init.2.1 22 = .ok (.return_, 1) := by decide +kernel
set_option maxHeartbeats 4000000 in
set_option maxRecDepth 100000 in
theorem ok_Tp_init {D : xD} {N : Nat} {l : Launch} {d : Nat} {g0 : List va_E} {K : Option Value → List va_E → Prop} (hK : K none (g0 ++ [.inr (8, [.ref (N + (g0.length + 1)), .int 0, .int 0, .ref (N + (g0.length + 2)), .int 0]), bA D 160 (fun _ => 0), oA D 5 8 (fun _ => none)])) : OkX D N l (d + 1) M_Tp_init [.ref (N + g0.length)] (g0 ++ [.inr (8, [.null, .int 0, .int 0, .null, .int 0])]) 2 168 K := by
  refine okX_of (L := [(0, _)]) (by decide) (Nat.le_of_ble_eq_true rfl) rfl ?_
  refine wp_aload_n (q := 1) d_Tp_init_0 rfl rfl ?_
  refine wp_objInit (q := 4) ko_Tp_3 ko_inst ko_code (RO0 ()) d_Tp_init_1 rfl (Nat.le_of_ble_eq_true rfl) ?_
  refine wp_aload_n (q := 5) d_Tp_init_4 rfl rfl ?_
  refine wp_sipush (q := 8) d_Tp_init_5 rfl sp_160 ?_
  refine wp_newa 1 (q := 10) (atype := .byte) (ty := .byte) (N' := 160) (a0 := (160, .inl (fun _ => 0))) rfl rfl rfl kw_ab d_Tp_init_8 rfl (fun cA => rfl) (by decide) (by decide) (Nat.le_of_ble_eq_true rfl) (Nat.le_of_ble_eq_true rfl) ?_
  rw [lnZ, apZ]
  refine wp_putF (q := 13) fl_Tp_9 (fun _ _ _ h => h.1 rfl) rfl d_Tp_init_10 rfl ((rdZ (i := 0)).trans rfl) (Nat.le_of_ble_eq_true rfl) rfl rfl (fdZ (i := 0)) ?_
  refine wp_aload_n (q := 14) d_Tp_init_13 rfl rfl ?_
  refine wp_bipush (q := 16) d_Tp_init_14 rfl bp_8 ?_
  refine wp_anewX 5 (q := 19) (N' := 8) (Cn := "FillAndGo$Line") (fun _ _ _ h => h.2) (by decide) rfl rfl (gw 268 (by decide +kernel) (by decide +kernel)) d_Tp_init_16 rfl (by decide) (by decide) (Nat.le_of_ble_eq_true rfl) (Nat.le_of_ble_eq_true rfl) ?_
  rw [lnZ, apZ]
  refine wp_putF (q := 22) fl_Tp_17 (fun _ _ _ h => h.1 rfl) rfl d_Tp_init_19 rfl ((rdZ (i := 0)).trans rfl) (Nat.le_of_ble_eq_true rfl) rfl rfl (fdZ (i := 0)) ?_
  refine wp_vret d_Tp_init_22 rfl (Nat.le_refl _) (Nat.le_refl _) ?_
  exact hK
