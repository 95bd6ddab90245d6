theorem ka_nat : Cond.native arraycopyName ∈ lw_good := gw 787 (by decide +kernel) (by decide +kernel)
theorem ka_sta : Cond.static arraycopyName ∈ lw_good := gw 786 (by decide +kernel) (by decide +kernel)
theorem ka_ini : Cond.initialized "java/lang/System" ∈ lw_good := gw 19 (by decide +kernel) (by decide +kernel)
theorem ka_FG_307 : Cond.methodLink RX11 307 arraycopyName ∈ lw_good := gw 910 (by decide +kernel) (by decide +kernel)
theorem ka_Wd_44 : Cond.methodLink RX10 44 arraycopyName ∈ lw_good := gw 785 (by decide +kernel) (by decide +kernel)
section WX
variable {D : xD} {N : Nat} {l : Launch} {E : EX} {M : MD} {R : Room} {Qf : QF} {k n pc : Nat} {L : List (Nat × Value)} {st : List Value} {g : List va_E}
set_option maxHeartbeats 1000000 in
theorem wp_copy {q idx i0 i1 n0 n1 sp dp cn : Nat} {f0 f1 : Nat → Int32} {g2 : List va_E} (hw : Cond.methodLink M.1.cls idx arraycopyName ∈ lw_good) (hR : RO R 0) (hd : decode M.2.1 pc = .ok (.invokestatic idx, 3)) (hq : pc + 3 = q) (hcat : (st.map fun v => v.category).sum ≤ 4) (hr0 : g[i0]? = some (iA D n0 f0)) (hr1 : g[i1]? = some (iA D n1 f1)) (h4 : sp + cn ≤ n0) (h5 : dp + cn ≤ n1) (hb0 : n0 < 2147483648) (hb1 : n1 < 2147483648) (hg : g.set i1 (iA D n1 (va_cpy f0 f1 sp dp cn)) = g2) (h : Wp D N l E M R Qf k n q L st g2) : Wp D N l E M R Qf k n pc L (.int (nI cn) :: .int (nI dp) :: .ref (N + i1) :: .int (nI sp) :: .ref (N + i0) :: st) g := by
  subst hq
  subst hg
  intro p e s m args below meth c C H locs ls hH hS hl
  have hts := C.2.2.2.2.1
  have hK := C.2.2.2.2.2.1.1
  have e1 : (nI sp).toNatClampNeg = sp := nI_clamp (by omega)
  have e2 : (nI dp).toNatClampNeg = dp := nI_clamp (by omega)
  have e3 : (nI cn).toNatClampNeg = cn := nI_clamp (by omega)
  have t1 : (nI sp).toInt = (sp : Int) := nI_toInt (by omega)
  have t2 : (nI dp).toInt = (dp : Int) := nI_toInt (by omega)
  have t3 : (nI cn).toInt = (cn : Int) := nI_toInt (by omega)
  have h9 := hR.2
  have h8 : nativeFrameWords "java/lang/System" "arraycopy" 5 + 11 ≤ 33 := by decide
  intro T hT X
  have hc0 : H[N + i0]? = some (vp_cell (D.2.1 0) (n0, .inl f0)) := hH.2 i0 _ hr0
  have hc1 : H[N + i1]? = some (vp_cell (D.2.1 0) (n1, .inl f1)) := hH.2 i1 _ hr1
  obtain ⟨-, k0, hk0, cm0, hkk0⟩ := (hK.2 0 _ rfl).1 n0 (fun j => .int (f0 j))
  obtain ⟨-, k1, hk1, cm1, hkk1⟩ := (hK.2 0 _ rfl).1 n1 (fun j => .int (f1 j))
  obtain ⟨vm', X', step⟩ := X.arraycopy C.1 C.2.2.2.1 (hts _ hw) (hts _ ka_nat) (hts _ ka_sta) (hts _ ka_ini) (src := N + i0) (dst := N + i1) (cs := vp_cell (D.2.1 0) (n0, .inl f0)) (cd := vp_cell (D.2.1 0) (n1, .inl f1)) (srcPos := nI sp) (destPos := nI dp) (n := nI cn) (by rw [hT]; exact hc0) (by rw [hT]; exact hc1)
    (fun _ h => by cases h) (fun _ h => by cases h) (fun h => by cases h) (fun h => by cases h) hk0 hk1 hkk0 hkk1 (by simp [refKind]) (nI_pos (by omega)) (nI_pos (by omega)) (nI_pos (by omega))
    (by rw [t1, t3]; show ¬ _ > ((arrV (D.2.1 0) n0 (fun j => .int (f0 j))).slots.size : Int); rw [arrV_size]; omega)
    (by rw [t2, t3]; show ¬ _ > ((arrV (D.2.1 0) n1 (fun j => .int (f1 j))).slots.size : Int); rw [arrV_size]; omega)
    (fun vm₁ _ i hi => by
      rw [e3] at hi
      rw [e1]
      have e : (vp_cell (D.2.1 0) (n0, .inl f0)).slots.getD (sp + i) .null = .int (f0 (sp + i)) := by
        show (arrV (D.2.1 0) n0 (fun j => .int (f0 j))).slots.getD _ _ = _
        rw [Array.getD_eq_getD_getElem?, arrV_read _ _ (by omega)]
        rfl
      refine ⟨?_, ?_⟩
      · rw [e]; rfl
      · rw [e]; exact trivial)
    (g := F0 m pc ls (.int (nI cn) :: .int (nI dp) :: .ref (N + i1) :: .int (nI sp) :: .ref (N + i0) :: st)) rfl (by rw [C.2.2.1]; exact hl.1) (rest := st) rfl (by rw [C.2.1]; exact hd) hR.1 (by show 2 * 0 + _ + _ ≤ _; omega)
  have ec : copied (vp_cell (D.2.1 0) (n0, .inl f0)) (vp_cell (D.2.1 0) (n1, .inl f1)) (nI sp) (nI dp) (nI cn) = vp_cell (D.2.1 0) (n1, .inl (va_cpy f0 f1 sp dp cn)) := by
    unfold copied
    have := va_copied (fun z => Value.int z) (D.2.1 0) (D.2.1 0) (n0 := n0) (n1 := n1) (sp := sp) (dp := dp) (n := cn) f0 f1 h4
    first | exact this | (rw [e1, e2, e3]; exact this)
  rw [ec] at X' step
  have hlt : N + i1 < H.size := (Array.getElem?_eq_some_iff.mp hc1).1
  have hheap : ((T.setVm vm').setCell (N + i1) (vp_cell (D.2.1 0) (n1, .inl (va_cpy f0 f1 sp dp cn)))).heap = H.setIfInBounds (N + i1) (vp_cell (D.2.1 0) (n1, .inl (va_cpy f0 f1 sp dp cn))) := by rw [← hT]; rfl
  have oq : ∀ q : Nat, q ≠ N + i1 → (H.setIfInBounds (N + i1) (vp_cell (D.2.1 0) (n1, .inl (va_cpy f0 f1 sp dp cn))))[q]? = H[q]? := fun q hq => by simp [Array.getElem?_setIfInBounds, Ne.symm hq]
  obtain ⟨t, a1, b1⟩ := h p e s m args below meth c C _ _ ls (hH.set hr1 (show (H.setIfInBounds (N + i1) _)[N + i1]? = some _ by simp [Array.getElem?_setIfInBounds, hlt]) (by simp) oq) ⟨by simp; exact hS.1, fun q g1 g2 => by
      rw [oq q (fun e => g2 (by rw [e]; exact Nat.le_add_right N i1))]
      exact hS.2.1 q g1 g2, fun q hq => by
      rcases List.mem_append.mp hq with h | h
      · exact hS.2.2 q h
      · obtain ⟨z, -, hz⟩ := List.mem_map.mp h
        rw [← hz]
        exact Nat.le_add_right N i1⟩ hl _ hheap X'
  exact ⟨t, step t a1, b1⟩
end WX
