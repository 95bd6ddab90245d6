section ST
variable {s : State} {b : Nat}
theorem st_cls (hg : ∀ w ∈ lw_good, w.before (#[Value.ref b] : Array Value) s = true) : ∃ (dC : Nat → ClassId) (dI : Nat → Nat → Nat), ∀ (k : Nat) (q : vw_C), classes[k]? = some q → u_Kn s q.1 q.2.1 q.2.2 (dC k) (dI k) := by
  obtain ⟨c0, i0, h0⟩ := u_known (C := RX0) (T := TX0) (N := 0) (n := 0) hg inX0 (hg _ (gw 61 (by decide +kernel) (by decide +kernel)))
  obtain ⟨c1, i1, h1⟩ := u_known (C := RX1) (T := TX1) (N := 0) (n := 0) hg inX1 (hg _ (gw 54 (by decide +kernel) (by decide +kernel)))
  obtain ⟨c2, i2, h2⟩ := u_known (C := RX2) (T := TX2) (N := 0) (n := 0) hg inX2 (hg _ (gw 68 (by decide +kernel) (by decide +kernel)))
  obtain ⟨c3, i3, h3⟩ := u_known (C := RX3) (T := TX3) (N := 0) (n := 0) hg inX3 (hg _ (gw 75 (by decide +kernel) (by decide +kernel)))
  obtain ⟨c4, i4, h4⟩ := u_known (C := RX4) (T := TX4) (N := 6) (n := 6) hg inX4 (hg _ (gw 501 (by decide +kernel) (by decide +kernel)))
  obtain ⟨c5, i5, h5⟩ := u_known (C := RX5) (T := TX5) (N := 13) (n := 13) hg inX5 (hg _ (gw 143 (by decide +kernel) (by decide +kernel)))
  obtain ⟨c6, i6, h6⟩ := u_known (C := RX6) (T := TX6) (N := 0) (n := 0) hg inX6 (hg _ (gw 39 (by decide +kernel) (by decide +kernel)))
  obtain ⟨c7, i7, h7⟩ := u_known (C := RX7) (T := TX7) (N := 0) (n := 0) hg inX7 (hg _ (gw 47 (by decide +kernel) (by decide +kernel)))
  obtain ⟨c8, i8, h8⟩ := u_known (C := RX8) (T := TX8) (N := 5) (n := 5) hg inX8 (hg _ (gw 263 (by decide +kernel) (by decide +kernel)))
  obtain ⟨c9, i9, h9⟩ := u_known (C := RX9) (T := TX9) (N := 15) (n := 15) hg inX9 (hg _ (gw 30 (by decide +kernel) (by decide +kernel)))
  obtain ⟨c10, i10, h10⟩ := u_known (C := RX10) (T := TX10) (N := 9) (n := 9) hg inX10 (hg _ (gw 136 (by decide +kernel) (by decide +kernel)))
  obtain ⟨c11, i11, h11⟩ := u_known (C := RX11) (T := TX11) (N := 18) (n := 18) hg inX11 (hg _ (gw 22 (by decide +kernel) (by decide +kernel)))
  obtain ⟨c12, i12, h12⟩ := u_known (C := RX12) (T := TX12) (N := 50) (n := 50) hg inX12 (hg _ (gw 945 (by decide +kernel) (by decide +kernel)))
  refine ⟨fun k => [c0, c1, c2, c3, c4, c5, c6, c7, c8, c9, c10, c11, c12].getD k c0, fun k => [i0, i1, i2, i3, i4, i5, i6, i7, i8, i9, i10, i11, i12].getD k i0, ?_⟩
  intro k q hq
  match k, hq with
  | 0, hq => cases hq; exact h0
  | 1, hq => cases hq; exact h1
  | 2, hq => cases hq; exact h2
  | 3, hq => cases hq; exact h3
  | 4, hq => cases hq; exact h4
  | 5, hq => cases hq; exact h5
  | 6, hq => cases hq; exact h6
  | 7, hq => cases hq; exact h7
  | 8, hq => cases hq; exact h8
  | 9, hq => cases hq; exact h9
  | 10, hq => cases hq; exact h10
  | 11, hq => cases hq; exact h11
  | 12, hq => cases hq; exact h12
  | k + 13, hq => simp [classes] at hq
theorem st_ac {ty : FieldType} {i : Nat} (ht : ∀ w ∈ tables_1, w.before (#[Value.ref b] : Array Value) s = true) (h : tables_1[i]? = some (.arrayClass ty)) : ∃ cA, ArrOfT s cA ty ∧ s.vm.findClass ("[" ++ ty.toString) = some cA := by
  obtain ⟨cA, kA, comp, f, hk, hd⟩ := Cond.arrayClass_spec (ht _ (List.mem_of_getElem? h))
  exact ⟨cA, fun n z => ⟨fun k h => (by cases h), kA, hk, comp, hd⟩, f⟩
theorem st_ao {C : String} {i : Nat} (ht : ∀ w ∈ tables_1, w.before (#[Value.ref b] : Array Value) s = true) (h : tables_1[i]? = some (.arrayOver (.object C))) : ∃ cA, ArrOfT s cA (.object C) ∧ va_RA s cA (.object C) ∧ va_AO C s := by
  have hw := ht _ (List.mem_of_getElem? h)
  obtain ⟨comp, cA, kA, f1, -, hk, hd, f2⟩ := Cond.arrayOver_spec hw
  exact ⟨cA, fun n z => ⟨fun k h => (by cases h), kA, hk, comp, hd⟩, ⟨kA, comp, hk, hd, f1, f2⟩, va_AO.of hw⟩
theorem st_aa {i : Nat} (ht : ∀ w ∈ tables_1, w.before (#[Value.ref b] : Array Value) s = true) (h : tables_1[i]? = some (.arrayOver (.array .int))) : ∃ cA, ArrOfT s cA (.array .int) ∧ s.vm.findClass "[[I" = some cA := by
  obtain ⟨cI, cA, kA, f1, hk, hd, f2⟩ := ao_spec (ht _ (List.mem_of_getElem? h))
  exact ⟨cA, fun n z => ⟨fun k h => (by cases h), kA, hk, cI, hd⟩, f2⟩
theorem nI_str : "[" ++ FieldType.int.toString = "[I" := by decide +kernel
theorem nA_str : "[" ++ (FieldType.array FieldType.int).toString = "[[I" := by decide +kernel
theorem st_nest (ht : ∀ w ∈ tables_1, w.before (#[Value.ref b] : Array Value) s = true) : ∀ w ∈ nestw, va_Nw w s := by
  intro w hw
  obtain ⟨h1, h2⟩ := List.mem_filter.mp hw
  have h := ht w h1
  cases w <;> first | exact va_Nw.of rfl h | cases h2
theorem st_cast {C T : String} {i : Nat} {cC cT : ClassId} (ht : ∀ w ∈ tables_1, w.before (#[Value.ref b] : Array Value) s = true) (h : tables_1[i]? = some (.castable C T)) (fC : s.vm.findClass C = some cC) (fT : s.vm.findClass T = some cT) : s.vm.assignable cC cT = true := by
  obtain ⟨c, t, f1, f2, f3⟩ := Cond.castable_spec (ht _ (List.mem_of_getElem? h))
  obtain rfl : c = cC := Option.some.inj (f1.symm.trans fC)
  obtain rfl : t = cT := Option.some.inj (f2.symm.trans fT)
  exact f3
/-- the two texts of the tape -/
def txTm (i : Nat) : Term := if i = 0 then .string "FillAndGo$Tape" 39 else .string "FillAndGo$Tape" 56
abbrev gvW : Cond := Jvm.Cond.and given_1 narrow_1
theorem st_by0 (hf : ∀ w ∈ flatC gvW, w.before (#[Value.ref b] : Array Value) s = true) : ∀ j : Nat, j < 13 → (Cond.eq (.elem (.field (.string "FillAndGo$Tape" 39) "java/lang/String" "value" "[B") (.int (Int32.ofNat j))) (.int ((txtB.getD 0 []).getD j 0))).before (#[Value.ref b] : Array Value) s = true := by
  intro j hj
  rcases (show j = 0 ∨ j = 1 ∨ j = 2 ∨ j = 3 ∨ j = 4 ∨ j = 5 ∨ j = 6 ∨ j = 7 ∨ j = 8 ∨ j = 9 ∨ j = 10 ∨ j = 11 ∨ j = 12 by omega) with rfl | rfl | rfl | rfl | rfl | rfl | rfl | rfl | rfl | rfl | rfl | rfl | rfl
  · exact hf (Cond.eq (.elem (.field (.string "FillAndGo$Tape" 39) "java/lang/String" "value" "[B") (.int 0)) (.int 103)) (by decide +kernel)
  · exact hf (Cond.eq (.elem (.field (.string "FillAndGo$Tape" 39) "java/lang/String" "value" "[B") (.int 1)) (.int 111)) (by decide +kernel)
  · exact hf (Cond.eq (.elem (.field (.string "FillAndGo$Tape" 39) "java/lang/String" "value" "[B") (.int 2)) (.int 32)) (by decide +kernel)
  · exact hf (Cond.eq (.elem (.field (.string "FillAndGo$Tape" 39) "java/lang/String" "value" "[B") (.int 3)) (.int 102)) (by decide +kernel)
  · exact hf (Cond.eq (.elem (.field (.string "FillAndGo$Tape" 39) "java/lang/String" "value" "[B") (.int 4)) (.int 97)) (by decide +kernel)
  · exact hf (Cond.eq (.elem (.field (.string "FillAndGo$Tape" 39) "java/lang/String" "value" "[B") (.int 5)) (.int 114)) (by decide +kernel)
  · exact hf (Cond.eq (.elem (.field (.string "FillAndGo$Tape" 39) "java/lang/String" "value" "[B") (.int 6)) (.int 101)) (by decide +kernel)
  · exact hf (Cond.eq (.elem (.field (.string "FillAndGo$Tape" 39) "java/lang/String" "value" "[B") (.int 7)) (.int 32)) (by decide +kernel)
  · exact hf (Cond.eq (.elem (.field (.string "FillAndGo$Tape" 39) "java/lang/String" "value" "[B") (.int 8)) (.int 107)) (by decide +kernel)
  · exact hf (Cond.eq (.elem (.field (.string "FillAndGo$Tape" 39) "java/lang/String" "value" "[B") (.int 9)) (.int 101)) (by decide +kernel)
  · exact hf (Cond.eq (.elem (.field (.string "FillAndGo$Tape" 39) "java/lang/String" "value" "[B") (.int 10)) (.int 101)) (by decide +kernel)
  · exact hf (Cond.eq (.elem (.field (.string "FillAndGo$Tape" 39) "java/lang/String" "value" "[B") (.int 11)) (.int 112)) (by decide +kernel)
  · exact hf (Cond.eq (.elem (.field (.string "FillAndGo$Tape" 39) "java/lang/String" "value" "[B") (.int 12)) (.int 32)) (by decide +kernel)
theorem st_by1 (hf : ∀ w ∈ flatC gvW, w.before (#[Value.ref b] : Array Value) s = true) : ∀ j : Nat, j < 47 → (Cond.eq (.elem (.field (.string "FillAndGo$Tape" 56) "java/lang/String" "value" "[B") (.int (Int32.ofNat j))) (.int ((txtB.getD 1 []).getD j 0))).before (#[Value.ref b] : Array Value) s = true := by
  intro j hj
  rcases (show j = 0 ∨ j = 1 ∨ j = 2 ∨ j = 3 ∨ j = 4 ∨ j = 5 ∨ j = 6 ∨ j = 7 ∨ j = 8 ∨ j = 9 ∨ j = 10 ∨ j = 11 ∨ j = 12 ∨ j = 13 ∨ j = 14 ∨ j = 15 ∨ j = 16 ∨ j = 17 ∨ j = 18 ∨ j = 19 ∨ j = 20 ∨ j = 21 ∨ j = 22 ∨ j = 23 ∨ j = 24 ∨ j = 25 ∨ j = 26 ∨ j = 27 ∨ j = 28 ∨ j = 29 ∨ j = 30 ∨ j = 31 ∨ j = 32 ∨ j = 33 ∨ j = 34 ∨ j = 35 ∨ j = 36 ∨ j = 37 ∨ j = 38 ∨ j = 39 ∨ j = 40 ∨ j = 41 ∨ j = 42 ∨ j = 43 ∨ j = 44 ∨ j = 45 ∨ j = 46 by omega) with rfl | rfl | rfl | rfl | rfl | rfl | rfl | rfl | rfl | rfl | rfl | rfl | rfl | rfl | rfl | rfl | rfl | rfl | rfl | rfl | rfl | rfl | rfl | rfl | rfl | rfl | rfl | rfl | rfl | rfl | rfl | rfl | rfl | rfl | rfl | rfl | rfl | rfl | rfl | rfl | rfl | rfl | rfl | rfl | rfl | rfl | rfl
  · exact hf (Cond.eq (.elem (.field (.string "FillAndGo$Tape" 56) "java/lang/String" "value" "[B") (.int 0)) (.int 119)) (by decide +kernel)
  · exact hf (Cond.eq (.elem (.field (.string "FillAndGo$Tape" 56) "java/lang/String" "value" "[B") (.int 1)) (.int 97)) (by decide +kernel)
  · exact hf (Cond.eq (.elem (.field (.string "FillAndGo$Tape" 56) "java/lang/String" "value" "[B") (.int 2)) (.int 105)) (by decide +kernel)
  · exact hf (Cond.eq (.elem (.field (.string "FillAndGo$Tape" 56) "java/lang/String" "value" "[B") (.int 3)) (.int 116)) (by decide +kernel)
  · exact hf (Cond.eq (.elem (.field (.string "FillAndGo$Tape" 56) "java/lang/String" "value" "[B") (.int 4)) (.int 101)) (by decide +kernel)
  · exact hf (Cond.eq (.elem (.field (.string "FillAndGo$Tape" 56) "java/lang/String" "value" "[B") (.int 5)) (.int 100)) (by decide +kernel)
  · exact hf (Cond.eq (.elem (.field (.string "FillAndGo$Tape" 56) "java/lang/String" "value" "[B") (.int 6)) (.int 32)) (by decide +kernel)
  · exact hf (Cond.eq (.elem (.field (.string "FillAndGo$Tape" 56) "java/lang/String" "value" "[B") (.int 7)) (.int 115)) (by decide +kernel)
  · exact hf (Cond.eq (.elem (.field (.string "FillAndGo$Tape" 56) "java/lang/String" "value" "[B") (.int 8)) (.int 111)) (by decide +kernel)
  · exact hf (Cond.eq (.elem (.field (.string "FillAndGo$Tape" 56) "java/lang/String" "value" "[B") (.int 9)) (.int 108)) (by decide +kernel)
  · exact hf (Cond.eq (.elem (.field (.string "FillAndGo$Tape" 56) "java/lang/String" "value" "[B") (.int 10)) (.int 100)) (by decide +kernel)
  · exact hf (Cond.eq (.elem (.field (.string "FillAndGo$Tape" 56) "java/lang/String" "value" "[B") (.int 11)) (.int 32)) (by decide +kernel)
  · exact hf (Cond.eq (.elem (.field (.string "FillAndGo$Tape" 56) "java/lang/String" "value" "[B") (.int 12)) (.int 114)) (by decide +kernel)
  · exact hf (Cond.eq (.elem (.field (.string "FillAndGo$Tape" 56) "java/lang/String" "value" "[B") (.int 13)) (.int 97)) (by decide +kernel)
  · exact hf (Cond.eq (.elem (.field (.string "FillAndGo$Tape" 56) "java/lang/String" "value" "[B") (.int 14)) (.int 105)) (by decide +kernel)
  · exact hf (Cond.eq (.elem (.field (.string "FillAndGo$Tape" 56) "java/lang/String" "value" "[B") (.int 15)) (.int 110)) (by decide +kernel)
  · exact hf (Cond.eq (.elem (.field (.string "FillAndGo$Tape" 56) "java/lang/String" "value" "[B") (.int 16)) (.int 32)) (by decide +kernel)
  · exact hf (Cond.eq (.elem (.field (.string "FillAndGo$Tape" 56) "java/lang/String" "value" "[B") (.int 17)) (.int 104)) (by decide +kernel)
  · exact hf (Cond.eq (.elem (.field (.string "FillAndGo$Tape" 56) "java/lang/String" "value" "[B") (.int 18)) (.int 111)) (by decide +kernel)
  · exact hf (Cond.eq (.elem (.field (.string "FillAndGo$Tape" 56) "java/lang/String" "value" "[B") (.int 19)) (.int 117)) (by decide +kernel)
  · exact hf (Cond.eq (.elem (.field (.string "FillAndGo$Tape" 56) "java/lang/String" "value" "[B") (.int 20)) (.int 114)) (by decide +kernel)
  · exact hf (Cond.eq (.elem (.field (.string "FillAndGo$Tape" 56) "java/lang/String" "value" "[B") (.int 21)) (.int 32)) (by decide +kernel)
  · exact hf (Cond.eq (.elem (.field (.string "FillAndGo$Tape" 56) "java/lang/String" "value" "[B") (.int 22)) (.int 113)) (by decide +kernel)
  · exact hf (Cond.eq (.elem (.field (.string "FillAndGo$Tape" 56) "java/lang/String" "value" "[B") (.int 23)) (.int 117)) (by decide +kernel)
  · exact hf (Cond.eq (.elem (.field (.string "FillAndGo$Tape" 56) "java/lang/String" "value" "[B") (.int 24)) (.int 101)) (by decide +kernel)
  · exact hf (Cond.eq (.elem (.field (.string "FillAndGo$Tape" 56) "java/lang/String" "value" "[B") (.int 25)) (.int 117)) (by decide +kernel)
  · exact hf (Cond.eq (.elem (.field (.string "FillAndGo$Tape" 56) "java/lang/String" "value" "[B") (.int 26)) (.int 101)) (by decide +kernel)
  · exact hf (Cond.eq (.elem (.field (.string "FillAndGo$Tape" 56) "java/lang/String" "value" "[B") (.int 27)) (.int 32)) (by decide +kernel)
  · exact hf (Cond.eq (.elem (.field (.string "FillAndGo$Tape" 56) "java/lang/String" "value" "[B") (.int 28)) (.int 115)) (by decide +kernel)
  · exact hf (Cond.eq (.elem (.field (.string "FillAndGo$Tape" 56) "java/lang/String" "value" "[B") (.int 29)) (.int 116)) (by decide +kernel)
  · exact hf (Cond.eq (.elem (.field (.string "FillAndGo$Tape" 56) "java/lang/String" "value" "[B") (.int 30)) (.int 97)) (by decide +kernel)
  · exact hf (Cond.eq (.elem (.field (.string "FillAndGo$Tape" 56) "java/lang/String" "value" "[B") (.int 31)) (.int 103)) (by decide +kernel)
  · exact hf (Cond.eq (.elem (.field (.string "FillAndGo$Tape" 56) "java/lang/String" "value" "[B") (.int 32)) (.int 101)) (by decide +kernel)
  · exact hf (Cond.eq (.elem (.field (.string "FillAndGo$Tape" 56) "java/lang/String" "value" "[B") (.int 33)) (.int 32)) (by decide +kernel)
  · exact hf (Cond.eq (.elem (.field (.string "FillAndGo$Tape" 56) "java/lang/String" "value" "[B") (.int 34)) (.int 111)) (by decide +kernel)
  · exact hf (Cond.eq (.elem (.field (.string "FillAndGo$Tape" 56) "java/lang/String" "value" "[B") (.int 35)) (.int 119)) (by decide +kernel)
  · exact hf (Cond.eq (.elem (.field (.string "FillAndGo$Tape" 56) "java/lang/String" "value" "[B") (.int 36)) (.int 110)) (by decide +kernel)
  · exact hf (Cond.eq (.elem (.field (.string "FillAndGo$Tape" 56) "java/lang/String" "value" "[B") (.int 37)) (.int 101)) (by decide +kernel)
  · exact hf (Cond.eq (.elem (.field (.string "FillAndGo$Tape" 56) "java/lang/String" "value" "[B") (.int 38)) (.int 114)) (by decide +kernel)
  · exact hf (Cond.eq (.elem (.field (.string "FillAndGo$Tape" 56) "java/lang/String" "value" "[B") (.int 39)) (.int 32)) (by decide +kernel)
  · exact hf (Cond.eq (.elem (.field (.string "FillAndGo$Tape" 56) "java/lang/String" "value" "[B") (.int 40)) (.int 101)) (by decide +kernel)
  · exact hf (Cond.eq (.elem (.field (.string "FillAndGo$Tape" 56) "java/lang/String" "value" "[B") (.int 41)) (.int 97)) (by decide +kernel)
  · exact hf (Cond.eq (.elem (.field (.string "FillAndGo$Tape" 56) "java/lang/String" "value" "[B") (.int 42)) (.int 114)) (by decide +kernel)
  · exact hf (Cond.eq (.elem (.field (.string "FillAndGo$Tape" 56) "java/lang/String" "value" "[B") (.int 43)) (.int 110)) (by decide +kernel)
  · exact hf (Cond.eq (.elem (.field (.string "FillAndGo$Tape" 56) "java/lang/String" "value" "[B") (.int 44)) (.int 101)) (by decide +kernel)
  · exact hf (Cond.eq (.elem (.field (.string "FillAndGo$Tape" 56) "java/lang/String" "value" "[B") (.int 45)) (.int 100)) (by decide +kernel)
  · exact hf (Cond.eq (.elem (.field (.string "FillAndGo$Tape" 56) "java/lang/String" "value" "[B") (.int 46)) (.int 32)) (by decide +kernel)
theorem st_txt (hf : ∀ w ∈ flatC gvW, w.before (#[Value.ref b] : Array Value) s = true) (hA : ∀ a : Nat, a < s.heap.size → ¬ fr s.heap.size a) : ∃ adK adV : Nat → Nat, vk_S 2 txtLen txtB adK adV (fr s.heap.size) s s.heap ∧ ∀ i : Nat, i < 2 → (txTm i).eval (#[Value.ref b] : Array Value) s none [] s = some (.ref (adK i)) := by
  refine vk_Sof (tm := txTm) (fun i hi => by
    rcases (show i = 0 ∨ i = 1 by omega) with rfl | rfl
    · decide
    · decide) (fun i hi => by
    rcases (show i = 0 ∨ i = 1 by omega) with rfl | rfl
    · exact hf (Cond.exactly (.string "FillAndGo$Tape" 39) "java/lang/String") (by decide +kernel)
    · exact hf (Cond.exactly (.string "FillAndGo$Tape" 56) "java/lang/String") (by decide +kernel)) (fun i hi => by
    rcases (show i = 0 ∨ i = 1 by omega) with rfl | rfl
    · exact hf (Cond.eq (.field (.string "FillAndGo$Tape" 39) "java/lang/String" "coder" "B") (.int 0)) (by decide +kernel)
    · exact hf (Cond.eq (.field (.string "FillAndGo$Tape" 56) "java/lang/String" "coder" "B") (.int 0)) (by decide +kernel)) (fun i hi => by
    rcases (show i = 0 ∨ i = 1 by omega) with rfl | rfl
    · exact hf (Cond.arrayOf (.field (.string "FillAndGo$Tape" 39) "java/lang/String" "value" "[B") .byte) (by decide +kernel)
    · exact hf (Cond.arrayOf (.field (.string "FillAndGo$Tape" 56) "java/lang/String" "value" "[B") .byte) (by decide +kernel)) (fun i hi => by
    rcases (show i = 0 ∨ i = 1 by omega) with rfl | rfl
    · exact hf (Cond.eq (.length (.field (.string "FillAndGo$Tape" 39) "java/lang/String" "value" "[B")) (.int 13)) (by decide +kernel)
    · exact hf (Cond.eq (.length (.field (.string "FillAndGo$Tape" 56) "java/lang/String" "value" "[B")) (.int 47)) (by decide +kernel)) (fun i hi => by
    rcases (show i = 0 ∨ i = 1 by omega) with rfl | rfl
    · exact st_by0 hf
    · exact st_by1 hf) ?_ hA
  intro i j hi hj hne
  have hw := hf (Cond.not (Cond.eq (.string "FillAndGo$Tape" 39) (.string "FillAndGo$Tape" 56))) (by decide +kernel)
  by_cases h0 : i = 0
  · subst h0
    rw [show j = 1 by omega]
    exact Or.inl hw
  · rw [show i = 1 by omega, show j = 0 by omega]
    exact Or.inr hw
theorem st_plain (hf : ∀ w ∈ flatC gvW, w.before (#[Value.ref b] : Array Value) s = true) (hA : ∀ a : Nat, a < s.heap.size → ¬ fr s.heap.size a) : ∃ t : Nat, (Term.static "FillAndGo" "PLAIN" "[I").eval (#[Value.ref b] : Array Value) s none [] s = some (.ref t) ∧ va_T .int t 3 (fun j => .int (plainI j)) (fr s.heap.size) s s.heap := by
  refine va_Tof (by decide) (hf (Cond.arrayOf (.static "FillAndGo" "PLAIN" "[I") .int) (by decide +kernel)) (va_eqt (hf (Cond.eq (.length (.static "FillAndGo" "PLAIN" "[I")) (.int 3)) (by decide +kernel))) ?_ hA
  intro j hj
  rcases (show j = 0 ∨ j = 1 ∨ j = 2 by omega) with rfl | rfl | rfl
  · exact va_eqt (hf (Cond.eq (.elem (.static "FillAndGo" "PLAIN" "[I") (.int 0)) (.int 100)) (by decide +kernel))
  · exact va_eqt (hf (Cond.eq (.elem (.static "FillAndGo" "PLAIN" "[I") (.int 1)) (.int 20)) (by decide +kernel))
  · exact va_eqt (hf (Cond.eq (.elem (.static "FillAndGo" "PLAIN" "[I") (.int 2)) (.int 30)) (by decide +kernel))
end ST
set_option maxHeartbeats 4000000 in
set_option maxRecDepth 100000 in
theorem whole_start {p : Program} {e : Env} {s : State} {m : MethodId} {below : List Frame} {meth : Method} {c : Code} (l : Launch) {b L : Nat} {xs : Nat → Int32} (hL : L ≤ 3072) (C0 : lw_At p s m meth c b L xs) : W p l e room_1 s m #[Value.ref b] below meth c s.heap [] 0 0 (lw_Z below #[Value.ref b] s) (entryFrame m ([Value.ref b] : List Value).toArray 4) := by
  obtain ⟨hx, hb, hr, hml, hown, hts, hX, hbl, hlocks, hgv⟩ := C0
  have hA : ∀ a : Nat, a < s.heap.size → ¬ fr s.heap.size a := fun a h1 (h2 : s.heap.size ≤ a) => by omega
  have hg : ∀ w ∈ lw_good, w.before (#[Value.ref b] : Array Value) s = true := fun w hw => hts w (List.mem_filter.mp hw).1
  have ht : ∀ w ∈ tables_1, w.before (#[Value.ref b] : Array Value) s = true := fun w hw => hts w (List.mem_append_right _ hw)
  have hf : ∀ w ∈ flatC gvW, w.before (#[Value.ref b] : Array Value) s = true := flat_of_before _ hgv
  obtain ⟨dC, dI, hcl⟩ := st_cls hg
  obtain ⟨a0, r0, f0⟩ := st_ac (ty := .int) (i := 45) ht (by decide +kernel)
  obtain ⟨a1, r1, f1⟩ := st_ac (ty := .byte) (i := 289) ht (by decide +kernel)
  obtain ⟨a2, r2, f2⟩ := st_ac (ty := .long) (i := 1113) ht (by decide +kernel)
  obtain ⟨a3, r3, f3⟩ := st_ac (ty := .boolean) (i := 1112) ht (by decide +kernel)
  obtain ⟨a4, r4, f4, o4⟩ := st_ao (C := "FillAndGo$Ride") (i := 142) ht (by decide +kernel)
  obtain ⟨a5, r5, f5, o5⟩ := st_ao (C := "FillAndGo$Line") (i := 36) ht (by decide +kernel)
  obtain ⟨a6, r6, f6, o6⟩ := st_ao (C := "FillAndGo$Run") (i := 38) ht (by decide +kernel)
  obtain ⟨a7, r7, f7⟩ := st_aa (i := 291) ht (by decide +kernel)
  obtain ⟨t, hp1, hp2⟩ := st_plain hf hA
  obtain ⟨adK, adV, hS1, hS2⟩ := st_txt hf hA
  obtain ⟨D, hD⟩ : ∃ D : xD, D = ((dC, dI), (fun k => [a0, a1, a2, a3, a4, a5, a6, a7].getD k a0), (t, adK, adV)) := ⟨_, rfl⟩
  have hK : xK D s.heap.size s := by
    rw [hD]
    refine ⟨⟨hcl, fun k q hq => ?_⟩, st_nest ht, ⟨va_Zref (ht _ (List.mem_of_getElem? (i := 573) (by decide +kernel))) (ht _ (List.mem_of_getElem? (i := 1) (by decide +kernel))) hp1 hA, hp2, hS1, vk_R.of (ht _ (List.mem_of_getElem? (i := 437) (by decide +kernel))) (hS2 0 (by decide)), vk_R.of (ht _ (List.mem_of_getElem? (i := 535) (by decide +kernel))) (hS2 1 (by decide)), va_Zof (ht _ (List.mem_of_getElem? (i := 451) (by decide +kernel))) (ht _ (List.mem_of_getElem? (i := 13) (by decide +kernel))) (va_eqt (hf (Cond.eq (.static "java/lang/String" "COMPACT_STRINGS" "Z") (.int 1)) (by decide +kernel))) hA, va_Zqof (ht _ (List.mem_of_getElem? (i := 467) (by decide +kernel))) (ht _ (List.mem_of_getElem? (i := 15) (by decide +kernel))) (hf (Cond.isRef (.static "jdk/internal/util/Preconditions" "SIOOBE_FORMATTER" "Ljava/util/function/BiFunction;")) (by decide +kernel)) hA⟩⟩
    match k, hq with
    | 0, hq => cases hq; exact ⟨r0, f0⟩
    | 1, hq => cases hq; exact ⟨r1, f1⟩
    | 2, hq => cases hq; exact ⟨r2, f2⟩
    | 3, hq => cases hq; exact ⟨r3, f3⟩
    | 4, hq => cases hq; exact ⟨r4, f4⟩
    | 5, hq => cases hq; exact ⟨r5, f5⟩
    | 6, hq => cases hq; exact ⟨r6, f6⟩
    | 7, hq => cases hq; exact ⟨r7, by show s.vm.findClass ("[" ++ (FieldType.array FieldType.int).toString) = some a7; rw [nA_str]; exact f7⟩
    | k + 8, hq => simp [x_tys] at hq
  have hXX : XX D s := by
    rw [hD]
    refine ⟨MX.of (ht _ (List.mem_of_getElem? (i := 291) (by decide +kernel))) f7 (by rw [← nI_str]; exact f0), fun ci hci => ?_, fun Cn hC => ?_⟩
    · simp only [List.mem_cons, List.not_mem_nil, or_false] at hci
      rcases hci with rfl | rfl | rfl | rfl | rfl
      · exact st_cast (C := RX0) (T := RX6) (i := 1431) ht (by decide +kernel) (hcl 0 _ rfl).2.1 (hcl 6 _ rfl).2.1
      · exact st_cast (C := RX1) (T := RX6) (i := 1430) ht (by decide +kernel) (hcl 1 _ rfl).2.1 (hcl 6 _ rfl).2.1
      · exact st_cast (C := RX2) (T := RX6) (i := 1432) ht (by decide +kernel) (hcl 2 _ rfl).2.1 (hcl 6 _ rfl).2.1
      · exact st_cast (C := RX3) (T := RX6) (i := 1433) ht (by decide +kernel) (hcl 3 _ rfl).2.1 (hcl 6 _ rfl).2.1
      · exact st_cast (C := RX7) (T := RX6) (i := 1429) ht (by decide +kernel) (hcl 7 _ rfl).2.1 (hcl 6 _ rfl).2.1
    · simp only [List.mem_cons, List.not_mem_nil, or_false] at hC
      rcases hC with rfl | rfl | rfl
      · exact o5
      · exact o6
      · exact o4
  rw [lg_entry_eq]
  exact law_all (D := D) (N := s.heap.size) (l := l) (xs := xs) hbl hL p e s m #[Value.ref b] below meth c ⟨hx, hb, hml, hown, hg, hK, hlocks, hr, Nat.le_refl _, ⟨⟨rfl, hX, hXX⟩, rfl⟩⟩ s.heap [] _ ⟨rfl, fun i e h => by simp at h⟩ va_S.rf (lv_entry [Value.ref b] (Nat.le_of_ble_eq_true rfl))
