def nN (v : Int32) : Int32 := if nI 1 < (if v < nI 100 then v else nI 100) then (if v < nI 100 then v else nI 100) else nI 1
def kNeed (k : Nat) (v : Int32) : Int32 := if k = 2 ∨ k = 5 then nI 0 else if k = 3 ∨ k = 4 then (nN v + nI 1) / nI 2 else nN v
def kFare (k : Nat) (v : Int32) : Int32 := if k = 1 then v * nI 6 / nI 10 else if k = 2 then nI 0 else if k = 4 then v + v / nI 5 else if k = 5 then nI 3 * v else v
def kMin (k : Nat) (v : Int32) : Int32 := if k = 1 then (v + nI 1) / nI 2 else if k = 5 then v + nI 10 else v
def kFuel (k : Nat) (v : Int32) : Int32 := if k = 4 then v + nI 1 else v
def kTake (k : Nat) (v s : Int32) : Int32 := if k = 5 then kFare k v else kFare k v * s
def kCar (k : Nat) : Int32 := if k = 2 ∨ k = 5 then nI 0 else nI 1
def kTurn (k : Nat) : Int32 := if k = 1 then nI 1 else nI 0
def kIs (k : Nat) (v : Int32) : Int32 := if v = 0 ∨ v = nI k ∨ (v = nI 2 ∧ k = 5) ∨ (v = nI 3 ∧ k = 4) then nI 1 else nI 0
def kci (k : Nat) : Nat := if k = 0 then 6 else if k = 1 then 7 else if k = 2 then 1 else if k = 3 then 0 else if k = 4 then 2 else 3
theorem nN_eq (v : Int32) : nN v = if v < nI 1 then nI 1 else if nI 100 < v then nI 100 else v := by
  unfold nN
  by_cases h1 : v < nI 100
  · rw [if_pos h1]
    have h3 : ¬ nI 100 < v := fun h => by rw [Int32.lt_iff_toInt_lt] at *; omega
    rw [if_neg h3]
    by_cases h2 : nI 1 < v
    · rw [if_pos h2, if_neg (fun h => by rw [Int32.lt_iff_toInt_lt] at *; omega)]
    · rw [if_neg h2]
      by_cases h4 : v < nI 1
      · rw [if_pos h4]
      · rw [if_neg h4]
        have h5 := nlt_le h2
        have h6 := nlt_le h4
        exact Int32.le_antisymm h6 h5
  · rw [if_neg h1, if_pos (by decide)]
    have h2 := nlt_le h1
    have h3 : ¬ v < nI 1 := fun h => by
      have : nI 100 ≤ v := h2
      rw [Int32.lt_iff_toInt_lt] at h
      rw [Int32.le_iff_toInt_le] at this
      rw [nI_toInt (by decide)] at h this
      omega
    rw [if_neg h3]
    by_cases h4 : nI 100 < v
    · rw [if_pos h4]
    · rw [if_neg h4]
      exact Int32.le_antisymm h2 (nlt_le h4)
theorem d_Rn_needOf_0 : decode M_Rn_needOf.2.1 0 = .ok (.iconst 1, 1) := by decide +kernel
theorem d_Rn_needOf_1 : decode M_Rn_needOf.2.1 1 = .ok (.bipush 100, 2) := by decide +kernel
theorem d_Rn_needOf_3 : decode M_Rn_needOf.2.1 3 = .ok (.iload_n 1, 1) := by decide +kernel
theorem d_Rn_needOf_4 : decode M_Rn_needOf.2.1 4 = .ok (.invokestatic 9, 3) := by decide +kernel
theorem d_Rn_needOf_7 : decode M_Rn_needOf.2.1 7 = .ok (.invokestatic 15, 3) := by decide +kernel
theorem d_Rn_needOf_10 : decode M_Rn_needOf.2.1 10 = .ok (.ireturn, 1) := by decide +kernel
set_option maxHeartbeats 4000000 in
set_option maxRecDepth 100000 in
theorem ok_Rn_needOf {D : xD} {N : Nat} {l : Launch} {d : Nat} {g : List va_E} {K : Option Value → List va_E → Prop} {a : Nat} {v : Int32}  (hK : K (some (.int (nN v))) g) : Ok D N l (d + 1) M_Rn_needOf [.ref a, .int v] g 0 0 K := by
  refine ok_of (L := [(0, _), (1, _)]) (by decide) (Nat.le_of_ble_eq_true rfl) rfl ?_
  refine wp_iconst d_Rn_needOf_0 rfl ic_1 ?_
  refine wp_bipush d_Rn_needOf_1 rfl bp_100 ?_
  refine wp_iload_n d_Rn_needOf_3 rfl rfl ?_
  refine wp_mmin km_Rn_9 (RO0 ()) d_Rn_needOf_4 rfl (Nat.le_of_ble_eq_true rfl) (Nat.zero_le _) (Nat.zero_le _) ?_
  refine wp_mmax km_Rn_15 (RO0 ()) d_Rn_needOf_7 rfl (Nat.le_of_ble_eq_true rfl) (Nat.zero_le _) (Nat.zero_le _) ?_
  refine wp_iret d_Rn_needOf_10 rfl (Nat.le_refl _) (Nat.le_refl _) ?_
  exact hK
theorem d_Rn_fareOf_0 : decode M_Rn_fareOf.2.1 0 = .ok (.iload_n 1, 1) := by decide +kernel
theorem d_Rn_fareOf_1 : decode M_Rn_fareOf.2.1 1 = .ok (.ireturn, 1) := by decide +kernel
set_option maxHeartbeats 4000000 in
set_option maxRecDepth 100000 in
theorem ok_Rn_fareOf {D : xD} {N : Nat} {l : Launch} {d : Nat} {g : List va_E} {K : Option Value → List va_E → Prop} {a : Nat} {v : Int32}  (hK : K (some (.int v)) g) : Ok D N l (d + 0) M_Rn_fareOf [.ref a, .int v] g 0 0 K := by
  refine ok_of (L := [(0, _), (1, _)]) (by decide) (Nat.le_of_ble_eq_true rfl) rfl ?_
  refine wp_iload_n d_Rn_fareOf_0 rfl rfl ?_
  refine wp_iret d_Rn_fareOf_1 rfl (Nat.le_refl _) (Nat.le_refl _) ?_
  exact hK
theorem d_Rn_minutesOf_0 : decode M_Rn_minutesOf.2.1 0 = .ok (.iload_n 1, 1) := by decide +kernel
theorem d_Rn_minutesOf_1 : decode M_Rn_minutesOf.2.1 1 = .ok (.ireturn, 1) := by decide +kernel
set_option maxHeartbeats 4000000 in
set_option maxRecDepth 100000 in
theorem ok_Rn_minutesOf {D : xD} {N : Nat} {l : Launch} {d : Nat} {g : List va_E} {K : Option Value → List va_E → Prop} {a : Nat} {v : Int32}  (hK : K (some (.int v)) g) : Ok D N l (d + 0) M_Rn_minutesOf [.ref a, .int v] g 0 0 K := by
  refine ok_of (L := [(0, _), (1, _)]) (by decide) (Nat.le_of_ble_eq_true rfl) rfl ?_
  refine wp_iload_n d_Rn_minutesOf_0 rfl rfl ?_
  refine wp_iret d_Rn_minutesOf_1 rfl (Nat.le_refl _) (Nat.le_refl _) ?_
  exact hK
theorem d_Rn_fuelOf_0 : decode M_Rn_fuelOf.2.1 0 = .ok (.iload_n 1, 1) := by decide +kernel
theorem d_Rn_fuelOf_1 : decode M_Rn_fuelOf.2.1 1 = .ok (.ireturn, 1) := by decide +kernel
set_option maxHeartbeats 4000000 in
set_option maxRecDepth 100000 in
theorem ok_Rn_fuelOf {D : xD} {N : Nat} {l : Launch} {d : Nat} {g : List va_E} {K : Option Value → List va_E → Prop} {a : Nat} {v : Int32}  (hK : K (some (.int v)) g) : Ok D N l (d + 0) M_Rn_fuelOf [.ref a, .int v] g 0 0 K := by
  refine ok_of (L := [(0, _), (1, _)]) (by decide) (Nat.le_of_ble_eq_true rfl) rfl ?_
  refine wp_iload_n d_Rn_fuelOf_0 rfl rfl ?_
  refine wp_iret d_Rn_fuelOf_1 rfl (Nat.le_refl _) (Nat.le_refl _) ?_
  exact hK
theorem d_Rn_carries_0 : decode M_Rn_carries.2.1 0 = .ok (.iconst 1, 1) := by decide +kernel
theorem d_Rn_carries_1 : decode M_Rn_carries.2.1 1 = .ok (.ireturn, 1) := by decide +kernel
set_option maxHeartbeats 4000000 in
set_option maxRecDepth 100000 in
theorem ok_Rn_carries {D : xD} {N : Nat} {l : Launch} {d : Nat} {g : List va_E} {K : Option Value → List va_E → Prop} {a : Nat}   (hK : K (some (.int (nI 1))) g) : Ok D N l (d + 0) M_Rn_carries [.ref a] g 0 0 K := by
  refine ok_of (L := [(0, _)]) (by decide) (Nat.le_of_ble_eq_true rfl) rfl ?_
  refine wp_iconst d_Rn_carries_0 rfl ic_1 ?_
  refine wp_zret d_Rn_carries_1 rfl (rfl) (Nat.le_refl _) (Nat.le_refl _) ?_
  exact hK
theorem d_Rn_turnsBack_0 : decode M_Rn_turnsBack.2.1 0 = .ok (.iconst 0, 1) := by decide +kernel
theorem d_Rn_turnsBack_1 : decode M_Rn_turnsBack.2.1 1 = .ok (.ireturn, 1) := by decide +kernel
set_option maxHeartbeats 4000000 in
set_option maxRecDepth 100000 in
theorem ok_Rn_turnsBack {D : xD} {N : Nat} {l : Launch} {d : Nat} {g : List va_E} {K : Option Value → List va_E → Prop} {a : Nat}   (hK : K (some (.int (nI 0))) g) : Ok D N l (d + 0) M_Rn_turnsBack [.ref a] g 0 0 K := by
  refine ok_of (L := [(0, _)]) (by decide) (Nat.le_of_ble_eq_true rfl) rfl ?_
  refine wp_iconst d_Rn_turnsBack_0 rfl ic_0 ?_
  refine wp_zret d_Rn_turnsBack_1 rfl (rfl) (Nat.le_refl _) (Nat.le_refl _) ?_
  exact hK
theorem d_Em_needOf_0 : decode M_Em_needOf.2.1 0 = .ok (.iconst 0, 1) := by decide +kernel
theorem d_Em_needOf_1 : decode M_Em_needOf.2.1 1 = .ok (.ireturn, 1) := by decide +kernel
set_option maxHeartbeats 4000000 in
set_option maxRecDepth 100000 in
theorem ok_Em_needOf {D : xD} {N : Nat} {l : Launch} {d : Nat} {g : List va_E} {K : Option Value → List va_E → Prop} {a : Nat} {v : Int32}  (hK : K (some (.int (nI 0))) g) : Ok D N l (d + 0) M_Em_needOf [.ref a, .int v] g 0 0 K := by
  refine ok_of (L := [(0, _), (1, _)]) (by decide) (Nat.le_of_ble_eq_true rfl) rfl ?_
  refine wp_iconst d_Em_needOf_0 rfl ic_0 ?_
  refine wp_iret d_Em_needOf_1 rfl (Nat.le_refl _) (Nat.le_refl _) ?_
  exact hK
theorem d_Em_fareOf_0 : decode M_Em_fareOf.2.1 0 = .ok (.iconst 0, 1) := by decide +kernel
theorem d_Em_fareOf_1 : decode M_Em_fareOf.2.1 1 = .ok (.ireturn, 1) := by decide +kernel
set_option maxHeartbeats 4000000 in
set_option maxRecDepth 100000 in
theorem ok_Em_fareOf {D : xD} {N : Nat} {l : Launch} {d : Nat} {g : List va_E} {K : Option Value → List va_E → Prop} {a : Nat} {v : Int32}  (hK : K (some (.int (nI 0))) g) : Ok D N l (d + 0) M_Em_fareOf [.ref a, .int v] g 0 0 K := by
  refine ok_of (L := [(0, _), (1, _)]) (by decide) (Nat.le_of_ble_eq_true rfl) rfl ?_
  refine wp_iconst d_Em_fareOf_0 rfl ic_0 ?_
  refine wp_iret d_Em_fareOf_1 rfl (Nat.le_refl _) (Nat.le_refl _) ?_
  exact hK
theorem d_Em_carries_0 : decode M_Em_carries.2.1 0 = .ok (.iconst 0, 1) := by decide +kernel
theorem d_Em_carries_1 : decode M_Em_carries.2.1 1 = .ok (.ireturn, 1) := by decide +kernel
set_option maxHeartbeats 4000000 in
set_option maxRecDepth 100000 in
theorem ok_Em_carries {D : xD} {N : Nat} {l : Launch} {d : Nat} {g : List va_E} {K : Option Value → List va_E → Prop} {a : Nat}   (hK : K (some (.int (nI 0))) g) : Ok D N l (d + 0) M_Em_carries [.ref a] g 0 0 K := by
  refine ok_of (L := [(0, _)]) (by decide) (Nat.le_of_ble_eq_true rfl) rfl ?_
  refine wp_iconst d_Em_carries_0 rfl ic_0 ?_
  refine wp_zret d_Em_carries_1 rfl (rfl) (Nat.le_refl _) (Nat.le_refl _) ?_
  exact hK
theorem d_Sh_turnsBack_0 : decode M_Sh_turnsBack.2.1 0 = .ok (.iconst 1, 1) := by decide +kernel
theorem d_Sh_turnsBack_1 : decode M_Sh_turnsBack.2.1 1 = .ok (.ireturn, 1) := by decide +kernel
set_option maxHeartbeats 4000000 in
set_option maxRecDepth 100000 in
theorem ok_Sh_turnsBack {D : xD} {N : Nat} {l : Launch} {d : Nat} {g : List va_E} {K : Option Value → List va_E → Prop} {a : Nat}   (hK : K (some (.int (nI 1))) g) : Ok D N l (d + 0) M_Sh_turnsBack [.ref a] g 0 0 K := by
  refine ok_of (L := [(0, _)]) (by decide) (Nat.le_of_ble_eq_true rfl) rfl ?_
  refine wp_iconst d_Sh_turnsBack_0 rfl ic_1 ?_
  refine wp_zret d_Sh_turnsBack_1 rfl (rfl) (Nat.le_refl _) (Nat.le_refl _) ?_
  exact hK
theorem d_Sh_fareOf_0 : decode M_Sh_fareOf.2.1 0 = .ok (.iload_n 1, 1) := by decide +kernel
theorem d_Sh_fareOf_1 : decode M_Sh_fareOf.2.1 1 = .ok (.bipush 6, 2) := by decide +kernel
theorem d_Sh_fareOf_3 : decode M_Sh_fareOf.2.1 3 = .ok (.imul, 1) := by decide +kernel
theorem d_Sh_fareOf_4 : decode M_Sh_fareOf.2.1 4 = .ok (.bipush 10, 2) := by decide +kernel
theorem d_Sh_fareOf_6 : decode M_Sh_fareOf.2.1 6 = .ok (.idiv, 1) := by decide +kernel
theorem d_Sh_fareOf_7 : decode M_Sh_fareOf.2.1 7 = .ok (.ireturn, 1) := by decide +kernel
set_option maxHeartbeats 4000000 in
set_option maxRecDepth 100000 in
theorem ok_Sh_fareOf {D : xD} {N : Nat} {l : Launch} {d : Nat} {g : List va_E} {K : Option Value → List va_E → Prop} {a : Nat} {v : Int32}  (hK : K (some (.int (v * nI 6 / nI 10))) g) : Ok D N l (d + 0) M_Sh_fareOf [.ref a, .int v] g 0 0 K := by
  refine ok_of (L := [(0, _), (1, _)]) (by decide) (Nat.le_of_ble_eq_true rfl) rfl ?_
  refine wp_iload_n d_Sh_fareOf_0 rfl rfl ?_
  refine wp_bipush d_Sh_fareOf_1 rfl bp_6 ?_
  first | refine wp_imulC d_Sh_fareOf_3 rfl ?_ | refine wp_imul d_Sh_fareOf_3 rfl ?_
  refine wp_bipush d_Sh_fareOf_4 rfl bp_10 ?_
  refine wp_idiv d_Sh_fareOf_6 rfl (by decide) ?_
  refine wp_iret d_Sh_fareOf_7 rfl (Nat.le_refl _) (Nat.le_refl _) ?_
  exact hK
theorem d_Sh_minutesOf_0 : decode M_Sh_minutesOf.2.1 0 = .ok (.iload_n 1, 1) := by decide +kernel
theorem d_Sh_minutesOf_1 : decode M_Sh_minutesOf.2.1 1 = .ok (.iconst 1, 1) := by decide +kernel
theorem d_Sh_minutesOf_2 : decode M_Sh_minutesOf.2.1 2 = .ok (.iadd, 1) := by decide +kernel
theorem d_Sh_minutesOf_3 : decode M_Sh_minutesOf.2.1 3 = .ok (.iconst 2, 1) := by decide +kernel
theorem d_Sh_minutesOf_4 : decode M_Sh_minutesOf.2.1 4 = .ok (.idiv, 1) := by decide +kernel
theorem d_Sh_minutesOf_5 : decode M_Sh_minutesOf.2.1 5 = .ok (.ireturn, 1) := by decide +kernel
set_option maxHeartbeats 4000000 in
set_option maxRecDepth 100000 in
theorem ok_Sh_minutesOf {D : xD} {N : Nat} {l : Launch} {d : Nat} {g : List va_E} {K : Option Value → List va_E → Prop} {a : Nat} {v : Int32}  (hK : K (some (.int ((v + nI 1) / nI 2))) g) : Ok D N l (d + 0) M_Sh_minutesOf [.ref a, .int v] g 0 0 K := by
  refine ok_of (L := [(0, _), (1, _)]) (by decide) (Nat.le_of_ble_eq_true rfl) rfl ?_
  refine wp_iload_n d_Sh_minutesOf_0 rfl rfl ?_
  refine wp_iconst d_Sh_minutesOf_1 rfl ic_1 ?_
  first | refine wp_iaddN d_Sh_minutesOf_2 rfl ?_ | refine wp_iadd d_Sh_minutesOf_2 rfl ?_
  refine wp_iconst d_Sh_minutesOf_3 rfl ic_2 ?_
  refine wp_idiv d_Sh_minutesOf_4 rfl (by decide) ?_
  refine wp_iret d_Sh_minutesOf_5 rfl (Nat.le_refl _) (Nat.le_refl _) ?_
  exact hK
theorem d_Ex_fareOf_0 : decode M_Ex_fareOf.2.1 0 = .ok (.iload_n 1, 1) := by decide +kernel
theorem d_Ex_fareOf_1 : decode M_Ex_fareOf.2.1 1 = .ok (.iload_n 1, 1) := by decide +kernel
theorem d_Ex_fareOf_2 : decode M_Ex_fareOf.2.1 2 = .ok (.iconst 5, 1) := by decide +kernel
theorem d_Ex_fareOf_3 : decode M_Ex_fareOf.2.1 3 = .ok (.idiv, 1) := by decide +kernel
theorem d_Ex_fareOf_4 : decode M_Ex_fareOf.2.1 4 = .ok (.iadd, 1) := by decide +kernel
theorem d_Ex_fareOf_5 : decode M_Ex_fareOf.2.1 5 = .ok (.ireturn, 1) := by decide +kernel
set_option maxHeartbeats 4000000 in
set_option maxRecDepth 100000 in
theorem ok_Ex_fareOf {D : xD} {N : Nat} {l : Launch} {d : Nat} {g : List va_E} {K : Option Value → List va_E → Prop} {a : Nat} {v : Int32}  (hK : K (some (.int (v + v / nI 5))) g) : Ok D N l (d + 0) M_Ex_fareOf [.ref a, .int v] g 0 0 K := by
  refine ok_of (L := [(0, _), (1, _)]) (by decide) (Nat.le_of_ble_eq_true rfl) rfl ?_
  refine wp_iload_n d_Ex_fareOf_0 rfl rfl ?_
  refine wp_iload_n d_Ex_fareOf_1 rfl rfl ?_
  refine wp_iconst d_Ex_fareOf_2 rfl ic_5 ?_
  refine wp_idiv d_Ex_fareOf_3 rfl (by decide) ?_
  first | refine wp_iaddN d_Ex_fareOf_4 rfl ?_ | refine wp_iadd d_Ex_fareOf_4 rfl ?_
  refine wp_iret d_Ex_fareOf_5 rfl (Nat.le_refl _) (Nat.le_refl _) ?_
  exact hK
theorem d_Ex_fuelOf_0 : decode M_Ex_fuelOf.2.1 0 = .ok (.iload_n 1, 1) := by decide +kernel
theorem d_Ex_fuelOf_1 : decode M_Ex_fuelOf.2.1 1 = .ok (.iconst 1, 1) := by decide +kernel
theorem d_Ex_fuelOf_2 : decode M_Ex_fuelOf.2.1 2 = .ok (.iadd, 1) := by decide +kernel
theorem d_Ex_fuelOf_3 : decode M_Ex_fuelOf.2.1 3 = .ok (.ireturn, 1) := by decide +kernel
set_option maxHeartbeats 4000000 in
set_option maxRecDepth 100000 in
theorem ok_Ex_fuelOf {D : xD} {N : Nat} {l : Launch} {d : Nat} {g : List va_E} {K : Option Value → List va_E → Prop} {a : Nat} {v : Int32}  (hK : K (some (.int (v + nI 1))) g) : Ok D N l (d + 0) M_Ex_fuelOf [.ref a, .int v] g 0 0 K := by
  refine ok_of (L := [(0, _), (1, _)]) (by decide) (Nat.le_of_ble_eq_true rfl) rfl ?_
  refine wp_iload_n d_Ex_fuelOf_0 rfl rfl ?_
  refine wp_iconst d_Ex_fuelOf_1 rfl ic_1 ?_
  first | refine wp_iaddN d_Ex_fuelOf_2 rfl ?_ | refine wp_iadd d_Ex_fuelOf_2 rfl ?_
  refine wp_iret d_Ex_fuelOf_3 rfl (Nat.le_refl _) (Nat.le_refl _) ?_
  exact hK
theorem d_Hi_fareOf_0 : decode M_Hi_fareOf.2.1 0 = .ok (.iconst 3, 1) := by decide +kernel
theorem d_Hi_fareOf_1 : decode M_Hi_fareOf.2.1 1 = .ok (.iload_n 1, 1) := by decide +kernel
theorem d_Hi_fareOf_2 : decode M_Hi_fareOf.2.1 2 = .ok (.imul, 1) := by decide +kernel
theorem d_Hi_fareOf_3 : decode M_Hi_fareOf.2.1 3 = .ok (.ireturn, 1) := by decide +kernel
set_option maxHeartbeats 4000000 in
set_option maxRecDepth 100000 in
theorem ok_Hi_fareOf {D : xD} {N : Nat} {l : Launch} {d : Nat} {g : List va_E} {K : Option Value → List va_E → Prop} {a : Nat} {v : Int32}  (hK : K (some (.int (nI 3 * v))) g) : Ok D N l (d + 0) M_Hi_fareOf [.ref a, .int v] g 0 0 K := by
  refine ok_of (L := [(0, _), (1, _)]) (by decide) (Nat.le_of_ble_eq_true rfl) rfl ?_
  refine wp_iconst d_Hi_fareOf_0 rfl ic_3 ?_
  refine wp_iload_n d_Hi_fareOf_1 rfl rfl ?_
  first | refine wp_imulN d_Hi_fareOf_2 rfl ?_ | refine wp_imul d_Hi_fareOf_2 rfl ?_
  refine wp_iret d_Hi_fareOf_3 rfl (Nat.le_refl _) (Nat.le_refl _) ?_
  exact hK
theorem d_Hi_minutesOf_0 : decode M_Hi_minutesOf.2.1 0 = .ok (.iload_n 1, 1) := by decide +kernel
theorem d_Hi_minutesOf_1 : decode M_Hi_minutesOf.2.1 1 = .ok (.bipush 10, 2) := by decide +kernel
theorem d_Hi_minutesOf_3 : decode M_Hi_minutesOf.2.1 3 = .ok (.iadd, 1) := by decide +kernel
theorem d_Hi_minutesOf_4 : decode M_Hi_minutesOf.2.1 4 = .ok (.ireturn, 1) := by decide +kernel
set_option maxHeartbeats 4000000 in
set_option maxRecDepth 100000 in
theorem ok_Hi_minutesOf {D : xD} {N : Nat} {l : Launch} {d : Nat} {g : List va_E} {K : Option Value → List va_E → Prop} {a : Nat} {v : Int32}  (hK : K (some (.int (v + nI 10))) g) : Ok D N l (d + 0) M_Hi_minutesOf [.ref a, .int v] g 0 0 K := by
  refine ok_of (L := [(0, _), (1, _)]) (by decide) (Nat.le_of_ble_eq_true rfl) rfl ?_
  refine wp_iload_n d_Hi_minutesOf_0 rfl rfl ?_
  refine wp_bipush d_Hi_minutesOf_1 rfl bp_10 ?_
  first | refine wp_iaddN d_Hi_minutesOf_3 rfl ?_ | refine wp_iadd d_Hi_minutesOf_3 rfl ?_
  refine wp_iret d_Hi_minutesOf_4 rfl (Nat.le_refl _) (Nat.le_refl _) ?_
  exact hK
theorem ls_Ea_9 : LSU RX0 9 M_Rn_needOf 1 := ⟨cw_Rn_needOf, gw 636 (by decide +kernel) (by decide +kernel), gw 632 (by decide +kernel) (by decide +kernel), gw 66 (by decide +kernel) (by decide +kernel), gw 630 (by decide +kernel) (by decide +kernel), by decide⟩
theorem ls_Ea_13 : LSU RX0 13 M_Rn_isOf 1 := ⟨cw_Rn_isOf, gw 926 (by decide +kernel) (by decide +kernel), gw 922 (by decide +kernel) (by decide +kernel), gw 66 (by decide +kernel) (by decide +kernel), gw 920 (by decide +kernel) (by decide +kernel), by decide⟩
theorem ls_Em_9 : LSU RX1 9 M_Rn_isOf 1 := ⟨cw_Rn_isOf, gw 930 (by decide +kernel) (by decide +kernel), gw 922 (by decide +kernel) (by decide +kernel), gw 59 (by decide +kernel) (by decide +kernel), gw 920 (by decide +kernel) (by decide +kernel), by decide⟩
theorem ls_Ex_9 : LSU RX2 9 M_Ea_isOf 1 := ⟨cw_Ea_isOf, gw 934 (by decide +kernel) (by decide +kernel), gw 1427 (by decide +kernel) (by decide +kernel), gw 73 (by decide +kernel) (by decide +kernel), gw 924 (by decide +kernel) (by decide +kernel), by decide⟩
theorem ls_Hi_15 : LSU RX3 15 M_Em_isOf 1 := ⟨cw_Em_isOf, gw 938 (by decide +kernel) (by decide +kernel), gw 1428 (by decide +kernel) (by decide +kernel), gw 80 (by decide +kernel) (by decide +kernel), gw 928 (by decide +kernel) (by decide +kernel), by decide⟩
theorem ls_Sh_9 : LSU RX7 9 M_Rn_isOf 1 := ⟨cw_Rn_isOf, gw 942 (by decide +kernel) (by decide +kernel), gw 922 (by decide +kernel) (by decide +kernel), gw 52 (by decide +kernel) (by decide +kernel), gw 920 (by decide +kernel) (by decide +kernel), by decide⟩
theorem d_Ea_needOf_0 : decode M_Ea_needOf.2.1 0 = .ok (.aload_n 0, 1) := by decide +kernel
theorem d_Ea_needOf_1 : decode M_Ea_needOf.2.1 1 = .ok (.iload_n 1, 1) := by decide +kernel
theorem d_Ea_needOf_2 : decode M_Ea_needOf.2.1 2 = .ok (.invokespecial 9, 3) := by decide +kernel
theorem d_Ea_needOf_5 : decode M_Ea_needOf.2.1 5 = .ok (.iconst 1, 1) := by decide +kernel
theorem d_Ea_needOf_6 : decode M_Ea_needOf.2.1 6 = .ok (.iadd, 1) := by decide +kernel
theorem d_Ea_needOf_7 : decode M_Ea_needOf.2.1 7 = .ok (.iconst 2, 1) := by decide +kernel
theorem d_Ea_needOf_8 : decode M_Ea_needOf.2.1 8 = .ok (.idiv, 1) := by decide +kernel
theorem d_Ea_needOf_9 : decode M_Ea_needOf.2.1 9 = .ok (.ireturn, 1) := by decide +kernel
set_option maxHeartbeats 4000000 in
set_option maxRecDepth 100000 in
theorem ok_Ea_needOf {D : xD} {N : Nat} {l : Launch} {d : Nat} {g : List va_E} {K : Option Value → List va_E → Prop} {i ci : Nat} {fs : List Value} {v : Int32} (hr : g[i]? = some (.inr (ci, fs))) (hK : K (some (.int ((nN v + nI 1) / nI 2))) g) : Ok D N l (d + 2) M_Ea_needOf [.ref (N + i), .int v] g 0 0 K := by
  refine ok_of (L := [(0, _), (1, _)]) (by decide) (Nat.le_of_ble_eq_true rfl) rfl ?_
  refine wp_aload_n d_Ea_needOf_0 rfl rfl ?_
  refine wp_iload_n d_Ea_needOf_1 rfl rfl ?_
  refine wp_csu1 ls_Ea_9 (ro _ _ _) d_Ea_needOf_2 rfl (Nat.le_of_ble_eq_true rfl) (hr) (Nat.zero_le _) (Nat.zero_le _) ?_
  refine ok_Rn_needOf ?_
  refine wp_iconst d_Ea_needOf_5 rfl ic_1 ?_
  first | refine wp_iaddN d_Ea_needOf_6 rfl ?_ | refine wp_iadd d_Ea_needOf_6 rfl ?_
  refine wp_iconst d_Ea_needOf_7 rfl ic_2 ?_
  refine wp_idiv d_Ea_needOf_8 rfl (by decide) ?_
  refine wp_iret d_Ea_needOf_9 rfl (Nat.le_refl _) (Nat.le_refl _) ?_
  exact hK
theorem d_Rn_isOf_0 : decode M_Rn_isOf.2.1 0 = .ok (.iload_n 1, 1) := by decide +kernel
theorem d_Rn_isOf_1 : decode M_Rn_isOf.2.1 1 = .ok (.ifCond .ne 7, 3) := by decide +kernel
theorem d_Rn_isOf_4 : decode M_Rn_isOf.2.1 4 = .ok (.iconst 1, 1) := by decide +kernel
theorem d_Rn_isOf_5 : decode M_Rn_isOf.2.1 5 = .ok (.goto 4, 3) := by decide +kernel
theorem d_Rn_isOf_8 : decode M_Rn_isOf.2.1 8 = .ok (.iconst 0, 1) := by decide +kernel
theorem d_Rn_isOf_9 : decode M_Rn_isOf.2.1 9 = .ok (.ireturn, 1) := by decide +kernel
set_option maxHeartbeats 4000000 in
set_option maxRecDepth 100000 in
theorem ok_Rn_isOf {D : xD} {N : Nat} {l : Launch} {d : Nat} {g : List va_E} {K : Option Value → List va_E → Prop} {a : Nat} {v : Int32}  (hK : K (some (.int (if v = 0 then nI 1 else nI 0))) g) : Ok D N l (d + 0) M_Rn_isOf [.ref a, .int v] g 0 0 K := by
  refine ok_of (L := [(0, _), (1, _)]) (by decide) (Nat.le_of_ble_eq_true rfl) rfl ?_
  refine wp_iload_n d_Rn_isOf_0 rfl rfl ?_
  refine wp_if_ne (tgt := 8) d_Rn_isOf_1 (by decide) rfl (fun hc_1 => ?_) (fun hc_1 => ?_)
  · refine wp_iconst d_Rn_isOf_8 rfl ic_0 ?_
    refine wp_zret d_Rn_isOf_9 rfl (rfl) (Nat.le_refl _) (Nat.le_refl _) ?_
    rw [if_neg hc_1] at hK; exact hK
  · refine wp_iconst d_Rn_isOf_4 rfl ic_1 ?_
    refine wp_goto (tgt := 9) d_Rn_isOf_5 (by decide) ?_
    refine wp_zret d_Rn_isOf_9 rfl (rfl) (Nat.le_refl _) (Nat.le_refl _) ?_
    rw [if_pos hc_1] at hK; exact hK
theorem d_Ea_isOf_0 : decode M_Ea_isOf.2.1 0 = .ok (.iload_n 1, 1) := by decide +kernel
theorem d_Ea_isOf_1 : decode M_Ea_isOf.2.1 1 = .ok (.iconst 3, 1) := by decide +kernel
theorem d_Ea_isOf_2 : decode M_Ea_isOf.2.1 2 = .ok (.if_icmp .eq 11, 3) := by decide +kernel
theorem d_Ea_isOf_5 : decode M_Ea_isOf.2.1 5 = .ok (.aload_n 0, 1) := by decide +kernel
theorem d_Ea_isOf_6 : decode M_Ea_isOf.2.1 6 = .ok (.iload_n 1, 1) := by decide +kernel
theorem d_Ea_isOf_7 : decode M_Ea_isOf.2.1 7 = .ok (.invokespecial 13, 3) := by decide +kernel
theorem d_Ea_isOf_10 : decode M_Ea_isOf.2.1 10 = .ok (.ifCond .eq 7, 3) := by decide +kernel
theorem d_Ea_isOf_13 : decode M_Ea_isOf.2.1 13 = .ok (.iconst 1, 1) := by decide +kernel
theorem d_Ea_isOf_14 : decode M_Ea_isOf.2.1 14 = .ok (.goto 4, 3) := by decide +kernel
theorem d_Ea_isOf_17 : decode M_Ea_isOf.2.1 17 = .ok (.iconst 0, 1) := by decide +kernel
theorem d_Ea_isOf_18 : decode M_Ea_isOf.2.1 18 = .ok (.ireturn, 1) := by decide +kernel
set_option maxHeartbeats 4000000 in
set_option maxRecDepth 100000 in
theorem ok_Ea_isOf {D : xD} {N : Nat} {l : Launch} {d : Nat} {g : List va_E} {K : Option Value → List va_E → Prop} {i ci : Nat} {fs : List Value} {v : Int32} (hr : g[i]? = some (.inr (ci, fs))) (hK : K (some (.int (if v = nI 3 ∨ v = 0 then nI 1 else nI 0))) g) : Ok D N l (d + 1) M_Ea_isOf [.ref (N + i), .int v] g 0 0 K := by
  refine ok_of (L := [(0, _), (1, _)]) (by decide) (Nat.le_of_ble_eq_true rfl) rfl ?_
  refine wp_iload_n d_Ea_isOf_0 rfl rfl ?_
  refine wp_iconst d_Ea_isOf_1 rfl ic_3 ?_
  refine wp_icmp_eq (tgt := 13) d_Ea_isOf_2 (by decide) rfl (fun hc_2 => ?_) (fun hc_2 => ?_)
  · refine wp_iconst d_Ea_isOf_13 rfl ic_1 ?_
    refine wp_goto (tgt := 18) d_Ea_isOf_14 (by decide) ?_
    refine wp_zret d_Ea_isOf_18 rfl (rfl) (Nat.le_refl _) (Nat.le_refl _) ?_
    first | (rw [if_pos (Or.inl hc_2)] at hK; exact hK) | (rw [if_pos (Or.inr hs)] at hK; exact hK) | (rw [if_neg (fun z => z.elim hc_2 hs)] at hK; exact hK)
  · refine wp_aload_n d_Ea_isOf_5 rfl rfl ?_
    refine wp_iload_n d_Ea_isOf_6 rfl rfl ?_
    refine wp_csu1 ls_Ea_13 (ro _ _ _) d_Ea_isOf_7 rfl (Nat.le_of_ble_eq_true rfl) (hr) (Nat.zero_le _) (Nat.zero_le _) ?_
    refine ok_Rn_isOf ?_
    by_cases hs : v = 0
    · rw [if_pos hs]
      refine wp_if_eq_f (tgt := 17) d_Ea_isOf_10 (by decide) rfl (by decide) ?_
      refine wp_iconst d_Ea_isOf_13 rfl ic_1 ?_
      refine wp_goto (tgt := 18) d_Ea_isOf_14 (by decide) ?_
      refine wp_zret d_Ea_isOf_18 rfl (rfl) (Nat.le_refl _) (Nat.le_refl _) ?_
      first | (rw [if_pos (Or.inl hc_2)] at hK; exact hK) | (rw [if_pos (Or.inr hs)] at hK; exact hK) | (rw [if_neg (fun z => z.elim hc_2 hs)] at hK; exact hK)
    · rw [if_neg hs]
      refine wp_if_eq_t (tgt := 17) d_Ea_isOf_10 (by decide) (by decide) ?_
      refine wp_iconst d_Ea_isOf_17 rfl ic_0 ?_
      refine wp_zret d_Ea_isOf_18 rfl (rfl) (Nat.le_refl _) (Nat.le_refl _) ?_
      first | (rw [if_pos (Or.inl hc_2)] at hK; exact hK) | (rw [if_pos (Or.inr hs)] at hK; exact hK) | (rw [if_neg (fun z => z.elim hc_2 hs)] at hK; exact hK)
theorem d_Em_isOf_0 : decode M_Em_isOf.2.1 0 = .ok (.iload_n 1, 1) := by decide +kernel
theorem d_Em_isOf_1 : decode M_Em_isOf.2.1 1 = .ok (.iconst 2, 1) := by decide +kernel
theorem d_Em_isOf_2 : decode M_Em_isOf.2.1 2 = .ok (.if_icmp .eq 11, 3) := by decide +kernel
theorem d_Em_isOf_5 : decode M_Em_isOf.2.1 5 = .ok (.aload_n 0, 1) := by decide +kernel
theorem d_Em_isOf_6 : decode M_Em_isOf.2.1 6 = .ok (.iload_n 1, 1) := by decide +kernel
theorem d_Em_isOf_7 : decode M_Em_isOf.2.1 7 = .ok (.invokespecial 9, 3) := by decide +kernel
theorem d_Em_isOf_10 : decode M_Em_isOf.2.1 10 = .ok (.ifCond .eq 7, 3) := by decide +kernel
theorem d_Em_isOf_13 : decode M_Em_isOf.2.1 13 = .ok (.iconst 1, 1) := by decide +kernel
theorem d_Em_isOf_14 : decode M_Em_isOf.2.1 14 = .ok (.goto 4, 3) := by decide +kernel
theorem d_Em_isOf_17 : decode M_Em_isOf.2.1 17 = .ok (.iconst 0, 1) := by decide +kernel
theorem d_Em_isOf_18 : decode M_Em_isOf.2.1 18 = .ok (.ireturn, 1) := by decide +kernel
set_option maxHeartbeats 4000000 in
set_option maxRecDepth 100000 in
theorem ok_Em_isOf {D : xD} {N : Nat} {l : Launch} {d : Nat} {g : List va_E} {K : Option Value → List va_E → Prop} {i ci : Nat} {fs : List Value} {v : Int32} (hr : g[i]? = some (.inr (ci, fs))) (hK : K (some (.int (if v = nI 2 ∨ v = 0 then nI 1 else nI 0))) g) : Ok D N l (d + 1) M_Em_isOf [.ref (N + i), .int v] g 0 0 K := by
  refine ok_of (L := [(0, _), (1, _)]) (by decide) (Nat.le_of_ble_eq_true rfl) rfl ?_
  refine wp_iload_n d_Em_isOf_0 rfl rfl ?_
  refine wp_iconst d_Em_isOf_1 rfl ic_2 ?_
  refine wp_icmp_eq (tgt := 13) d_Em_isOf_2 (by decide) rfl (fun hc_2 => ?_) (fun hc_2 => ?_)
  · refine wp_iconst d_Em_isOf_13 rfl ic_1 ?_
    refine wp_goto (tgt := 18) d_Em_isOf_14 (by decide) ?_
    refine wp_zret d_Em_isOf_18 rfl (rfl) (Nat.le_refl _) (Nat.le_refl _) ?_
    first | (rw [if_pos (Or.inl hc_2)] at hK; exact hK) | (rw [if_pos (Or.inr hs)] at hK; exact hK) | (rw [if_neg (fun z => z.elim hc_2 hs)] at hK; exact hK)
  · refine wp_aload_n d_Em_isOf_5 rfl rfl ?_
    refine wp_iload_n d_Em_isOf_6 rfl rfl ?_
    refine wp_csu1 ls_Em_9 (ro _ _ _) d_Em_isOf_7 rfl (Nat.le_of_ble_eq_true rfl) (hr) (Nat.zero_le _) (Nat.zero_le _) ?_
    refine ok_Rn_isOf ?_
    by_cases hs : v = 0
    · rw [if_pos hs]
      refine wp_if_eq_f (tgt := 17) d_Em_isOf_10 (by decide) rfl (by decide) ?_
      refine wp_iconst d_Em_isOf_13 rfl ic_1 ?_
      refine wp_goto (tgt := 18) d_Em_isOf_14 (by decide) ?_
      refine wp_zret d_Em_isOf_18 rfl (rfl) (Nat.le_refl _) (Nat.le_refl _) ?_
      first | (rw [if_pos (Or.inl hc_2)] at hK; exact hK) | (rw [if_pos (Or.inr hs)] at hK; exact hK) | (rw [if_neg (fun z => z.elim hc_2 hs)] at hK; exact hK)
    · rw [if_neg hs]
      refine wp_if_eq_t (tgt := 17) d_Em_isOf_10 (by decide) (by decide) ?_
      refine wp_iconst d_Em_isOf_17 rfl ic_0 ?_
      refine wp_zret d_Em_isOf_18 rfl (rfl) (Nat.le_refl _) (Nat.le_refl _) ?_
      first | (rw [if_pos (Or.inl hc_2)] at hK; exact hK) | (rw [if_pos (Or.inr hs)] at hK; exact hK) | (rw [if_neg (fun z => z.elim hc_2 hs)] at hK; exact hK)
theorem d_Sh_isOf_0 : decode M_Sh_isOf.2.1 0 = .ok (.iload_n 1, 1) := by decide +kernel
theorem d_Sh_isOf_1 : decode M_Sh_isOf.2.1 1 = .ok (.iconst 1, 1) := by decide +kernel
theorem d_Sh_isOf_2 : decode M_Sh_isOf.2.1 2 = .ok (.if_icmp .eq 11, 3) := by decide +kernel
theorem d_Sh_isOf_5 : decode M_Sh_isOf.2.1 5 = .ok (.aload_n 0, 1) := by decide +kernel
theorem d_Sh_isOf_6 : decode M_Sh_isOf.2.1 6 = .ok (.iload_n 1, 1) := by decide +kernel
theorem d_Sh_isOf_7 : decode M_Sh_isOf.2.1 7 = .ok (.invokespecial 9, 3) := by decide +kernel
theorem d_Sh_isOf_10 : decode M_Sh_isOf.2.1 10 = .ok (.ifCond .eq 7, 3) := by decide +kernel
theorem d_Sh_isOf_13 : decode M_Sh_isOf.2.1 13 = .ok (.iconst 1, 1) := by decide +kernel
theorem d_Sh_isOf_14 : decode M_Sh_isOf.2.1 14 = .ok (.goto 4, 3) := by decide +kernel
theorem d_Sh_isOf_17 : decode M_Sh_isOf.2.1 17 = .ok (.iconst 0, 1) := by decide +kernel
theorem d_Sh_isOf_18 : decode M_Sh_isOf.2.1 18 = .ok (.ireturn, 1) := by decide +kernel
set_option maxHeartbeats 4000000 in
set_option maxRecDepth 100000 in
theorem ok_Sh_isOf {D : xD} {N : Nat} {l : Launch} {d : Nat} {g : List va_E} {K : Option Value → List va_E → Prop} {i ci : Nat} {fs : List Value} {v : Int32} (hr : g[i]? = some (.inr (ci, fs))) (hK : K (some (.int (if v = nI 1 ∨ v = 0 then nI 1 else nI 0))) g) : Ok D N l (d + 1) M_Sh_isOf [.ref (N + i), .int v] g 0 0 K := by
  refine ok_of (L := [(0, _), (1, _)]) (by decide) (Nat.le_of_ble_eq_true rfl) rfl ?_
  refine wp_iload_n d_Sh_isOf_0 rfl rfl ?_
  refine wp_iconst d_Sh_isOf_1 rfl ic_1 ?_
  refine wp_icmp_eq (tgt := 13) d_Sh_isOf_2 (by decide) rfl (fun hc_2 => ?_) (fun hc_2 => ?_)
  · refine wp_iconst d_Sh_isOf_13 rfl ic_1 ?_
    refine wp_goto (tgt := 18) d_Sh_isOf_14 (by decide) ?_
    refine wp_zret d_Sh_isOf_18 rfl (rfl) (Nat.le_refl _) (Nat.le_refl _) ?_
    first | (rw [if_pos (Or.inl hc_2)] at hK; exact hK) | (rw [if_pos (Or.inr hs)] at hK; exact hK) | (rw [if_neg (fun z => z.elim hc_2 hs)] at hK; exact hK)
  · refine wp_aload_n d_Sh_isOf_5 rfl rfl ?_
    refine wp_iload_n d_Sh_isOf_6 rfl rfl ?_
    refine wp_csu1 ls_Sh_9 (ro _ _ _) d_Sh_isOf_7 rfl (Nat.le_of_ble_eq_true rfl) (hr) (Nat.zero_le _) (Nat.zero_le _) ?_
    refine ok_Rn_isOf ?_
    by_cases hs : v = 0
    · rw [if_pos hs]
      refine wp_if_eq_f (tgt := 17) d_Sh_isOf_10 (by decide) rfl (by decide) ?_
      refine wp_iconst d_Sh_isOf_13 rfl ic_1 ?_
      refine wp_goto (tgt := 18) d_Sh_isOf_14 (by decide) ?_
      refine wp_zret d_Sh_isOf_18 rfl (rfl) (Nat.le_refl _) (Nat.le_refl _) ?_
      first | (rw [if_pos (Or.inl hc_2)] at hK; exact hK) | (rw [if_pos (Or.inr hs)] at hK; exact hK) | (rw [if_neg (fun z => z.elim hc_2 hs)] at hK; exact hK)
    · rw [if_neg hs]
      refine wp_if_eq_t (tgt := 17) d_Sh_isOf_10 (by decide) (by decide) ?_
      refine wp_iconst d_Sh_isOf_17 rfl ic_0 ?_
      refine wp_zret d_Sh_isOf_18 rfl (rfl) (Nat.le_refl _) (Nat.le_refl _) ?_
      first | (rw [if_pos (Or.inl hc_2)] at hK; exact hK) | (rw [if_pos (Or.inr hs)] at hK; exact hK) | (rw [if_neg (fun z => z.elim hc_2 hs)] at hK; exact hK)
theorem d_Ex_isOf_0 : decode M_Ex_isOf.2.1 0 = .ok (.iload_n 1, 1) := by decide +kernel
theorem d_Ex_isOf_1 : decode M_Ex_isOf.2.1 1 = .ok (.iconst 4, 1) := by decide +kernel
theorem d_Ex_isOf_2 : decode M_Ex_isOf.2.1 2 = .ok (.if_icmp .eq 11, 3) := by decide +kernel
theorem d_Ex_isOf_5 : decode M_Ex_isOf.2.1 5 = .ok (.aload_n 0, 1) := by decide +kernel
theorem d_Ex_isOf_6 : decode M_Ex_isOf.2.1 6 = .ok (.iload_n 1, 1) := by decide +kernel
theorem d_Ex_isOf_7 : decode M_Ex_isOf.2.1 7 = .ok (.invokespecial 9, 3) := by decide +kernel
theorem d_Ex_isOf_10 : decode M_Ex_isOf.2.1 10 = .ok (.ifCond .eq 7, 3) := by decide +kernel
theorem d_Ex_isOf_13 : decode M_Ex_isOf.2.1 13 = .ok (.iconst 1, 1) := by decide +kernel
theorem d_Ex_isOf_14 : decode M_Ex_isOf.2.1 14 = .ok (.goto 4, 3) := by decide +kernel
theorem d_Ex_isOf_17 : decode M_Ex_isOf.2.1 17 = .ok (.iconst 0, 1) := by decide +kernel
theorem d_Ex_isOf_18 : decode M_Ex_isOf.2.1 18 = .ok (.ireturn, 1) := by decide +kernel
set_option maxHeartbeats 4000000 in
set_option maxRecDepth 100000 in
theorem ok_Ex_isOf {D : xD} {N : Nat} {l : Launch} {d : Nat} {g : List va_E} {K : Option Value → List va_E → Prop} {i ci : Nat} {fs : List Value} {v : Int32} (hr : g[i]? = some (.inr (ci, fs))) (hK : K (some (.int (if v = nI 4 ∨ (v = nI 3 ∨ v = 0) then nI 1 else nI 0))) g) : Ok D N l (d + 2) M_Ex_isOf [.ref (N + i), .int v] g 0 0 K := by
  refine ok_of (L := [(0, _), (1, _)]) (by decide) (Nat.le_of_ble_eq_true rfl) rfl ?_
  refine wp_iload_n d_Ex_isOf_0 rfl rfl ?_
  refine wp_iconst d_Ex_isOf_1 rfl ic_4 ?_
  refine wp_icmp_eq (tgt := 13) d_Ex_isOf_2 (by decide) rfl (fun hc_2 => ?_) (fun hc_2 => ?_)
  · refine wp_iconst d_Ex_isOf_13 rfl ic_1 ?_
    refine wp_goto (tgt := 18) d_Ex_isOf_14 (by decide) ?_
    refine wp_zret d_Ex_isOf_18 rfl (rfl) (Nat.le_refl _) (Nat.le_refl _) ?_
    first | (rw [if_pos (Or.inl hc_2)] at hK; exact hK) | (rw [if_pos (Or.inr hs)] at hK; exact hK) | (rw [if_neg (fun z => z.elim hc_2 hs)] at hK; exact hK)
  · refine wp_aload_n d_Ex_isOf_5 rfl rfl ?_
    refine wp_iload_n d_Ex_isOf_6 rfl rfl ?_
    refine wp_csu1 ls_Ex_9 (ro _ _ _) d_Ex_isOf_7 rfl (Nat.le_of_ble_eq_true rfl) (hr) (Nat.zero_le _) (Nat.zero_le _) ?_
    refine ok_Ea_isOf hr ?_
    by_cases hs : (v = nI 3 ∨ v = 0)
    · rw [if_pos hs]
      refine wp_if_eq_f (tgt := 17) d_Ex_isOf_10 (by decide) rfl (by decide) ?_
      refine wp_iconst d_Ex_isOf_13 rfl ic_1 ?_
      refine wp_goto (tgt := 18) d_Ex_isOf_14 (by decide) ?_
      refine wp_zret d_Ex_isOf_18 rfl (rfl) (Nat.le_refl _) (Nat.le_refl _) ?_
      first | (rw [if_pos (Or.inl hc_2)] at hK; exact hK) | (rw [if_pos (Or.inr hs)] at hK; exact hK) | (rw [if_neg (fun z => z.elim hc_2 hs)] at hK; exact hK)
    · rw [if_neg hs]
      refine wp_if_eq_t (tgt := 17) d_Ex_isOf_10 (by decide) (by decide) ?_
      refine wp_iconst d_Ex_isOf_17 rfl ic_0 ?_
      refine wp_zret d_Ex_isOf_18 rfl (rfl) (Nat.le_refl _) (Nat.le_refl _) ?_
      first | (rw [if_pos (Or.inl hc_2)] at hK; exact hK) | (rw [if_pos (Or.inr hs)] at hK; exact hK) | (rw [if_neg (fun z => z.elim hc_2 hs)] at hK; exact hK)
theorem d_Hi_isOf_0 : decode M_Hi_isOf.2.1 0 = .ok (.iload_n 1, 1) := by decide +kernel
theorem d_Hi_isOf_1 : decode M_Hi_isOf.2.1 1 = .ok (.iconst 5, 1) := by decide +kernel
theorem d_Hi_isOf_2 : decode M_Hi_isOf.2.1 2 = .ok (.if_icmp .eq 11, 3) := by decide +kernel
theorem d_Hi_isOf_5 : decode M_Hi_isOf.2.1 5 = .ok (.aload_n 0, 1) := by decide +kernel
theorem d_Hi_isOf_6 : decode M_Hi_isOf.2.1 6 = .ok (.iload_n 1, 1) := by decide +kernel
theorem d_Hi_isOf_7 : decode M_Hi_isOf.2.1 7 = .ok (.invokespecial 15, 3) := by decide +kernel
theorem d_Hi_isOf_10 : decode M_Hi_isOf.2.1 10 = .ok (.ifCond .eq 7, 3) := by decide +kernel
theorem d_Hi_isOf_13 : decode M_Hi_isOf.2.1 13 = .ok (.iconst 1, 1) := by decide +kernel
theorem d_Hi_isOf_14 : decode M_Hi_isOf.2.1 14 = .ok (.goto 4, 3) := by decide +kernel
theorem d_Hi_isOf_17 : decode M_Hi_isOf.2.1 17 = .ok (.iconst 0, 1) := by decide +kernel
theorem d_Hi_isOf_18 : decode M_Hi_isOf.2.1 18 = .ok (.ireturn, 1) := by decide +kernel
set_option maxHeartbeats 4000000 in
set_option maxRecDepth 100000 in
theorem ok_Hi_isOf {D : xD} {N : Nat} {l : Launch} {d : Nat} {g : List va_E} {K : Option Value → List va_E → Prop} {i ci : Nat} {fs : List Value} {v : Int32} (hr : g[i]? = some (.inr (ci, fs))) (hK : K (some (.int (if v = nI 5 ∨ (v = nI 2 ∨ v = 0) then nI 1 else nI 0))) g) : Ok D N l (d + 2) M_Hi_isOf [.ref (N + i), .int v] g 0 0 K := by
  refine ok_of (L := [(0, _), (1, _)]) (by decide) (Nat.le_of_ble_eq_true rfl) rfl ?_
  refine wp_iload_n d_Hi_isOf_0 rfl rfl ?_
  refine wp_iconst d_Hi_isOf_1 rfl ic_5 ?_
  refine wp_icmp_eq (tgt := 13) d_Hi_isOf_2 (by decide) rfl (fun hc_2 => ?_) (fun hc_2 => ?_)
  · refine wp_iconst d_Hi_isOf_13 rfl ic_1 ?_
    refine wp_goto (tgt := 18) d_Hi_isOf_14 (by decide) ?_
    refine wp_zret d_Hi_isOf_18 rfl (rfl) (Nat.le_refl _) (Nat.le_refl _) ?_
    first | (rw [if_pos (Or.inl hc_2)] at hK; exact hK) | (rw [if_pos (Or.inr hs)] at hK; exact hK) | (rw [if_neg (fun z => z.elim hc_2 hs)] at hK; exact hK)
  · refine wp_aload_n d_Hi_isOf_5 rfl rfl ?_
    refine wp_iload_n d_Hi_isOf_6 rfl rfl ?_
    refine wp_csu1 ls_Hi_15 (ro _ _ _) d_Hi_isOf_7 rfl (Nat.le_of_ble_eq_true rfl) (hr) (Nat.zero_le _) (Nat.zero_le _) ?_
    refine ok_Em_isOf hr ?_
    by_cases hs : (v = nI 2 ∨ v = 0)
    · rw [if_pos hs]
      refine wp_if_eq_f (tgt := 17) d_Hi_isOf_10 (by decide) rfl (by decide) ?_
      refine wp_iconst d_Hi_isOf_13 rfl ic_1 ?_
      refine wp_goto (tgt := 18) d_Hi_isOf_14 (by decide) ?_
      refine wp_zret d_Hi_isOf_18 rfl (rfl) (Nat.le_refl _) (Nat.le_refl _) ?_
      first | (rw [if_pos (Or.inl hc_2)] at hK; exact hK) | (rw [if_pos (Or.inr hs)] at hK; exact hK) | (rw [if_neg (fun z => z.elim hc_2 hs)] at hK; exact hK)
    · rw [if_neg hs]
      refine wp_if_eq_t (tgt := 17) d_Hi_isOf_10 (by decide) (by decide) ?_
      refine wp_iconst d_Hi_isOf_17 rfl ic_0 ?_
      refine wp_zret d_Hi_isOf_18 rfl (rfl) (Nat.le_refl _) (Nat.le_refl _) ?_
      first | (rw [if_pos (Or.inl hc_2)] at hK; exact hK) | (rw [if_pos (Or.inr hs)] at hK; exact hK) | (rw [if_neg (fun z => z.elim hc_2 hs)] at hK; exact hK)
