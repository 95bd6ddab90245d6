theorem kw_ai : Cond.arrayClass .int ∈ lw_good := gw 45 (by decide +kernel) (by decide +kernel)
theorem kw_cl : Cond.classLink "FillAndGo$Tape" 15 "FillAndGo$Line" ∈ lw_good := gw 268 (by decide +kernel) (by decide +kernel)
theorem kw_in : Cond.instantiable "FillAndGo$Line" 6 ∈ lw_good := gw 501 (by decide +kernel) (by decide +kernel)
theorem kw_it : Cond.initialized "FillAndGo$Line" ∈ lw_good := gw 18 (by decide +kernel) (by decide +kernel)
section LN
variable {D : xD} {N : Nat} {c x V : T2} {ln df : Nat → Option Nat} {rest r : List va_E}
theorem fdX {q : Nat} {e : va_E} : (encC D N c x V ln df ++ rest).set (124 + q) e = encC D N c x V ln df ++ rest.set q e := by
  rw [List.set_append, if_neg (by rw [encC_len]; omega), encC_len, show 124 + q - 124 = q by omega]
theorem rdY {i : Nat} : (encC D N c x V ln df ++ (rest ++ r))[124 + (rest.length + i)]? = r[i]? := by
  rw [rdX, List.getElem?_append_right (by omega), show rest.length + i - rest.length = i by omega]
theorem fdY {i : Nat} {e : va_E} : (encC D N c x V ln df ++ (rest ++ r)).set (124 + (rest.length + i)) e = encC D N c x V ln df ++ (rest ++ r.set i e) := by
  rw [fdX, List.set_append, if_neg (by omega), show rest.length + i - rest.length = i by omega]
theorem ln_1 : (encC D N c x V ln df ++ (rest ++ r)).length = 124 + (rest.length + r.length) := by rw [List.length_append, List.length_append, encC_len]
theorem ap_1 {e : va_E} : (encC D N c x V ln df ++ (rest ++ r)) ++ [e] = encC D N c x V ln df ++ (rest ++ (r ++ [e])) := by rw [List.append_assoc, List.append_assoc]
theorem ln_0 : (encC D N c x V ln df ++ rest).length = 124 + rest.length := by rw [List.length_append, encC_len]
theorem ap_0 {e : va_E} : (encC D N c x V ln df ++ rest) ++ [e] = encC D N c x V ln df ++ (rest ++ [e]) := by rw [List.append_assoc]
end LN
def lnC (D : xD) (N j : Nat) (key num : Int32) (nt : Nat) (F S G : FN) : List va_E := [.inr (4, [.int key, .int num, .int (nI nt), .ref (N + (124 + (j + 1))), .ref (N + (124 + (j + 2))), .ref (N + (124 + (j + 3)))]), iA D 3 F, iA D 3 S, iA D 3 G]
theorem LAt.mk {D : xD} {N : Nat} {rest : List va_E} {key num : Int32} {nt : Nat} {F S G : FN} : LAt D N (rest ++ lnC D N rest.length key num nt F S G) rest.length key num nt F S G := by
  refine ⟨?_, ?_, ?_, ?_⟩
  · rw [List.getElem?_append_right (Nat.le_refl _), Nat.sub_self]; rfl
  · rw [List.getElem?_append_right (by omega), show rest.length + 1 - rest.length = 1 by omega]; rfl
  · rw [List.getElem?_append_right (by omega), show rest.length + 2 - rest.length = 2 by omega]; rfl
  · rw [List.getElem?_append_right (by omega), show rest.length + 3 - rest.length = 3 by omega]; rfl
def RSx (rest rest2 : List va_E) (j : Nat) : Prop := rest2.length = rest.length ∧ ∀ i, (i < j ∨ j + 4 ≤ i) → rest2[i]? = rest[i]?
theorem RSx.rf (rest : List va_E) (j : Nat) : RSx rest rest j := ⟨rfl, fun _ _ => rfl⟩
theorem RSx.tr {a b c : List va_E} {j : Nat} (h : RSx a b j) (g : RSx b c j) : RSx a c j := ⟨g.1.trans h.1, fun i hi => (g.2 i hi).trans (h.2 i hi)⟩
theorem RSx.set {a b : List va_E} {j q : Nat} (h : RSx a b j) (h1 : j ≤ q) (h2 : q < j + 4) (e : va_E) : RSx a (b.set q e) j := ⟨by rw [List.length_set]; exact h.1, fun i hi => by rw [List.getElem?_set_ne (by omega)]; exact h.2 i hi⟩
section LA
variable {D : xD} {N : Nat} {rest : List va_E} {j nt t : Nat} {key num v : Int32} {F S G : FN}
theorem LAt.setF (h : LAt D N rest j key num nt F S G) : LAt D N (rest.set (j + 1) (iA D 3 (upd F t v))) j key num nt (upd F t v) S G :=
  ⟨by rw [List.getElem?_set_ne (by omega)]; exact h.1, List.getElem?_set_self (List.getElem?_eq_some_iff.mp h.2.1).1, by rw [List.getElem?_set_ne (by omega)]; exact h.2.2.1, by rw [List.getElem?_set_ne (by omega)]; exact h.2.2.2⟩
theorem LAt.setS (h : LAt D N rest j key num nt F S G) : LAt D N (rest.set (j + 2) (iA D 3 (upd S t v))) j key num nt F (upd S t v) G :=
  ⟨by rw [List.getElem?_set_ne (by omega)]; exact h.1, by rw [List.getElem?_set_ne (by omega)]; exact h.2.1, List.getElem?_set_self (List.getElem?_eq_some_iff.mp h.2.2.1).1, by rw [List.getElem?_set_ne (by omega)]; exact h.2.2.2⟩
theorem LAt.setG (h : LAt D N rest j key num nt F S G) : LAt D N (rest.set (j + 3) (iA D 3 (upd G t v))) j key num nt F S (upd G t v) :=
  ⟨by rw [List.getElem?_set_ne (by omega)]; exact h.1, by rw [List.getElem?_set_ne (by omega)]; exact h.2.1, by rw [List.getElem?_set_ne (by omega)]; exact h.2.2.1, List.getElem?_set_self (List.getElem?_eq_some_iff.mp h.2.2.2).1⟩
theorem LAt.setN (h : LAt D N rest j key num nt F S G) {n2 : Nat} : LAt D N (rest.set j (.inr (4, [.int key, .int num, .int (nI n2), .ref (N + (124 + (j + 1))), .ref (N + (124 + (j + 2))), .ref (N + (124 + (j + 3)))]))) j key num n2 F S G :=
  ⟨List.getElem?_set_self (List.getElem?_eq_some_iff.mp h.1).1, by rw [List.getElem?_set_ne (by omega)]; exact h.2.1, by rw [List.getElem?_set_ne (by omega)]; exact h.2.2.1, by rw [List.getElem?_set_ne (by omega)]; exact h.2.2.2⟩
end LA
theorem d_Tp_parseTest_0 : decode M_Tp_parseTest.2.1 0 = .ok (.aload_n 0, 1) := by decide +kernel
theorem d_Tp_parseTest_1 : decode M_Tp_parseTest.2.1 1 = .ok (.ldc 56, 2) := by decide +kernel
theorem d_Tp_parseTest_3 : decode M_Tp_parseTest.2.1 3 = .ok (.invokevirtual 41, 3) := by decide +kernel
theorem d_Tp_parseTest_6 : decode M_Tp_parseTest.2.1 6 = .ok (.istore_n 3, 1) := by decide +kernel
theorem d_Tp_parseTest_7 : decode M_Tp_parseTest.2.1 7 = .ok (.iload_n 3, 1) := by decide +kernel
theorem d_Tp_parseTest_8 : decode M_Tp_parseTest.2.1 8 = .ok (.ifCond .ge 5, 3) := by decide +kernel
theorem d_Tp_parseTest_11 : decode M_Tp_parseTest.2.1 11 = .ok (.iconst 0, 1) := by decide +kernel
theorem d_Tp_parseTest_12 : decode M_Tp_parseTest.2.1 12 = .ok (.ireturn, 1) := by decide +kernel
theorem d_Tp_parseTest_13 : decode M_Tp_parseTest.2.1 13 = .ok (.aload_n 0, 1) := by decide +kernel
theorem d_Tp_parseTest_14 : decode M_Tp_parseTest.2.1 14 = .ok (.aload_n 0, 1) := by decide +kernel
theorem d_Tp_parseTest_15 : decode M_Tp_parseTest.2.1 15 = .ok (.getfield 25, 3) := by decide +kernel
theorem d_Tp_parseTest_18 : decode M_Tp_parseTest.2.1 18 = .ok (.invokevirtual 35, 3) := by decide +kernel
theorem d_Tp_parseTest_21 : decode M_Tp_parseTest.2.1 21 = .ok (.istore 4, 2) := by decide +kernel
theorem d_Tp_parseTest_23 : decode M_Tp_parseTest.2.1 23 = .ok (.iload 4, 2) := by decide +kernel
theorem d_Tp_parseTest_25 : decode M_Tp_parseTest.2.1 25 = .ok (.bipush 60, 2) := by decide +kernel
theorem d_Tp_parseTest_27 : decode M_Tp_parseTest.2.1 27 = .ok (.if_icmp .eq 19, 3) := by decide +kernel
theorem d_Tp_parseTest_30 : decode M_Tp_parseTest.2.1 30 = .ok (.iload 4, 2) := by decide +kernel
theorem d_Tp_parseTest_32 : decode M_Tp_parseTest.2.1 32 = .ok (.bipush 62, 2) := by decide +kernel
theorem d_Tp_parseTest_34 : decode M_Tp_parseTest.2.1 34 = .ok (.if_icmp .eq 12, 3) := by decide +kernel
theorem d_Tp_parseTest_37 : decode M_Tp_parseTest.2.1 37 = .ok (.iload 4, 2) := by decide +kernel
theorem d_Tp_parseTest_39 : decode M_Tp_parseTest.2.1 39 = .ok (.bipush 61, 2) := by decide +kernel
theorem d_Tp_parseTest_41 : decode M_Tp_parseTest.2.1 41 = .ok (.if_icmp .eq 5, 3) := by decide +kernel
theorem d_Tp_parseTest_44 : decode M_Tp_parseTest.2.1 44 = .ok (.iconst 0, 1) := by decide +kernel
theorem d_Tp_parseTest_45 : decode M_Tp_parseTest.2.1 45 = .ok (.ireturn, 1) := by decide +kernel
theorem d_Tp_parseTest_46 : decode M_Tp_parseTest.2.1 46 = .ok (.aload_n 0, 1) := by decide +kernel
theorem d_Tp_parseTest_47 : decode M_Tp_parseTest.2.1 47 = .ok (.dup, 1) := by decide +kernel
theorem d_Tp_parseTest_48 : decode M_Tp_parseTest.2.1 48 = .ok (.getfield 25, 3) := by decide +kernel
theorem d_Tp_parseTest_51 : decode M_Tp_parseTest.2.1 51 = .ok (.iconst 1, 1) := by decide +kernel
theorem d_Tp_parseTest_52 : decode M_Tp_parseTest.2.1 52 = .ok (.iadd, 1) := by decide +kernel
theorem d_Tp_parseTest_53 : decode M_Tp_parseTest.2.1 53 = .ok (.putfield 25, 3) := by decide +kernel
theorem d_Tp_parseTest_56 : decode M_Tp_parseTest.2.1 56 = .ok (.aload_n 0, 1) := by decide +kernel
theorem d_Tp_parseTest_57 : decode M_Tp_parseTest.2.1 57 = .ok (.invokevirtual 45, 3) := by decide +kernel
theorem d_Tp_parseTest_60 : decode M_Tp_parseTest.2.1 60 = .ok (.istore 5, 2) := by decide +kernel
theorem d_Tp_parseTest_62 : decode M_Tp_parseTest.2.1 62 = .ok (.iload 5, 2) := by decide +kernel
theorem d_Tp_parseTest_64 : decode M_Tp_parseTest.2.1 64 = .ok (.ifCond .ge 5, 3) := by decide +kernel
theorem d_Tp_parseTest_67 : decode M_Tp_parseTest.2.1 67 = .ok (.iconst 0, 1) := by decide +kernel
theorem d_Tp_parseTest_68 : decode M_Tp_parseTest.2.1 68 = .ok (.ireturn, 1) := by decide +kernel
theorem d_Tp_parseTest_69 : decode M_Tp_parseTest.2.1 69 = .ok (.aload_n 1, 1) := by decide +kernel
theorem d_Tp_parseTest_70 : decode M_Tp_parseTest.2.1 70 = .ok (.getfield 58, 3) := by decide +kernel
theorem d_Tp_parseTest_73 : decode M_Tp_parseTest.2.1 73 = .ok (.iload_n 2, 1) := by decide +kernel
theorem d_Tp_parseTest_74 : decode M_Tp_parseTest.2.1 74 = .ok (.iload_n 3, 1) := by decide +kernel
theorem d_Tp_parseTest_75 : decode M_Tp_parseTest.2.1 75 = .ok (.iastore, 1) := by decide +kernel
theorem d_Tp_parseTest_76 : decode M_Tp_parseTest.2.1 76 = .ok (.aload_n 1, 1) := by decide +kernel
theorem d_Tp_parseTest_77 : decode M_Tp_parseTest.2.1 77 = .ok (.getfield 62, 3) := by decide +kernel
theorem d_Tp_parseTest_80 : decode M_Tp_parseTest.2.1 80 = .ok (.iload_n 2, 1) := by decide +kernel
theorem d_Tp_parseTest_81 : decode M_Tp_parseTest.2.1 81 = .ok (.iload 4, 2) := by decide +kernel
theorem d_Tp_parseTest_83 : decode M_Tp_parseTest.2.1 83 = .ok (.iastore, 1) := by decide +kernel
theorem d_Tp_parseTest_84 : decode M_Tp_parseTest.2.1 84 = .ok (.aload_n 1, 1) := by decide +kernel
theorem d_Tp_parseTest_85 : decode M_Tp_parseTest.2.1 85 = .ok (.getfield 65, 3) := by decide +kernel
theorem d_Tp_parseTest_88 : decode M_Tp_parseTest.2.1 88 = .ok (.iload_n 2, 1) := by decide +kernel
theorem d_Tp_parseTest_89 : decode M_Tp_parseTest.2.1 89 = .ok (.iload 5, 2) := by decide +kernel
theorem d_Tp_parseTest_91 : decode M_Tp_parseTest.2.1 91 = .ok (.iastore, 1) := by decide +kernel
theorem d_Tp_parseTest_92 : decode M_Tp_parseTest.2.1 92 = .ok (.aload_n 1, 1) := by decide +kernel
theorem d_Tp_parseTest_93 : decode M_Tp_parseTest.2.1 93 = .ok (.iload_n 2, 1) := by decide +kernel
theorem d_Tp_parseTest_94 : decode M_Tp_parseTest.2.1 94 = .ok (.iconst 1, 1) := by decide +kernel
theorem d_Tp_parseTest_95 : decode M_Tp_parseTest.2.1 95 = .ok (.iadd, 1) := by decide +kernel
theorem d_Tp_parseTest_96 : decode M_Tp_parseTest.2.1 96 = .ok (.putfield 68, 3) := by decide +kernel
theorem d_Tp_parseTest_99 : decode M_Tp_parseTest.2.1 99 = .ok (.iconst 1, 1) := by decide +kernel
theorem d_Tp_parseTest_100 : decode M_Tp_parseTest.2.1 100 = .ok (.ireturn, 1) := by decide +kernel
set_option maxHeartbeats 4000000 in
set_option maxRecDepth 100000 in
theorem ok_Tp_parseTest {D : xD} {N : Nat} {l : Launch} {d : Nat} {c x V : T2} {ln df : Nat → Option Nat} {rest : List va_E} {K : Option Value → List va_E → Prop} {tp : Nat} (htp : c 32 8 = nI tp) (h160 : tp ≤ 160) (hB : TBy c tp) {j p t : Nat} {key num : Int32} {F S G : FN} (hA : LAt D N rest j key num t F S G) (ht : t < 3) (hx : x 3 0 = nI p) (hp : p ≤ tp) (h1 : ∀ v q, tst (byB c tp) p = (some v, q) → ∀ rest2, LAt D N rest2 j key num (t + 1) (upd F t v.1) (upd S t v.2.1) (upd G t v.2.2) → RSx rest rest2 j → K (some (.int (nI 1))) (encC D N c (xp x q) V ln df ++ rest2)) (h0 : ∀ q, tst (byB c tp) p = (none, q) → K (some (.int (nI 0))) (encC D N c (xp x q) V ln df ++ rest)) : Ok D N l (d + 5) M_Tp_parseTest [.ref (N + 72), .ref (N + (124 + j)), .int (nI t)] (encC D N c x V ln df ++ rest) 0 0 K := by
  have hw2 : (wdF (byB c tp) p).2 ≤ tp := pwW_tp byB_out factL 0 0 nom1F hp hp
  have tail : ¬ (wdF (byB c tp) p).1 = -1 → ((byB c tp) (wdF (byB c tp) p).2 = nI 60 ∨ (byB c tp) (wdF (byB c tp) p).2 = nI 62 ∨ (byB c tp) (wdF (byB c tp) p).2 = nI 61) → Wp D N l (EI M_Tp_parseTest) M_Tp_parseTest (Rm (d + 5) 0 0) (Qm D N K 0 0) 0 0 46 [(4, .int ((byB c tp) (wdF (byB c tp) p).2)), (3, .int (wdF (byB c tp) p).1), (0, .ref (N + 72)), (1, .ref (N + (124 + j))), (2, .int (nI t))] [] (encC D N c (xp x (wdF (byB c tp) p).2) V ln df ++ rest) := by
    intro hne hs
    have hw1 : (wdF (byB c tp) p).2 + 1 ≤ tp := by
      have : ¬ tp ≤ (wdF (byB c tp) p).2 := fun q => by rw [byB_out _ q] at hs; exact absurd hs (by decide)
      omega
    have ets_n : (spN (byB c tp) ((wdF (byB c tp) p).2 + 1)).1 = -1 → tst (byB c tp) p = (none, (spN (byB c tp) ((wdF (byB c tp) p).2 + 1)).2) := fun e => by
      unfold tst
      rw [if_neg hne, if_neg (fun g => g hs), if_pos e]
    have ets_y : ¬ (spN (byB c tp) ((wdF (byB c tp) p).2 + 1)).1 = -1 → tst (byB c tp) p = (some ((wdF (byB c tp) p).1, (byB c tp) (wdF (byB c tp) p).2, (spN (byB c tp) ((wdF (byB c tp) p).2 + 1)).1), (spN (byB c tp) ((wdF (byB c tp) p).2 + 1)).2) := fun e => by
      unfold tst
      rw [if_neg hne, if_neg (fun g => g hs), if_neg e]
    refine wp_aload_n (q := 47) d_Tp_parseTest_46 rfl rfl ?_
    refine wp_dup (q := 48) d_Tp_parseTest_47 rfl rfl ?_
    refine wp_get (q := 51) fl_Tp_25 d_Tp_parseTest_48 rfl rfl rfl ?_
    rw [xp_at]
    refine wp_iconst (q := 52) d_Tp_parseTest_51 rfl ic_1 ?_
    first | refine wp_iaddN (q := 53) d_Tp_parseTest_52 rfl ?_ | refine wp_iadd (q := 53) d_Tp_parseTest_52 rfl ?_
    refine wp_put (q := 56) fl_Tp_25 d_Tp_parseTest_53 rfl rfl (Nat.le_of_ble_eq_true rfl) rfl rfl (fc_x30) ?_
    rw [show ∀ (z2 : T2) (q : Nat), tput z2 3 (upd (z2 3) 0 (nI q)) = xp z2 q from fun _ _ => rfl, xp_xp]
    refine wp_aload_n (q := 57) d_Tp_parseTest_56 rfl rfl ?_
    refine wp_cv0 (q := 60) lk_Tp_45 (ro _ _ _) d_Tp_parseTest_57 rfl (Nat.le_of_ble_eq_true rfl) (rfl) rfl (Nat.zero_le _) (Nat.zero_le _) ?_
    refine ok_Tp_parseNumber htp h160 hB (xp_at _ _) hw1 ?_
    rw [xp_xp]
    refine wp_istore (q := 62) (L2 := [(5, _), (4, _), (3, _), (0, _), (1, _), (2, _)]) d_Tp_parseTest_60 rfl (by decide) rfl ?_
    refine wp_iload (q := 64) d_Tp_parseTest_62 rfl rfl ?_
    refine wp_if_ge (q := 67) (tgt := 69) d_Tp_parseTest_64 (by decide) rfl (fun hc_64 => ?_) (fun hc_64 => ?_)
    · refine wp_aload_n (q := 70) d_Tp_parseTest_69 rfl rfl ?_
      refine wp_get (q := 73) fl_Tp_58 d_Tp_parseTest_70 rfl (rdX.trans hA.1) rfl ?_
      refine wp_iload_n (q := 74) d_Tp_parseTest_73 rfl rfl ?_
      refine wp_iload_n (q := 75) d_Tp_parseTest_74 rfl rfl ?_
      refine wp_iast (q := 76) d_Tp_parseTest_75 rfl (rdX.trans hA.2.1) (by omega) (by decide) (fdX) ?_
      have hA1 := hA.setF (t := t) (v := (wdF (byB c tp) p).1)
      refine wp_aload_n (q := 77) d_Tp_parseTest_76 rfl rfl ?_
      refine wp_get (q := 80) fl_Tp_62 d_Tp_parseTest_77 rfl (rdX.trans hA1.1) rfl ?_
      refine wp_iload_n (q := 81) d_Tp_parseTest_80 rfl rfl ?_
      refine wp_iload (q := 83) d_Tp_parseTest_81 rfl rfl ?_
      refine wp_iast (q := 84) d_Tp_parseTest_83 rfl (rdX.trans hA1.2.2.1) (by omega) (by decide) (fdX) ?_
      have hA2 := hA1.setS (t := t) (v := (byB c tp) (wdF (byB c tp) p).2)
      refine wp_aload_n (q := 85) d_Tp_parseTest_84 rfl rfl ?_
      refine wp_get (q := 88) fl_Tp_65 d_Tp_parseTest_85 rfl (rdX.trans hA2.1) rfl ?_
      refine wp_iload_n (q := 89) d_Tp_parseTest_88 rfl rfl ?_
      refine wp_iload (q := 91) d_Tp_parseTest_89 rfl rfl ?_
      refine wp_iast (q := 92) d_Tp_parseTest_91 rfl (rdX.trans hA2.2.2.2) (by omega) (by decide) (fdX) ?_
      have hA3 := hA2.setG (t := t) (v := (spN (byB c tp) ((wdF (byB c tp) p).2 + 1)).1)
      refine wp_aload_n (q := 93) d_Tp_parseTest_92 rfl rfl ?_
      refine wp_iload_n (q := 94) d_Tp_parseTest_93 rfl rfl ?_
      refine wp_iconst (q := 95) d_Tp_parseTest_94 rfl ic_1 ?_
      first | refine wp_iaddN (q := 96) d_Tp_parseTest_95 rfl ?_ | refine wp_iadd (q := 96) d_Tp_parseTest_95 rfl ?_
      refine wp_put (q := 99) fl_Tp_68 d_Tp_parseTest_96 rfl (rdX.trans hA3.1) (Nat.le_of_ble_eq_true rfl) rfl rfl (fdX) ?_
      refine wp_iconst (q := 100) d_Tp_parseTest_99 rfl ic_1 ?_
      refine wp_zret d_Tp_parseTest_100 rfl (rfl) (Nat.le_refl _) (Nat.le_refl _) ?_
      refine h1 _ _ (ets_y (fun e => ?_)) _ hA3.setN ((((RSx.rf rest j).set (by omega) (by omega) _).set (by omega) (by omega) _).set (by omega) (by omega) _ |>.set (by omega) (by omega) _)
      rw [e] at hc_64
      exact absurd hc_64 (by decide)
    · refine wp_iconst (q := 68) d_Tp_parseTest_67 rfl ic_0 ?_
      refine wp_zret d_Tp_parseTest_68 rfl (rfl) (Nat.le_refl _) (Nat.le_refl _) ?_
      refine h0 _ (ets_n ?_)
      rcases spN_v (byB c tp) ((wdF (byB c tp) p).2 + 1) with e | e
      · exact e
      · obtain ⟨a, ha, ea⟩ := e.ex
        exact absurd (by rw [ea]; exact nI_pos' (by omega)) hc_64
  refine ok_of (L := [(0, _), (1, _), (2, _)]) (by decide) (Nat.le_of_ble_eq_true rfl) rfl ?_
  refine wp_aload_n (q := 1) d_Tp_parseTest_0 rfl rfl ?_
  refine wp_txt1 (q := 3) rfl d_Tp_parseTest_1 rfl ?_
  refine wp_cv1 (q := 6) lk_Tp_41 (ro _ _ _) d_Tp_parseTest_3 rfl (Nat.le_of_ble_eq_true rfl) (rfl) rfl (Nat.zero_le _) (Nat.zero_le _) ?_
  refine ok_Tp_parseWord_F htp h160 hB hx hp ?_
  refine wp_istore_n (q := 7) (L2 := [(3, _), (0, _), (1, _), (2, _)]) d_Tp_parseTest_6 rfl (by decide) rfl ?_
  refine wp_iload_n (q := 8) d_Tp_parseTest_7 rfl rfl ?_
  refine wp_if_ge (q := 11) (tgt := 13) d_Tp_parseTest_8 (by decide) rfl (fun hc_8 => ?_) (fun hc_8 => ?_)
  · refine wp_aload_n (q := 14) d_Tp_parseTest_13 rfl rfl ?_
    refine wp_aload_n (q := 15) d_Tp_parseTest_14 rfl rfl ?_
    refine wp_get (q := 18) fl_Tp_25 d_Tp_parseTest_15 rfl rfl rfl ?_
    rw [xp_at]
    refine wp_cv1 (q := 21) lk_Tp_35 (ro _ _ _) d_Tp_parseTest_18 rfl (Nat.le_of_ble_eq_true rfl) (rfl) rfl (Nat.zero_le _) (Nat.zero_le _) ?_
    refine ok_Tp_byteAt htp h160 hB (by omega) ?_
    refine wp_istore (q := 23) (L2 := [(4, _), (3, _), (0, _), (1, _), (2, _)]) d_Tp_parseTest_21 rfl (by decide) rfl ?_
    refine wp_iload (q := 25) d_Tp_parseTest_23 rfl rfl ?_
    refine wp_bipush (q := 27) d_Tp_parseTest_25 rfl bp_60 ?_
    refine wp_icmp_eq (q := 30) (tgt := 46) d_Tp_parseTest_27 (by decide) rfl (fun hc_27 => ?_) (fun hc_27 => ?_)
    · exact tail (fun e => by rw [e] at hc_8; exact absurd hc_8 (by decide)) (Or.inl hc_27)
    · refine wp_iload (q := 32) d_Tp_parseTest_30 rfl rfl ?_
      refine wp_bipush (q := 34) d_Tp_parseTest_32 rfl bp_62 ?_
      refine wp_icmp_eq (q := 37) (tgt := 46) d_Tp_parseTest_34 (by decide) rfl (fun hc_34 => ?_) (fun hc_34 => ?_)
      · exact tail (fun e => by rw [e] at hc_8; exact absurd hc_8 (by decide)) (Or.inr (Or.inl hc_34))
      · refine wp_iload (q := 39) d_Tp_parseTest_37 rfl rfl ?_
        refine wp_bipush (q := 41) d_Tp_parseTest_39 rfl bp_61 ?_
        refine wp_icmp_eq (q := 44) (tgt := 46) d_Tp_parseTest_41 (by decide) rfl (fun hc_41 => ?_) (fun hc_41 => ?_)
        · exact tail (fun e => by rw [e] at hc_8; exact absurd hc_8 (by decide)) (Or.inr (Or.inr hc_41))
        · refine wp_iconst (q := 45) d_Tp_parseTest_44 rfl ic_0 ?_
          refine wp_zret d_Tp_parseTest_45 rfl (rfl) (Nat.le_refl _) (Nat.le_refl _) ?_
          refine h0 _ ?_
          unfold tst
          rw [if_neg (fun e => by rw [e] at hc_8; exact absurd hc_8 (by decide)), if_pos (fun g => g.elim hc_27 (fun g => g.elim hc_34 hc_41))]
  · refine wp_iconst (q := 12) d_Tp_parseTest_11 rfl ic_0 ?_
    refine wp_zret d_Tp_parseTest_12 rfl (rfl) (Nat.le_refl _) (Nat.le_refl _) ?_
    refine h0 _ ?_
    unfold tst
    rw [if_pos ?_]
    rcases wdF_v (B := byB c tp) (p := p) with e | e
    · exact e
    · obtain ⟨a, ha, ea⟩ := e.ex
      exact absurd (by rw [ea]; exact nI_pos' (by omega)) hc_8
theorem d_Ln_init_0 : decode M_Ln_init.2.1 0 = .ok (.aload_n 0, 1) := by decide +kernel
theorem d_Ln_init_1 : decode M_Ln_init.2.1 1 = .ok (.invokespecial 3, 3) := by decide +kernel
theorem d_Ln_init_4 : decode M_Ln_init.2.1 4 = .ok (.aload_n 0, 1) := by decide +kernel
theorem d_Ln_init_5 : decode M_Ln_init.2.1 5 = .ok (.iconst 3, 1) := by decide +kernel
theorem d_Ln_init_6 : decode M_Ln_init.2.1 6 = .ok (.newarray .int, 2) := by decide +kernel
theorem d_Ln_init_8 : decode M_Ln_init.2.1 8 = .ok (.putfield 9, 3) := by decide +kernel
theorem d_Ln_init_11 : decode M_Ln_init.2.1 11 = .ok (.aload_n 0, 1) := by decide +kernel
theorem d_Ln_init_12 : decode M_Ln_init.2.1 12 = .ok (.iconst 3, 1) := by decide +kernel
theorem d_Ln_init_13 : decode M_Ln_init.2.1 13 = .ok (.newarray .int, 2) := by decide +kernel
theorem d_Ln_init_15 : decode M_Ln_init.2.1 15 = .ok (.putfield 15, 3) := by decide +kernel
theorem d_Ln_init_18 : decode M_Ln_init.2.1 18 = .ok (.aload_n 0, 1) := by decide +kernel
theorem d_Ln_init_19 : decode M_Ln_init.2.1 19 = .ok (.iconst 3, 1) := by decide +kernel
theorem d_Ln_init_20 : decode M_Ln_init.2.1 20 = .ok (.newarray .int, 2) := by decide +kernel
theorem d_Ln_init_22 : decode M_Ln_init.2.1 22 = .ok (.putfield 18, 3) := by decide +kernel
theorem d_Ln_init_25 : decode M_Ln_init.2.1 25 = .ok (.aload_n 0, 1) := by decide +kernel
theorem d_Ln_init_26 : decode M_Ln_init.2.1 26 = .ok (.iload_n 1, 1) := by decide +kernel
theorem d_Ln_init_27 : decode M_Ln_init.2.1 27 = .ok (.putfield 21, 3) := by decide +kernel
theorem d_Ln_init_30 : decode M_Ln_init.2.1 30 = .ok (.aload_n 0, 1) := by decide +kernel
theorem d_Ln_init_31 : decode M_Ln_init.2.1 31 = .ok (.iload_n 2, 1) := by decide +kernel
theorem d_Ln_init_32 : decode M_Ln_init.2.1 32 = .ok (.putfield 25, 3) := by decide +kernel
theorem d_Ln_init_35 : decode M_Ln_init.2.1 35 = .ok (.return_, 1) := by decide +kernel
set_option maxHeartbeats 4000000 in
set_option maxRecDepth 100000 in
theorem ok_Ln_init {D : xD} {N : Nat} {l : Launch} {d : Nat} {c x V : T2} {ln df : Nat → Option Nat} {rest : List va_E} {K : Option Value → List va_E → Prop} {key num : Int32} (hK : K none (encC D N c x V ln df ++ (rest ++ lnC D N rest.length key num 0 (fun _ => 0) (fun _ => 0) (fun _ => 0)))) : Ok D N l (d + 1) M_Ln_init [.ref (N + (124 + rest.length)), .int key, .int num] (encC D N c x V ln df ++ (rest ++ [.inr (4, [.int 0, .int 0, .int 0, .null, .null, .null])])) 3 9 K := by
  refine ok_of (L := [(0, _), (1, _), (2, _)]) (by decide) (Nat.le_of_ble_eq_true rfl) rfl ?_
  refine wp_aload_n (q := 1) d_Ln_init_0 rfl rfl ?_
  refine wp_objInit (q := 4) ko_Ln_3 ko_inst ko_code (RO0 ()) d_Ln_init_1 rfl (Nat.le_of_ble_eq_true rfl) ?_
  refine wp_aload_n (q := 5) d_Ln_init_4 rfl rfl ?_
  refine wp_iconst (q := 6) d_Ln_init_5 rfl ic_3 ?_
  refine wp_newa 0 (q := 8) (atype := .int) (ty := .int) (N' := 3) (a0 := (3, .inl (fun _ => 0))) rfl rfl rfl kw_ai d_Ln_init_6 rfl (fun cA => rfl) (by decide) (by decide) (Nat.le_of_ble_eq_true rfl) (Nat.le_of_ble_eq_true rfl) ?_
  rw [ln_1, ap_1]
  refine wp_putF (q := 11) fl_Ln_9 (fun _ _ _ h => h rfl) rfl d_Ln_init_8 rfl ((rdY (i := 0)).trans rfl) (Nat.le_of_ble_eq_true rfl) rfl rfl (fdY (i := 0)) ?_
  refine wp_aload_n (q := 12) d_Ln_init_11 rfl rfl ?_
  refine wp_iconst (q := 13) d_Ln_init_12 rfl ic_3 ?_
  refine wp_newa 0 (q := 15) (atype := .int) (ty := .int) (N' := 3) (a0 := (3, .inl (fun _ => 0))) rfl rfl rfl kw_ai d_Ln_init_13 rfl (fun cA => rfl) (by decide) (by decide) (Nat.le_of_ble_eq_true rfl) (Nat.le_of_ble_eq_true rfl) ?_
  rw [ln_1, ap_1]
  refine wp_putF (q := 18) fl_Ln_15 (fun _ _ _ h => h rfl) rfl d_Ln_init_15 rfl ((rdY (i := 0)).trans rfl) (Nat.le_of_ble_eq_true rfl) rfl rfl (fdY (i := 0)) ?_
  refine wp_aload_n (q := 19) d_Ln_init_18 rfl rfl ?_
  refine wp_iconst (q := 20) d_Ln_init_19 rfl ic_3 ?_
  refine wp_newa 0 (q := 22) (atype := .int) (ty := .int) (N' := 3) (a0 := (3, .inl (fun _ => 0))) rfl rfl rfl kw_ai d_Ln_init_20 rfl (fun cA => rfl) (by decide) (by decide) (Nat.le_of_ble_eq_true rfl) (Nat.le_of_ble_eq_true rfl) ?_
  rw [ln_1, ap_1]
  refine wp_putF (q := 25) fl_Ln_18 (fun _ _ _ h => h rfl) rfl d_Ln_init_22 rfl ((rdY (i := 0)).trans rfl) (Nat.le_of_ble_eq_true rfl) rfl rfl (fdY (i := 0)) ?_
  refine wp_aload_n (q := 26) d_Ln_init_25 rfl rfl ?_
  refine wp_iload_n (q := 27) d_Ln_init_26 rfl rfl ?_
  refine wp_putF (q := 30) fl_Ln_21 (fun _ _ _ h => h rfl) rfl d_Ln_init_27 rfl ((rdY (i := 0)).trans rfl) (Nat.le_of_ble_eq_true rfl) rfl rfl (fdY (i := 0)) ?_
  refine wp_aload_n (q := 31) d_Ln_init_30 rfl rfl ?_
  refine wp_iload_n (q := 32) d_Ln_init_31 rfl rfl ?_
  refine wp_putF (q := 35) fl_Ln_25 (fun _ _ _ h => h rfl) rfl d_Ln_init_32 rfl ((rdY (i := 0)).trans rfl) (Nat.le_of_ble_eq_true rfl) rfl rfl (fdY (i := 0)) ?_
  refine wp_vret d_Ln_init_35 rfl (Nat.le_refl _) (Nat.le_refl _) ?_
  exact hK
theorem d_Tp_parseLine_0 : decode M_Tp_parseLine.2.1 0 = .ok (.aload_n 0, 1) := by decide +kernel
theorem d_Tp_parseLine_1 : decode M_Tp_parseLine.2.1 1 = .ok (.ldc 39, 2) := by decide +kernel
theorem d_Tp_parseLine_3 : decode M_Tp_parseLine.2.1 3 = .ok (.invokevirtual 41, 3) := by decide +kernel
theorem d_Tp_parseLine_6 : decode M_Tp_parseLine.2.1 6 = .ok (.istore_n 1, 1) := by decide +kernel
theorem d_Tp_parseLine_7 : decode M_Tp_parseLine.2.1 7 = .ok (.iload_n 1, 1) := by decide +kernel
theorem d_Tp_parseLine_8 : decode M_Tp_parseLine.2.1 8 = .ok (.ifCond .lt 16, 3) := by decide +kernel
theorem d_Tp_parseLine_11 : decode M_Tp_parseLine.2.1 11 = .ok (.aload_n 0, 1) := by decide +kernel
theorem d_Tp_parseLine_12 : decode M_Tp_parseLine.2.1 12 = .ok (.aload_n 0, 1) := by decide +kernel
theorem d_Tp_parseLine_13 : decode M_Tp_parseLine.2.1 13 = .ok (.getfield 25, 3) := by decide +kernel
theorem d_Tp_parseLine_16 : decode M_Tp_parseLine.2.1 16 = .ok (.invokevirtual 35, 3) := by decide +kernel
theorem d_Tp_parseLine_19 : decode M_Tp_parseLine.2.1 19 = .ok (.bipush 61, 2) := by decide +kernel
theorem d_Tp_parseLine_21 : decode M_Tp_parseLine.2.1 21 = .ok (.if_icmp .eq 5, 3) := by decide +kernel
theorem d_Tp_parseLine_24 : decode M_Tp_parseLine.2.1 24 = .ok (.aconst_null, 1) := by decide +kernel
theorem d_Tp_parseLine_25 : decode M_Tp_parseLine.2.1 25 = .ok (.areturn, 1) := by decide +kernel
theorem d_Tp_parseLine_26 : decode M_Tp_parseLine.2.1 26 = .ok (.aload_n 0, 1) := by decide +kernel
theorem d_Tp_parseLine_27 : decode M_Tp_parseLine.2.1 27 = .ok (.dup, 1) := by decide +kernel
theorem d_Tp_parseLine_28 : decode M_Tp_parseLine.2.1 28 = .ok (.getfield 25, 3) := by decide +kernel
theorem d_Tp_parseLine_31 : decode M_Tp_parseLine.2.1 31 = .ok (.iconst 1, 1) := by decide +kernel
theorem d_Tp_parseLine_32 : decode M_Tp_parseLine.2.1 32 = .ok (.iadd, 1) := by decide +kernel
theorem d_Tp_parseLine_33 : decode M_Tp_parseLine.2.1 33 = .ok (.putfield 25, 3) := by decide +kernel
theorem d_Tp_parseLine_36 : decode M_Tp_parseLine.2.1 36 = .ok (.aload_n 0, 1) := by decide +kernel
theorem d_Tp_parseLine_37 : decode M_Tp_parseLine.2.1 37 = .ok (.invokevirtual 45, 3) := by decide +kernel
theorem d_Tp_parseLine_40 : decode M_Tp_parseLine.2.1 40 = .ok (.istore_n 2, 1) := by decide +kernel
theorem d_Tp_parseLine_41 : decode M_Tp_parseLine.2.1 41 = .ok (.iload_n 2, 1) := by decide +kernel
theorem d_Tp_parseLine_42 : decode M_Tp_parseLine.2.1 42 = .ok (.ifCond .ge 5, 3) := by decide +kernel
theorem d_Tp_parseLine_45 : decode M_Tp_parseLine.2.1 45 = .ok (.aconst_null, 1) := by decide +kernel
theorem d_Tp_parseLine_46 : decode M_Tp_parseLine.2.1 46 = .ok (.areturn, 1) := by decide +kernel
theorem d_Tp_parseLine_47 : decode M_Tp_parseLine.2.1 47 = .ok (.new 15, 3) := by decide +kernel
theorem d_Tp_parseLine_50 : decode M_Tp_parseLine.2.1 50 = .ok (.dup, 1) := by decide +kernel
theorem d_Tp_parseLine_51 : decode M_Tp_parseLine.2.1 51 = .ok (.iload_n 1, 1) := by decide +kernel
theorem d_Tp_parseLine_52 : decode M_Tp_parseLine.2.1 52 = .ok (.iload_n 2, 1) := by decide +kernel
theorem d_Tp_parseLine_53 : decode M_Tp_parseLine.2.1 53 = .ok (.invokespecial 49, 3) := by decide +kernel
theorem d_Tp_parseLine_56 : decode M_Tp_parseLine.2.1 56 = .ok (.astore_n 3, 1) := by decide +kernel
theorem d_Tp_parseLine_57 : decode M_Tp_parseLine.2.1 57 = .ok (.iconst 0, 1) := by decide +kernel
theorem d_Tp_parseLine_58 : decode M_Tp_parseLine.2.1 58 = .ok (.istore 4, 2) := by decide +kernel
theorem d_Tp_parseLine_60 : decode M_Tp_parseLine.2.1 60 = .ok (.iload 4, 2) := by decide +kernel
theorem d_Tp_parseLine_62 : decode M_Tp_parseLine.2.1 62 = .ok (.iconst 3, 1) := by decide +kernel
theorem d_Tp_parseLine_63 : decode M_Tp_parseLine.2.1 63 = .ok (.if_icmp .ge 44, 3) := by decide +kernel
theorem d_Tp_parseLine_66 : decode M_Tp_parseLine.2.1 66 = .ok (.aload_n 0, 1) := by decide +kernel
theorem d_Tp_parseLine_67 : decode M_Tp_parseLine.2.1 67 = .ok (.aload_n 0, 1) := by decide +kernel
theorem d_Tp_parseLine_68 : decode M_Tp_parseLine.2.1 68 = .ok (.getfield 25, 3) := by decide +kernel
theorem d_Tp_parseLine_71 : decode M_Tp_parseLine.2.1 71 = .ok (.invokevirtual 35, 3) := by decide +kernel
theorem d_Tp_parseLine_74 : decode M_Tp_parseLine.2.1 74 = .ok (.bipush 63, 2) := by decide +kernel
theorem d_Tp_parseLine_76 : decode M_Tp_parseLine.2.1 76 = .ok (.if_icmp .ne 31, 3) := by decide +kernel
theorem d_Tp_parseLine_79 : decode M_Tp_parseLine.2.1 79 = .ok (.aload_n 0, 1) := by decide +kernel
theorem d_Tp_parseLine_80 : decode M_Tp_parseLine.2.1 80 = .ok (.dup, 1) := by decide +kernel
theorem d_Tp_parseLine_81 : decode M_Tp_parseLine.2.1 81 = .ok (.getfield 25, 3) := by decide +kernel
theorem d_Tp_parseLine_84 : decode M_Tp_parseLine.2.1 84 = .ok (.iconst 1, 1) := by decide +kernel
theorem d_Tp_parseLine_85 : decode M_Tp_parseLine.2.1 85 = .ok (.iadd, 1) := by decide +kernel
theorem d_Tp_parseLine_86 : decode M_Tp_parseLine.2.1 86 = .ok (.putfield 25, 3) := by decide +kernel
theorem d_Tp_parseLine_89 : decode M_Tp_parseLine.2.1 89 = .ok (.aload_n 0, 1) := by decide +kernel
theorem d_Tp_parseLine_90 : decode M_Tp_parseLine.2.1 90 = .ok (.aload_n 3, 1) := by decide +kernel
theorem d_Tp_parseLine_91 : decode M_Tp_parseLine.2.1 91 = .ok (.iload 4, 2) := by decide +kernel
theorem d_Tp_parseLine_93 : decode M_Tp_parseLine.2.1 93 = .ok (.invokevirtual 52, 3) := by decide +kernel
theorem d_Tp_parseLine_96 : decode M_Tp_parseLine.2.1 96 = .ok (.ifCond .ne 5, 3) := by decide +kernel
theorem d_Tp_parseLine_99 : decode M_Tp_parseLine.2.1 99 = .ok (.aconst_null, 1) := by decide +kernel
theorem d_Tp_parseLine_100 : decode M_Tp_parseLine.2.1 100 = .ok (.areturn, 1) := by decide +kernel
theorem d_Tp_parseLine_101 : decode M_Tp_parseLine.2.1 101 = .ok (.iinc 4 1, 3) := by decide +kernel
theorem d_Tp_parseLine_104 : decode M_Tp_parseLine.2.1 104 = .ok (.goto (-44), 3) := by decide +kernel
theorem d_Tp_parseLine_107 : decode M_Tp_parseLine.2.1 107 = .ok (.aload_n 3, 1) := by decide +kernel
theorem d_Tp_parseLine_108 : decode M_Tp_parseLine.2.1 108 = .ok (.areturn, 1) := by decide +kernel
set_option maxHeartbeats 4000000 in
set_option maxRecDepth 100000 in
theorem pl_tests {D : xD} {N : Nat} {l : Launch} {d : Nat} {c V : T2} {ln df : Nat → Option Nat} {K : Option Value → List va_E → Prop} {tp : Nat} (htp : c 32 8 = nI tp) (h160 : tp ≤ 160) (hB : TBy c tp) {j : Nat} {key num : Int32} : ∀ (f t p : Nat) (F S G : FN) (rest : List va_E) (x : T2), t + f = 3 → LAt D N rest j key num t F S G → x 3 0 = nI p → p ≤ tp → (∀ v q, (tsF (byB c tp) f t p F S G) = (some v, q) → ∀ rest2, LAt D N rest2 j key num v.1 v.2.1 v.2.2.1 v.2.2.2 → RSx rest rest2 j → K (some (.ref (N + (124 + j)))) (encC D N c (xp x q) V ln df ++ rest2)) → (∀ q, (tsF (byB c tp) f t p F S G) = (none, q) → ∀ rest2, RSx rest rest2 j → K (some .null) (encC D N c (xp x q) V ln df ++ rest2)) → Wp D N l (EI M_Tp_parseLine) M_Tp_parseLine (Rm (d + 6) 4 15) (Qm D N K 4 15) 4 15 60 [(4, .int (nI t)), (3, .ref (N + (124 + j))), (2, .int num), (1, .int key), (0, .ref (N + 72))] [] (encC D N c x V ln df ++ rest) := by
  intro f
  induction f with
  | zero =>
    intro t p F S G rest x htf hA hx hp h1 h0
    refine wp_iload (q := 62) d_Tp_parseLine_60 rfl rfl ?_
    refine wp_iconst (q := 63) d_Tp_parseLine_62 rfl ic_3 ?_
    refine wp_icmp_ge_t (tgt := 107) d_Tp_parseLine_63 (by decide) (nI_le (by omega) (by omega)) ?_
    refine wp_aload_n (q := 108) d_Tp_parseLine_107 rfl rfl ?_
    refine wp_aret d_Tp_parseLine_108 rfl (Or.inl ⟨_, rfl⟩) (Or.inr ⟨_, rfl⟩) (Nat.le_refl _) (Nat.le_refl _) ?_
    have h := h1 (t, F, S, G) p (by rw [tsF]) rest hA (RSx.rf rest j)
    rw [xp_self hx] at h
    exact h
  | succ f ih =>
    intro t p F S G rest x htf hA hx hp h1 h0
    refine wp_iload (q := 62) d_Tp_parseLine_60 rfl rfl ?_
    refine wp_iconst (q := 63) d_Tp_parseLine_62 rfl ic_3 ?_
    refine wp_icmp_ge_f (q := 66) (tgt := 107) d_Tp_parseLine_63 (by decide) rfl (nI_ge (by omega) (by decide)) ?_
    refine wp_aload_n (q := 67) d_Tp_parseLine_66 rfl rfl ?_
    refine wp_aload_n (q := 68) d_Tp_parseLine_67 rfl rfl ?_
    refine wp_get (q := 71) fl_Tp_25 d_Tp_parseLine_68 rfl rfl rfl ?_
    rw [hx]
    refine wp_cv1 (q := 74) lk_Tp_35 (ro _ _ _) d_Tp_parseLine_71 rfl (Nat.le_of_ble_eq_true rfl) (rfl) rfl (Nat.le_refl _) (Nat.le_refl _) ?_
    refine ok_Tp_byteAt htp h160 hB (by omega) ?_
    refine wp_bipush (q := 76) d_Tp_parseLine_74 rfl bp_63 ?_
    refine wp_icmp_ne (q := 79) (tgt := 107) d_Tp_parseLine_76 (by decide) rfl (fun hc_76 => ?_) (fun hc_76 => ?_)
    · refine wp_aload_n (q := 108) d_Tp_parseLine_107 rfl rfl ?_
      refine wp_aret d_Tp_parseLine_108 rfl (Or.inl ⟨_, rfl⟩) (Or.inr ⟨_, rfl⟩) (Nat.le_refl _) (Nat.le_refl _) ?_
      have h := h1 (t, F, S, G) p (by rw [tsF, if_neg hc_76]) rest hA (RSx.rf rest j)
      rw [xp_self hx] at h
      exact h
    · have hp1 : p + 1 ≤ tp := by
        have : ¬ tp ≤ p := fun q => by rw [byB_out p q] at hc_76; exact absurd hc_76 (by decide)
        omega
      refine wp_aload_n (q := 80) d_Tp_parseLine_79 rfl rfl ?_
      refine wp_dup (q := 81) d_Tp_parseLine_80 rfl rfl ?_
      refine wp_get (q := 84) fl_Tp_25 d_Tp_parseLine_81 rfl rfl rfl ?_
      rw [hx]
      refine wp_iconst (q := 85) d_Tp_parseLine_84 rfl ic_1 ?_
      first | refine wp_iaddN (q := 86) d_Tp_parseLine_85 rfl ?_ | refine wp_iadd (q := 86) d_Tp_parseLine_85 rfl ?_
      refine wp_put (q := 89) fl_Tp_25 d_Tp_parseLine_86 rfl rfl (Nat.le_of_ble_eq_true rfl) rfl rfl (fc_x30) ?_
      rw [show ∀ (z2 : T2) (q : Nat), tput z2 3 (upd (z2 3) 0 (nI q)) = xp z2 q from fun _ _ => rfl]
      refine wp_aload_n (q := 90) d_Tp_parseLine_89 rfl rfl ?_
      refine wp_aload_n (q := 91) d_Tp_parseLine_90 rfl rfl ?_
      refine wp_iload (q := 93) d_Tp_parseLine_91 rfl rfl ?_
      refine wp_cv2 (q := 96) lk_Tp_52 (ro _ _ _) d_Tp_parseLine_93 rfl (Nat.le_of_ble_eq_true rfl) (rfl) rfl (Nat.le_refl _) (Nat.le_refl _) ?_
      refine ok_Tp_parseTest htp h160 hB hA (by omega) (xp_at _ _) hp1 (fun v q ev rest2 hA2 hr2 => ?_) (fun q ev => ?_)
      · refine wp_if_ne_t (tgt := 101) d_Tp_parseLine_96 (by decide) (by decide) ?_
        refine wp_iinc (q := 104) (L2 := [(4, _), (3, _), (2, _), (1, _), (0, _)]) d_Tp_parseLine_101 rfl rfl (iinc_1) (by decide) rfl ?_
        refine wp_goto (tgt := 60) d_Tp_parseLine_104 (by decide) ?_
        rw [xp_xp]
        have hqt : q ≤ tp := by have := tst_tp (B := byB c tp) byB_out hp1; rw [ev] at this; exact this
        refine ih (t + 1) q (upd F t v.1) (upd S t v.2.1) (upd G t v.2.2) rest2 (xp x q) (by omega) hA2 (xp_at _ _) hqt (fun v2 q2 e2 rest3 hA3 hr3 => ?_) (fun q2 e2 rest3 hr3 => ?_)
        · rw [xp_xp]; exact h1 v2 q2 (by rw [tsF, if_pos hc_76, ev]; exact e2) rest3 hA3 (hr2.tr hr3)
        · rw [xp_xp]; exact h0 q2 (by rw [tsF, if_pos hc_76, ev]; exact e2) rest3 (hr2.tr hr3)
      · refine wp_if_ne_f (q := 99) (tgt := 101) d_Tp_parseLine_96 (by decide) rfl (by decide) ?_
        refine wp_null (q := 100) d_Tp_parseLine_99 rfl ?_
        refine wp_aret d_Tp_parseLine_100 rfl (Or.inl ⟨_, rfl⟩) (Or.inl rfl) (Nat.le_refl _) (Nat.le_refl _) ?_
        rw [xp_xp]
        exact h0 q (by rw [tsF, if_pos hc_76, ev]) rest (RSx.rf rest j)
set_option maxHeartbeats 4000000 in
set_option maxRecDepth 100000 in
theorem ok_Tp_parseLine {D : xD} {N : Nat} {l : Launch} {d : Nat} {c x V : T2} {ln df : Nat → Option Nat} {rest : List va_E} {K : Option Value → List va_E → Prop} {tp : Nat} (htp : c 32 8 = nI tp) (h160 : tp ≤ 160) (hB : TBy c tp) {p : Nat} (hx : x 3 0 = nI p) (hp : p ≤ tp) (h1 : ∀ (v : LR) q, pln (byB c tp) p = (some v, q) → ∀ rest2, LAt D N rest2 rest.length v.1 v.2.1 v.2.2.1 v.2.2.2.1 v.2.2.2.2.1 v.2.2.2.2.2 → (∀ i, i < rest.length → rest2[i]? = rest[i]?) → K (some (.ref (N + (124 + rest.length)))) (encC D N c (xp x q) V ln df ++ rest2)) (h0 : ∀ q, pln (byB c tp) p = (none, q) → ∀ rest2 : List va_E, (∀ i, i < rest.length → rest2[i]? = rest[i]?) → rest.length ≤ rest2.length → K (some .null) (encC D N c (xp x q) V ln df ++ rest2)) : Ok D N l (d + 6) M_Tp_parseLine [.ref (N + 72)] (encC D N c x V ln df ++ rest) 4 15 K := by
  have hw2 : (wdK (byB c tp) p).2 ≤ tp := pwW_tp byB_out keysL 0 0 nom1K hp hp
  refine ok_of (L := [(0, _)]) (by decide) (Nat.le_of_ble_eq_true rfl) rfl ?_
  refine wp_aload_n (q := 1) d_Tp_parseLine_0 rfl rfl ?_
  refine wp_txt0 (q := 3) rfl d_Tp_parseLine_1 rfl ?_
  refine wp_cv1 (q := 6) lk_Tp_41 (ro _ _ _) d_Tp_parseLine_3 rfl (Nat.le_of_ble_eq_true rfl) (rfl) rfl (Nat.zero_le _) (Nat.zero_le _) ?_
  refine ok_Tp_parseWord_K htp h160 hB hx hp ?_
  refine wp_istore_n (q := 7) (L2 := [(1, _), (0, _)]) d_Tp_parseLine_6 rfl (by decide) rfl ?_
  refine wp_iload_n (q := 8) d_Tp_parseLine_7 rfl rfl ?_
  refine wp_if_lt (q := 11) (tgt := 24) d_Tp_parseLine_8 (by decide) rfl (fun hc_8 => ?_) (fun hc_8 => ?_)
  · have e8 : (wdK (byB c tp) p).1 = -1 := by
      rcases wdK_v (B := byB c tp) (p := p) with e | e
      · exact e
      · obtain ⟨a, ha, ea⟩ := e.ex
        rw [ea] at hc_8
        exact absurd hc_8 (nI_pos (by omega))
    refine wp_null (q := 25) d_Tp_parseLine_24 rfl ?_
    refine wp_aret d_Tp_parseLine_25 rfl (Or.inl ⟨_, rfl⟩) (Or.inl rfl) (Nat.zero_le _) (Nat.zero_le _) ?_
    refine h0 _ ?_ rest (fun _ _ => rfl) (Nat.le_refl _)
    unfold pln
    rw [if_pos (Or.inl e8)]
  · refine wp_aload_n (q := 12) d_Tp_parseLine_11 rfl rfl ?_
    refine wp_aload_n (q := 13) d_Tp_parseLine_12 rfl rfl ?_
    refine wp_get (q := 16) fl_Tp_25 d_Tp_parseLine_13 rfl rfl rfl ?_
    rw [xp_at]
    refine wp_cv1 (q := 19) lk_Tp_35 (ro _ _ _) d_Tp_parseLine_16 rfl (Nat.le_of_ble_eq_true rfl) (rfl) rfl (Nat.zero_le _) (Nat.zero_le _) ?_
    refine ok_Tp_byteAt htp h160 hB (by omega) ?_
    refine wp_bipush (q := 21) d_Tp_parseLine_19 rfl bp_61 ?_
    refine wp_icmp_eq (q := 24) (tgt := 26) d_Tp_parseLine_21 (by decide) rfl (fun hc_21 => ?_) (fun hc_21 => ?_)
    · refine wp_aload_n (q := 27) d_Tp_parseLine_26 rfl rfl ?_
      refine wp_dup (q := 28) d_Tp_parseLine_27 rfl rfl ?_
      refine wp_get (q := 31) fl_Tp_25 d_Tp_parseLine_28 rfl rfl rfl ?_
      rw [xp_at]
      refine wp_iconst (q := 32) d_Tp_parseLine_31 rfl ic_1 ?_
      first | refine wp_iaddN (q := 33) d_Tp_parseLine_32 rfl ?_ | refine wp_iadd (q := 33) d_Tp_parseLine_32 rfl ?_
      refine wp_put (q := 36) fl_Tp_25 d_Tp_parseLine_33 rfl rfl (Nat.le_of_ble_eq_true rfl) rfl rfl (fc_x30) ?_
      rw [show ∀ (z2 : T2) (q : Nat), tput z2 3 (upd (z2 3) 0 (nI q)) = xp z2 q from fun _ _ => rfl, xp_xp]
      have hw1 : (wdK (byB c tp) p).2 + 1 ≤ tp := by
        have : ¬ tp ≤ (wdK (byB c tp) p).2 := fun q => by rw [byB_out _ q] at hc_21; exact absurd hc_21 (by decide)
        omega
      refine wp_aload_n (q := 37) d_Tp_parseLine_36 rfl rfl ?_
      refine wp_cv0 (q := 40) lk_Tp_45 (ro _ _ _) d_Tp_parseLine_37 rfl (Nat.le_of_ble_eq_true rfl) (rfl) rfl (Nat.zero_le _) (Nat.zero_le _) ?_
      refine ok_Tp_parseNumber htp h160 hB (xp_at _ _) hw1 ?_
      rw [xp_xp]
      refine wp_istore_n (q := 41) (L2 := [(2, _), (1, _), (0, _)]) d_Tp_parseLine_40 rfl (by decide) rfl ?_
      refine wp_iload_n (q := 42) d_Tp_parseLine_41 rfl rfl ?_
      refine wp_if_ge (q := 45) (tgt := 47) d_Tp_parseLine_42 (by decide) rfl (fun hc_42 => ?_) (fun hc_42 => ?_)
      · refine wp_new (q := 50) (ci := 4) (Cn := RX4) (T := TX4) (nf := 6) (fs := [.int 0, .int 0, .int 0, .null, .null, .null]) (ty0 := tyX4) rfl inX4 tyX4_ok kw_cl kw_in kw_it d_Tp_parseLine_47 rfl (fun j hj => by rcases (show j = 0 ∨ j = 1 ∨ j = 2 ∨ j = 3 ∨ j = 4 ∨ j = 5 by omega) with rfl | rfl | rfl | rfl | rfl | rfl <;> rfl) (Nat.le_of_ble_eq_true rfl) (Nat.le_of_ble_eq_true rfl) ?_
        rw [ln_0, ap_0]
        refine wp_dup (q := 51) d_Tp_parseLine_50 rfl rfl ?_
        refine wp_iload_n (q := 52) d_Tp_parseLine_51 rfl rfl ?_
        refine wp_iload_n (q := 53) d_Tp_parseLine_52 rfl rfl ?_
        refine wp_callI (q := 56) (mc := 3) (ms := 9) [.int (wdK (byB c tp) p).1, .int (spN (byB c tp) ((wdK (byB c tp) p).2 + 1)).1] lk_Tp_49 (ro _ _ _) d_Tp_parseLine_53 rfl rfl rfl (Nat.le_of_ble_eq_true rfl) (Nat.le_of_ble_eq_true rfl) (Nat.le_of_ble_eq_true rfl) ?_
        refine ok_Ln_init ?_
        refine wp_astore_n (q := 57) (L2 := [(3, _), (2, _), (1, _), (0, _)]) d_Tp_parseLine_56 rfl (by decide) rfl ?_
        refine wp_iconst (q := 58) d_Tp_parseLine_57 rfl ic_0 ?_
        refine wp_istore (q := 60) (L2 := [(4, _), (3, _), (2, _), (1, _), (0, _)]) d_Tp_parseLine_58 rfl (by decide) rfl ?_
        refine pl_tests htp h160 hB 3 0 (spN (byB c tp) ((wdK (byB c tp) p).2 + 1)).2 (fun _ => 0) (fun _ => 0) (fun _ => 0) _ (xp x (spN (byB c tp) ((wdK (byB c tp) p).2 + 1)).2) (by decide) LAt.mk (xp_at _ _) (spN_tp byB_out hw1) (fun v q ev rest2 hA2 hr2 => ?_) (fun q ev rest2 hr2 => ?_)
        · rw [xp_xp]
          refine h1 ((wdK (byB c tp) p).1, (spN (byB c tp) ((wdK (byB c tp) p).2 + 1)).1, v) q ?_ rest2 hA2 (fun i hi => by rw [hr2.2 i (Or.inl hi), List.getElem?_append_left hi])
          unfold pln
          rw [if_neg (fun g => g.elim (fun e : (wdK (byB c tp) p).1 = -1 => hc_8 (by rw [e]; decide)) (fun g => g hc_21)), if_neg (fun e : (spN (byB c tp) ((wdK (byB c tp) p).2 + 1)).1 = -1 => by rw [e] at hc_42; exact absurd hc_42 (by decide)), ev]
        · rw [xp_xp]
          refine h0 q ?_ rest2 (fun i hi => by rw [hr2.2 i (Or.inl hi), List.getElem?_append_left hi]) (by rw [hr2.1, List.length_append]; omega)
          unfold pln
          rw [if_neg (fun g => g.elim (fun e : (wdK (byB c tp) p).1 = -1 => hc_8 (by rw [e]; decide)) (fun g => g hc_21)), if_neg (fun e : (spN (byB c tp) ((wdK (byB c tp) p).2 + 1)).1 = -1 => by rw [e] at hc_42; exact absurd hc_42 (by decide)), ev]
      · have e4 : (spN (byB c tp) ((wdK (byB c tp) p).2 + 1)).1 = -1 := by
          rcases spN_v (byB c tp) ((wdK (byB c tp) p).2 + 1) with e | e
          · exact e
          · obtain ⟨a, ha, ea⟩ := e.ex
            rw [ea] at hc_42
            exact absurd (nI_pos' (by omega)) hc_42
        refine wp_null (q := 46) d_Tp_parseLine_45 rfl ?_
        refine wp_aret d_Tp_parseLine_46 rfl (Or.inl ⟨_, rfl⟩) (Or.inl rfl) (Nat.zero_le _) (Nat.zero_le _) ?_
        refine h0 _ ?_ rest (fun _ _ => rfl) (Nat.le_refl _)
        unfold pln
        rw [if_neg (fun g => g.elim (fun e : (wdK (byB c tp) p).1 = -1 => hc_8 (by rw [e]; decide)) (fun g => g hc_21)), if_pos e4]
    · refine wp_null (q := 25) d_Tp_parseLine_24 rfl ?_
      refine wp_aret d_Tp_parseLine_25 rfl (Or.inl ⟨_, rfl⟩) (Or.inl rfl) (Nat.zero_le _) (Nat.zero_le _) ?_
      refine h0 _ ?_ rest (fun _ _ => rfl) (Nat.le_refl _)
      unfold pln
      rw [if_pos (Or.inr hc_21)]
