abbrev fit (i n : Int32) (sz : Nat) : Prop := 0 ≤ i.toInt ∧ 0 ≤ n.toInt ∧ i.toInt + n.toInt ≤ (sz : Int)
theorem fitN {a m sz : Nat} (ha : a < 2 ^ 31) (hm : m < 2 ^ 31) : fit (nI a) (nI m) sz ↔ a + m ≤ sz := by
  unfold fit
  rw [nI_toInt ha, nI_toInt hm]
  omega
theorem i_neg {i : Int32} (h : i < 0) : ¬ 0 ≤ i.toInt := by
  have : i.toInt < 0 := Int32.lt_iff_toInt_lt.mp h
  omega
theorem fit_n1 {i n : Int32} {sz : Nat} (h : i < 0) : ¬ fit i n sz := fun g => i_neg h g.1
theorem fit_n2 {i n : Int32} {sz : Nat} (h : n < 0) : ¬ fit i n sz := fun g => i_neg h g.2.1
theorem lg_gt {x y : Int64} : (0 < lg_cmp x y) ↔ y.toInt < x.toInt := by
  unfold lg_cmp
  rw [← Int64.lt_iff_toInt_lt]
  repeat' split
  all_goals simp_all
theorem i2l_add {a m : Nat} (ha : a < 2 ^ 31) (hm : m < 2 ^ 31) : ((nI a).toInt64 + (nI m).toInt64).toInt = (a : Int) + m := by
  rw [Int64.toInt_add, Int32.toInt_toInt64, Int32.toInt_toInt64, nI_toInt ha, nI_toInt hm, Int.bmod_def]
  split <;> omega
def cpT (f : Nat → Int32) (a b n : Nat) : Nat → Int32 := fun p => if b ≤ p ∧ p < b + n then f (a + (p - b)) else f p
def cpD (f : Nat → Int32) (a b m k : Nat) : Nat → Int32 := fun p => if b + (m - k) ≤ p ∧ p < b + m then f (a + (p - b)) else f p
theorem cpT_0 {f : Nat → Int32} {a b : Nat} : cpT f a b 0 = f := by funext p; simp only [cpT]; rw [if_neg (by omega)]
theorem cpD_0 {f : Nat → Int32} {a b m : Nat} : cpD f a b m 0 = f := by funext p; simp only [cpD]; rw [if_neg (by omega)]
theorem cpD_m {f : Nat → Int32} {a b m : Nat} : cpD f a b m m = cpT f a b m := by funext p; simp only [cpD, cpT, Nat.sub_self, Nat.add_zero]
theorem cpT_s {f : Nat → Int32} {a b k : Nat} (h : b ≤ a) : upd (cpT f a b k) (b + k) (cpT f a b k (a + k)) = cpT f a b (k + 1) := by
  have e : cpT f a b k (a + k) = f (a + k) := by simp only [cpT]; rw [if_neg (by omega)]
  rw [e]
  funext p
  simp only [upd, cpT]
  repeat' split
  all_goals first | rfl | omega | (congr 1; omega)
theorem cpD_s {f : Nat → Int32} {a b m k : Nat} (h : a < b) (hk : k < m) : upd (cpD f a b m k) (b + (m - 1 - k)) (cpD f a b m k (a + (m - 1 - k))) = cpD f a b m (k + 1) := by
  have e : cpD f a b m k (a + (m - 1 - k)) = f (a + (m - 1 - k)) := by simp only [cpD]; rw [if_neg (by omega)]
  rw [e]
  funext p
  simp only [upd, cpD]
  repeat' split
  all_goals first | rfl | omega | (congr 1; omega)
def sp_copy (c : T2) (s i w j n : Int32) : Int32 × T2 := if ¬ inn s 3 ∨ ¬ inn w 3 then (-2, c) else if c 29 (tn s) = -1 ∨ c 29 (tn w) = -1 then (-11, c) else if ¬ c 29 (tn s) = c 29 (tn w) then (-13, c) else if ¬ fit i n (tn (c 30 (tn s))) ∨ ¬ fit j n (tn (c 30 (tn w))) then (-12, c) else (n, tput c 31 (cpT (c 31) (40 * tn s + tn i) (40 * tn w + tn j) (tn n)))
theorem d_FG_holdsAll_0 : decode M_FG_holdsAll.2.1 0 = .ok (.iload_n 2, 1) := by decide +kernel
theorem d_FG_holdsAll_1 : decode M_FG_holdsAll.2.1 1 = .ok (.ifCond .lt 27, 3) := by decide +kernel
theorem d_FG_holdsAll_4 : decode M_FG_holdsAll.2.1 4 = .ok (.iload_n 3, 1) := by decide +kernel
theorem d_FG_holdsAll_5 : decode M_FG_holdsAll.2.1 5 = .ok (.ifCond .lt 23, 3) := by decide +kernel
theorem d_FG_holdsAll_8 : decode M_FG_holdsAll.2.1 8 = .ok (.iload_n 2, 1) := by decide +kernel
theorem d_FG_holdsAll_9 : decode M_FG_holdsAll.2.1 9 = .ok (.i2l, 1) := by decide +kernel
theorem d_FG_holdsAll_10 : decode M_FG_holdsAll.2.1 10 = .ok (.iload_n 3, 1) := by decide +kernel
theorem d_FG_holdsAll_11 : decode M_FG_holdsAll.2.1 11 = .ok (.i2l, 1) := by decide +kernel
theorem d_FG_holdsAll_12 : decode M_FG_holdsAll.2.1 12 = .ok (.ladd, 1) := by decide +kernel
theorem d_FG_holdsAll_13 : decode M_FG_holdsAll.2.1 13 = .ok (.aload_n 0, 1) := by decide +kernel
theorem d_FG_holdsAll_14 : decode M_FG_holdsAll.2.1 14 = .ok (.getfield 50, 3) := by decide +kernel
theorem d_FG_holdsAll_17 : decode M_FG_holdsAll.2.1 17 = .ok (.iload_n 1, 1) := by decide +kernel
theorem d_FG_holdsAll_18 : decode M_FG_holdsAll.2.1 18 = .ok (.iaload, 1) := by decide +kernel
theorem d_FG_holdsAll_19 : decode M_FG_holdsAll.2.1 19 = .ok (.i2l, 1) := by decide +kernel
theorem d_FG_holdsAll_20 : decode M_FG_holdsAll.2.1 20 = .ok (.lcmp, 1) := by decide +kernel
theorem d_FG_holdsAll_21 : decode M_FG_holdsAll.2.1 21 = .ok (.ifCond .gt 7, 3) := by decide +kernel
theorem d_FG_holdsAll_24 : decode M_FG_holdsAll.2.1 24 = .ok (.iconst 1, 1) := by decide +kernel
theorem d_FG_holdsAll_25 : decode M_FG_holdsAll.2.1 25 = .ok (.goto 4, 3) := by decide +kernel
theorem d_FG_holdsAll_28 : decode M_FG_holdsAll.2.1 28 = .ok (.iconst 0, 1) := by decide +kernel
theorem d_FG_holdsAll_29 : decode M_FG_holdsAll.2.1 29 = .ok (.ireturn, 1) := by decide +kernel
set_option maxHeartbeats 4000000 in
set_option maxRecDepth 100000 in
theorem ok_FG_holdsAll {D : xD} {N : Nat} {l : Launch} {d : Nat} {c x V : T2} {ln df : Nat → Option Nat} {rest : List va_E} {K : Option Value → List va_E → Prop} {s sz : Nat} {i n : Int32} (hs : s < 4) (es : c 30 s = nI sz) (hsz : sz < 41) (h1 : ∀ a m : Nat, a + m ≤ sz → i = nI a → n = nI m → K (some (.int (nI 1))) (encC D N c x V ln df ++ rest)) (h0 : ¬ fit i n sz → K (some (.int (nI 0))) (encC D N c x V ln df ++ rest)) : Ok D N l d M_FG_holdsAll [.ref (N + 0), .int (nI s), .int i, .int n] (encC D N c x V ln df ++ rest) 0 0 K := by
  refine ok_of (L := [(0, _), (1, _), (2, _), (3, _)]) (by decide) (Nat.le_of_ble_eq_true rfl) rfl ?_
  refine wp_iload_n (q := 1) d_FG_holdsAll_0 rfl rfl ?_
  refine wp_if_lt (q := 4) (tgt := 28) d_FG_holdsAll_1 (by decide) rfl (fun hc_1 => ?_) (fun hc_1 => ?_)
  · refine wp_iconst (q := 29) d_FG_holdsAll_28 rfl ic_0 ?_
    refine wp_zret d_FG_holdsAll_29 rfl (rfl) (Nat.le_refl _) (Nat.le_refl _) ?_
    exact h0 (fit_n1 hc_1)
  · obtain ⟨a, ha, rfl⟩ := nI_of hc_1
    refine wp_iload_n (q := 5) d_FG_holdsAll_4 rfl rfl ?_
    refine wp_if_lt (q := 8) (tgt := 28) d_FG_holdsAll_5 (by decide) rfl (fun hc_5 => ?_) (fun hc_5 => ?_)
    · refine wp_iconst (q := 29) d_FG_holdsAll_28 rfl ic_0 ?_
      refine wp_zret d_FG_holdsAll_29 rfl (rfl) (Nat.le_refl _) (Nat.le_refl _) ?_
      exact h0 (fit_n2 hc_5)
    · obtain ⟨m, hm, rfl⟩ := nI_of hc_5
      refine wp_iload_n (q := 9) d_FG_holdsAll_8 rfl rfl ?_
      refine wp_i2l (q := 10) d_FG_holdsAll_9 rfl ?_
      refine wp_iload_n (q := 11) d_FG_holdsAll_10 rfl rfl ?_
      refine wp_i2l (q := 12) d_FG_holdsAll_11 rfl ?_
      refine wp_ladd (q := 13) d_FG_holdsAll_12 rfl ?_
      refine wp_aload_n (q := 14) d_FG_holdsAll_13 rfl rfl ?_
      refine wp_get (q := 17) fl_FG_50 d_FG_holdsAll_14 rfl rfl rfl ?_
      refine wp_iload_n (q := 18) d_FG_holdsAll_17 rfl rfl ?_
      refine wp_iald (q := 19) d_FG_holdsAll_18 rfl (rfl) (by omega) (by decide) ?_
      rw [es]
      refine wp_i2l (q := 20) d_FG_holdsAll_19 rfl ?_
      refine wp_lcmp (q := 21) d_FG_holdsAll_20 rfl ?_
      refine wp_if_gt (q := 24) (tgt := 28) d_FG_holdsAll_21 (by decide) rfl (fun hc_21 => ?_) (fun hc_21 => ?_)
      · refine wp_iconst (q := 29) d_FG_holdsAll_28 rfl ic_0 ?_
        refine wp_zret d_FG_holdsAll_29 rfl (rfl) (Nat.le_refl _) (Nat.le_refl _) ?_
        rw [lg_gt, i2l_add ha hm, Int32.toInt_toInt64, nI_toInt (by omega)] at hc_21
        exact h0 (fun g => by rw [fitN ha hm] at g; omega)
      · refine wp_iconst (q := 25) d_FG_holdsAll_24 rfl ic_1 ?_
        refine wp_goto (tgt := 29) d_FG_holdsAll_25 (by decide) ?_
        refine wp_zret d_FG_holdsAll_29 rfl (rfl) (Nat.le_refl _) (Nat.le_refl _) ?_
        rw [lg_gt, i2l_add ha hm, Int32.toInt_toInt64, nI_toInt (by omega)] at hc_21
        exact h1 a m (by omega) rfl rfl
theorem fd_copy {D : xD} {N : Nat} {c x V : T2} {ln df : Nat → Option Nat} {rest : List va_E} {s w a b m : Nat} (hw : w < 4) (h1 : a + m ≤ 40) (h2 : b + m ≤ 40) : (encC D N c x V ln df ++ rest).set (118 + w) (iA D 40 (va_cpy (sl (c 31) (40 * s) 40) (sl (c 31) (40 * w) 40) a b m)) = encC D N (tput c 31 (cpT (c 31) (40 * s + a) (40 * w + b) m)) x V ln df ++ rest := by
  have e : va_cpy (sl (c 31) (40 * s) 40) (sl (c 31) (40 * w) 40) a b m = sl (cpT (c 31) (40 * s + a) (40 * w + b) m) (40 * w) 40 := by
    funext p
    simp only [va_cpy, sl, cpT]
    repeat' split
    all_goals first | rfl | omega | (congr 1; omega)
  rw [e]
  refine fd_sheet0 (i := 0) hw (fun r2 h3 h4 => ?_)
  funext p
  simp only [sl, cpT]
  split
  · rw [if_neg (by omega)]
  · rfl
theorem d_FG_copy_0 : decode M_FG_copy.2.1 0 = .ok (.iload_n 1, 1) := by decide +kernel
theorem d_FG_copy_1 : decode M_FG_copy.2.1 1 = .ok (.invokestatic 255, 3) := by decide +kernel
theorem d_FG_copy_4 : decode M_FG_copy.2.1 4 = .ok (.ifCond .eq 10, 3) := by decide +kernel
theorem d_FG_copy_7 : decode M_FG_copy.2.1 7 = .ok (.iload_n 3, 1) := by decide +kernel
theorem d_FG_copy_8 : decode M_FG_copy.2.1 8 = .ok (.invokestatic 255, 3) := by decide +kernel
theorem d_FG_copy_11 : decode M_FG_copy.2.1 11 = .ok (.ifCond .ne 6, 3) := by decide +kernel
theorem d_FG_copy_14 : decode M_FG_copy.2.1 14 = .ok (.bipush (-2), 2) := by decide +kernel
theorem d_FG_copy_16 : decode M_FG_copy.2.1 16 = .ok (.ireturn, 1) := by decide +kernel
theorem d_FG_copy_17 : decode M_FG_copy.2.1 17 = .ok (.aload_n 0, 1) := by decide +kernel
theorem d_FG_copy_18 : decode M_FG_copy.2.1 18 = .ok (.getfield 54, 3) := by decide +kernel
theorem d_FG_copy_21 : decode M_FG_copy.2.1 21 = .ok (.iload_n 1, 1) := by decide +kernel
theorem d_FG_copy_22 : decode M_FG_copy.2.1 22 = .ok (.iaload, 1) := by decide +kernel
theorem d_FG_copy_23 : decode M_FG_copy.2.1 23 = .ok (.iconst (-1), 1) := by decide +kernel
theorem d_FG_copy_24 : decode M_FG_copy.2.1 24 = .ok (.if_icmp .eq 13, 3) := by decide +kernel
theorem d_FG_copy_27 : decode M_FG_copy.2.1 27 = .ok (.aload_n 0, 1) := by decide +kernel
theorem d_FG_copy_28 : decode M_FG_copy.2.1 28 = .ok (.getfield 54, 3) := by decide +kernel
theorem d_FG_copy_31 : decode M_FG_copy.2.1 31 = .ok (.iload_n 3, 1) := by decide +kernel
theorem d_FG_copy_32 : decode M_FG_copy.2.1 32 = .ok (.iaload, 1) := by decide +kernel
theorem d_FG_copy_33 : decode M_FG_copy.2.1 33 = .ok (.iconst (-1), 1) := by decide +kernel
theorem d_FG_copy_34 : decode M_FG_copy.2.1 34 = .ok (.if_icmp .ne 6, 3) := by decide +kernel
theorem d_FG_copy_37 : decode M_FG_copy.2.1 37 = .ok (.bipush (-11), 2) := by decide +kernel
theorem d_FG_copy_39 : decode M_FG_copy.2.1 39 = .ok (.ireturn, 1) := by decide +kernel
theorem d_FG_copy_40 : decode M_FG_copy.2.1 40 = .ok (.aload_n 0, 1) := by decide +kernel
theorem d_FG_copy_41 : decode M_FG_copy.2.1 41 = .ok (.getfield 54, 3) := by decide +kernel
theorem d_FG_copy_44 : decode M_FG_copy.2.1 44 = .ok (.iload_n 1, 1) := by decide +kernel
theorem d_FG_copy_45 : decode M_FG_copy.2.1 45 = .ok (.iaload, 1) := by decide +kernel
theorem d_FG_copy_46 : decode M_FG_copy.2.1 46 = .ok (.aload_n 0, 1) := by decide +kernel
theorem d_FG_copy_47 : decode M_FG_copy.2.1 47 = .ok (.getfield 54, 3) := by decide +kernel
theorem d_FG_copy_50 : decode M_FG_copy.2.1 50 = .ok (.iload_n 3, 1) := by decide +kernel
theorem d_FG_copy_51 : decode M_FG_copy.2.1 51 = .ok (.iaload, 1) := by decide +kernel
theorem d_FG_copy_52 : decode M_FG_copy.2.1 52 = .ok (.if_icmp .eq 6, 3) := by decide +kernel
theorem d_FG_copy_55 : decode M_FG_copy.2.1 55 = .ok (.bipush (-13), 2) := by decide +kernel
theorem d_FG_copy_57 : decode M_FG_copy.2.1 57 = .ok (.ireturn, 1) := by decide +kernel
theorem d_FG_copy_58 : decode M_FG_copy.2.1 58 = .ok (.aload_n 0, 1) := by decide +kernel
theorem d_FG_copy_59 : decode M_FG_copy.2.1 59 = .ok (.iload_n 1, 1) := by decide +kernel
theorem d_FG_copy_60 : decode M_FG_copy.2.1 60 = .ok (.iload_n 2, 1) := by decide +kernel
theorem d_FG_copy_61 : decode M_FG_copy.2.1 61 = .ok (.iload 5, 2) := by decide +kernel
theorem d_FG_copy_63 : decode M_FG_copy.2.1 63 = .ok (.invokevirtual 304, 3) := by decide +kernel
theorem d_FG_copy_66 : decode M_FG_copy.2.1 66 = .ok (.ifCond .eq 15, 3) := by decide +kernel
theorem d_FG_copy_69 : decode M_FG_copy.2.1 69 = .ok (.aload_n 0, 1) := by decide +kernel
theorem d_FG_copy_70 : decode M_FG_copy.2.1 70 = .ok (.iload_n 3, 1) := by decide +kernel
theorem d_FG_copy_71 : decode M_FG_copy.2.1 71 = .ok (.iload 4, 2) := by decide +kernel
theorem d_FG_copy_73 : decode M_FG_copy.2.1 73 = .ok (.iload 5, 2) := by decide +kernel
theorem d_FG_copy_75 : decode M_FG_copy.2.1 75 = .ok (.invokevirtual 304, 3) := by decide +kernel
theorem d_FG_copy_78 : decode M_FG_copy.2.1 78 = .ok (.ifCond .ne 6, 3) := by decide +kernel
theorem d_FG_copy_81 : decode M_FG_copy.2.1 81 = .ok (.bipush (-12), 2) := by decide +kernel
theorem d_FG_copy_83 : decode M_FG_copy.2.1 83 = .ok (.ireturn, 1) := by decide +kernel
theorem d_FG_copy_84 : decode M_FG_copy.2.1 84 = .ok (.aload_n 0, 1) := by decide +kernel
theorem d_FG_copy_85 : decode M_FG_copy.2.1 85 = .ok (.getfield 47, 3) := by decide +kernel
theorem d_FG_copy_88 : decode M_FG_copy.2.1 88 = .ok (.iload_n 1, 1) := by decide +kernel
theorem d_FG_copy_89 : decode M_FG_copy.2.1 89 = .ok (.aaload, 1) := by decide +kernel
theorem d_FG_copy_90 : decode M_FG_copy.2.1 90 = .ok (.iload_n 2, 1) := by decide +kernel
theorem d_FG_copy_91 : decode M_FG_copy.2.1 91 = .ok (.aload_n 0, 1) := by decide +kernel
theorem d_FG_copy_92 : decode M_FG_copy.2.1 92 = .ok (.getfield 47, 3) := by decide +kernel
theorem d_FG_copy_95 : decode M_FG_copy.2.1 95 = .ok (.iload_n 3, 1) := by decide +kernel
theorem d_FG_copy_96 : decode M_FG_copy.2.1 96 = .ok (.aaload, 1) := by decide +kernel
theorem d_FG_copy_97 : decode M_FG_copy.2.1 97 = .ok (.iload 4, 2) := by decide +kernel
theorem d_FG_copy_99 : decode M_FG_copy.2.1 99 = .ok (.iload 5, 2) := by decide +kernel
theorem d_FG_copy_101 : decode M_FG_copy.2.1 101 = .ok (.invokestatic 307, 3) := by decide +kernel
theorem d_FG_copy_104 : decode M_FG_copy.2.1 104 = .ok (.iload 5, 2) := by decide +kernel
theorem d_FG_copy_106 : decode M_FG_copy.2.1 106 = .ok (.ireturn, 1) := by decide +kernel
set_option maxHeartbeats 4000000 in
set_option maxRecDepth 100000 in
theorem ok_FG_copy {D : xD} {N : Nat} {l : Launch} {d : Nat} {c x V : T2} {ln df : Nat → Option Nat} {rest : List va_E} {K : Option Value → List va_E → Prop} {s i w j n : Int32} (hSZ : ∀ s, s < 4 → isN (c 30 s) 41) (hK : K (some (.int (sp_copy c s i w j n).1)) (encC D N (sp_copy c s i w j n).2 x V ln df ++ rest)) : Ok D N l (d + 2) M_FG_copy [.ref (N + 0), .int s, .int i, .int w, .int j, .int n] (encC D N c x V ln df ++ rest) 0 0 K := by
  refine ok_of (L := [(0, _), (1, _), (2, _), (3, _), (4, _), (5, _)]) (by decide) (Nat.le_of_ble_eq_true rfl) rfl ?_
  refine wp_iload_n (q := 1) d_FG_copy_0 rfl rfl ?_
  refine wp_cs1 (q := 4) lk_FG_255 (ro _ _ _) d_FG_copy_1 rfl (Nat.le_of_ble_eq_true rfl) (Nat.zero_le _) (Nat.zero_le _) ?_
  refine ok_FG_isSheet (fun s1 hs1 e => ?_) (fun hs1 => ?_)
  · subst e
    refine wp_if_eq_f (q := 7) (tgt := 14) d_FG_copy_4 (by decide) rfl (by decide) ?_
    refine wp_iload_n (q := 8) d_FG_copy_7 rfl rfl ?_
    refine wp_cs1 (q := 11) lk_FG_255 (ro _ _ _) d_FG_copy_8 rfl (Nat.le_of_ble_eq_true rfl) (Nat.zero_le _) (Nat.zero_le _) ?_
    refine ok_FG_isSheet (fun w1 hw1 e => ?_) (fun hw1 => ?_)
    · subst e
      refine wp_if_ne_t (tgt := 17) d_FG_copy_11 (by decide) (by decide) ?_
      refine wp_aload_n (q := 18) d_FG_copy_17 rfl rfl ?_
      refine wp_get (q := 21) fl_FG_54 d_FG_copy_18 rfl rfl rfl ?_
      refine wp_iload_n (q := 22) d_FG_copy_21 rfl rfl ?_
      refine wp_iald (q := 23) d_FG_copy_22 rfl (rfl) (by omega) (by decide) ?_
      refine wp_iconst (q := 24) d_FG_copy_23 rfl ic_m1 ?_
      refine wp_icmp_eq (q := 27) (tgt := 37) d_FG_copy_24 (by decide) rfl (fun hc_24 => ?_) (fun hc_24 => ?_)
      · refine wp_bipush (q := 39) d_FG_copy_37 rfl bp_m11 ?_
        refine wp_iret d_FG_copy_39 rfl (Nat.le_refl _) (Nat.le_refl _) ?_
        simp only [sp_copy, inn, inb, inm, btw, inn_t hs1, tnl hs1, inn_t hw1, tnl hw1, hc_24, not_true_eq_false, not_false_eq_true, or_false, false_or, or_true, true_or, and_true, true_and, and_false, false_and, or_self, and_self, if_true, if_false, ite_true, ite_false, eq_self] at hK
        first | exact hK | (simp (disch := omega) only [tput_eq, tput2, tput_ne, upd_eq, upd_ne, ne_eq, va_upeq, va_upne, va_up2, not_true_eq_false, not_false_eq_true, or_false, false_or, or_true, true_or, and_true, true_and, and_false, false_and, or_self, and_self, if_true, if_false, ite_true, ite_false, eq_self] at hK ⊢; exact hK) | (simp (disch := omega) only [tput_eq, tput2, tput_ne, upd_eq, upd_ne, ne_eq, va_upeq, va_upne, va_up2, not_true_eq_false, not_false_eq_true, or_false, false_or, or_true, true_or, and_true, true_and, and_false, false_and, or_self, and_self, if_true, if_false, ite_true, ite_false, eq_self]; exact hK) | (simp (disch := omega) only [tput_eq, tput2, tput_ne, upd_eq, upd_ne, ne_eq, va_upeq, va_upne, va_up2, not_true_eq_false, not_false_eq_true, or_false, false_or, or_true, true_or, and_true, true_and, and_false, false_and, or_self, and_self, if_true, if_false, ite_true, ite_false, eq_self] at hK; exact hK)
      · refine wp_aload_n (q := 28) d_FG_copy_27 rfl rfl ?_
        refine wp_get (q := 31) fl_FG_54 d_FG_copy_28 rfl rfl rfl ?_
        refine wp_iload_n (q := 32) d_FG_copy_31 rfl rfl ?_
        refine wp_iald (q := 33) d_FG_copy_32 rfl (rfl) (by omega) (by decide) ?_
        refine wp_iconst (q := 34) d_FG_copy_33 rfl ic_m1 ?_
        refine wp_icmp_ne (q := 37) (tgt := 40) d_FG_copy_34 (by decide) rfl (fun hc_34 => ?_) (fun hc_34 => ?_)
        · refine wp_aload_n (q := 41) d_FG_copy_40 rfl rfl ?_
          refine wp_get (q := 44) fl_FG_54 d_FG_copy_41 rfl rfl rfl ?_
          refine wp_iload_n (q := 45) d_FG_copy_44 rfl rfl ?_
          refine wp_iald (q := 46) d_FG_copy_45 rfl (rfl) (by omega) (by decide) ?_
          refine wp_aload_n (q := 47) d_FG_copy_46 rfl rfl ?_
          refine wp_get (q := 50) fl_FG_54 d_FG_copy_47 rfl rfl rfl ?_
          refine wp_iload_n (q := 51) d_FG_copy_50 rfl rfl ?_
          refine wp_iald (q := 52) d_FG_copy_51 rfl (rfl) (by omega) (by decide) ?_
          refine wp_icmp_eq (q := 55) (tgt := 58) d_FG_copy_52 (by decide) rfl (fun hc_52 => ?_) (fun hc_52 => ?_)
          · obtain ⟨sz, hsz, es⟩ := (hSZ s1 (by omega)).ex
            obtain ⟨so, hso, eo⟩ := (hSZ w1 (by omega)).ex
            refine wp_aload_n (q := 59) d_FG_copy_58 rfl rfl ?_
            refine wp_iload_n (q := 60) d_FG_copy_59 rfl rfl ?_
            refine wp_iload_n (q := 61) d_FG_copy_60 rfl rfl ?_
            refine wp_iload (q := 63) d_FG_copy_61 rfl rfl ?_
            refine wp_cv3 (q := 66) lk_FG_304 (ro _ _ _) d_FG_copy_63 rfl (Nat.le_of_ble_eq_true rfl) (rfl) rfl (Nat.zero_le _) (Nat.zero_le _) ?_
            refine ok_FG_holdsAll (by omega) es hsz (fun a m ham ea em => ?_) (fun hf1 => ?_)
            · subst ea em
              refine wp_if_eq_f (q := 69) (tgt := 81) d_FG_copy_66 (by decide) rfl (by decide) ?_
              refine wp_aload_n (q := 70) d_FG_copy_69 rfl rfl ?_
              refine wp_iload_n (q := 71) d_FG_copy_70 rfl rfl ?_
              refine wp_iload (q := 73) d_FG_copy_71 rfl rfl ?_
              refine wp_iload (q := 75) d_FG_copy_73 rfl rfl ?_
              refine wp_cv3 (q := 78) lk_FG_304 (ro _ _ _) d_FG_copy_75 rfl (Nat.le_of_ble_eq_true rfl) (rfl) rfl (Nat.zero_le _) (Nat.zero_le _) ?_
              refine ok_FG_holdsAll (by omega) eo hso (fun b m2 hbm eb em2 => ?_) (fun hf2 => ?_)
              · have em3 : m = m2 := by
                  have := congrArg tn em2
                  rw [tnt (show m < 41 by omega), tnt (show m2 < 41 by omega)] at this
                  exact this
                subst em3 eb
                refine wp_if_ne_t (tgt := 84) d_FG_copy_78 (by decide) (by decide) ?_
                refine wp_aload_n (q := 85) d_FG_copy_84 rfl rfl ?_
                refine wp_get (q := 88) fl_FG_47 d_FG_copy_85 rfl rfl rfl ?_
                refine wp_iload_n (q := 89) d_FG_copy_88 rfl rfl ?_
                refine wp_aldA (q := 90) d_FG_copy_89 rfl (rfl) (by omega) (by decide) (rows_at (by omega)) ?_
                refine wp_iload_n (q := 91) d_FG_copy_90 rfl rfl ?_
                refine wp_aload_n (q := 92) d_FG_copy_91 rfl rfl ?_
                refine wp_get (q := 95) fl_FG_47 d_FG_copy_92 rfl rfl rfl ?_
                refine wp_iload_n (q := 96) d_FG_copy_95 rfl rfl ?_
                refine wp_aldA (q := 97) d_FG_copy_96 rfl (rfl) (by omega) (by decide) (rows_at (by omega)) ?_
                refine wp_iload (q := 99) d_FG_copy_97 rfl rfl ?_
                refine wp_iload (q := 101) d_FG_copy_99 rfl rfl ?_
                refine wp_copy (q := 104) (sp := a) (dp := b) (cn := m) ka_FG_307 (RO0 ()) d_FG_copy_101 rfl (Nat.le_of_ble_eq_true rfl) (rd_sheet (by omega)) (rd_sheet (by omega)) (by omega) (by omega) (by decide) (by decide) (fd_copy (by omega) (by omega) (by omega)) ?_
                refine wp_iload (q := 106) d_FG_copy_104 rfl rfl ?_
                refine wp_iret d_FG_copy_106 rfl (Nat.le_refl _) (Nat.le_refl _) ?_
                simp only [sp_copy, inn, inb, inm, btw, inn_t hs1, tnl hs1, inn_t hw1, tnl hw1, hc_24, hc_34, hc_52, (fitN (show a < 2 ^ 31 by omega) (show m < 2 ^ 31 by omega)), (show a + m ≤ sz from ham), es, eo, tnt hsz, tnt hso, (fitN (show b < 2 ^ 31 by omega) (show m < 2 ^ 31 by omega)), (show b + m ≤ so from hbm), tnt (show a < 41 by omega), tnt (show b < 41 by omega), tnt (show m < 41 by omega), not_true_eq_false, not_false_eq_true, or_false, false_or, or_true, true_or, and_true, true_and, and_false, false_and, or_self, and_self, if_true, if_false, ite_true, ite_false, eq_self] at hK
                first | exact hK | (simp (disch := omega) only [tput_eq, tput2, tput_ne, upd_eq, upd_ne, ne_eq, va_upeq, va_upne, va_up2, not_true_eq_false, not_false_eq_true, or_false, false_or, or_true, true_or, and_true, true_and, and_false, false_and, or_self, and_self, if_true, if_false, ite_true, ite_false, eq_self] at hK ⊢; exact hK) | (simp (disch := omega) only [tput_eq, tput2, tput_ne, upd_eq, upd_ne, ne_eq, va_upeq, va_upne, va_up2, not_true_eq_false, not_false_eq_true, or_false, false_or, or_true, true_or, and_true, true_and, and_false, false_and, or_self, and_self, if_true, if_false, ite_true, ite_false, eq_self]; exact hK) | (simp (disch := omega) only [tput_eq, tput2, tput_ne, upd_eq, upd_ne, ne_eq, va_upeq, va_upne, va_up2, not_true_eq_false, not_false_eq_true, or_false, false_or, or_true, true_or, and_true, true_and, and_false, false_and, or_self, and_self, if_true, if_false, ite_true, ite_false, eq_self] at hK; exact hK)
              · refine wp_if_ne_f (q := 81) (tgt := 84) d_FG_copy_78 (by decide) rfl (by decide) ?_
                refine wp_bipush (q := 83) d_FG_copy_81 rfl bp_m12 ?_
                refine wp_iret d_FG_copy_83 rfl (Nat.le_refl _) (Nat.le_refl _) ?_
                simp only [sp_copy, inn, inb, inm, btw, inn_t hs1, tnl hs1, inn_t hw1, tnl hw1, hc_24, hc_34, hc_52, (fitN (show a < 2 ^ 31 by omega) (show m < 2 ^ 31 by omega)), (show a + m ≤ sz from ham), es, eo, tnt hsz, tnt hso, hf2, not_true_eq_false, not_false_eq_true, or_false, false_or, or_true, true_or, and_true, true_and, and_false, false_and, or_self, and_self, if_true, if_false, ite_true, ite_false, eq_self] at hK
                first | exact hK | (simp (disch := omega) only [tput_eq, tput2, tput_ne, upd_eq, upd_ne, ne_eq, va_upeq, va_upne, va_up2, not_true_eq_false, not_false_eq_true, or_false, false_or, or_true, true_or, and_true, true_and, and_false, false_and, or_self, and_self, if_true, if_false, ite_true, ite_false, eq_self] at hK ⊢; exact hK) | (simp (disch := omega) only [tput_eq, tput2, tput_ne, upd_eq, upd_ne, ne_eq, va_upeq, va_upne, va_up2, not_true_eq_false, not_false_eq_true, or_false, false_or, or_true, true_or, and_true, true_and, and_false, false_and, or_self, and_self, if_true, if_false, ite_true, ite_false, eq_self]; exact hK) | (simp (disch := omega) only [tput_eq, tput2, tput_ne, upd_eq, upd_ne, ne_eq, va_upeq, va_upne, va_up2, not_true_eq_false, not_false_eq_true, or_false, false_or, or_true, true_or, and_true, true_and, and_false, false_and, or_self, and_self, if_true, if_false, ite_true, ite_false, eq_self] at hK; exact hK)
            · refine wp_if_eq_t (tgt := 81) d_FG_copy_66 (by decide) (by decide) ?_
              refine wp_bipush (q := 83) d_FG_copy_81 rfl bp_m12 ?_
              refine wp_iret d_FG_copy_83 rfl (Nat.le_refl _) (Nat.le_refl _) ?_
              simp only [sp_copy, inn, inb, inm, btw, inn_t hs1, tnl hs1, inn_t hw1, tnl hw1, hc_24, hc_34, hc_52, hf1, es, eo, tnt hsz, tnt hso, not_true_eq_false, not_false_eq_true, or_false, false_or, or_true, true_or, and_true, true_and, and_false, false_and, or_self, and_self, if_true, if_false, ite_true, ite_false, eq_self] at hK
              first | exact hK | (simp (disch := omega) only [tput_eq, tput2, tput_ne, upd_eq, upd_ne, ne_eq, va_upeq, va_upne, va_up2, not_true_eq_false, not_false_eq_true, or_false, false_or, or_true, true_or, and_true, true_and, and_false, false_and, or_self, and_self, if_true, if_false, ite_true, ite_false, eq_self] at hK ⊢; exact hK) | (simp (disch := omega) only [tput_eq, tput2, tput_ne, upd_eq, upd_ne, ne_eq, va_upeq, va_upne, va_up2, not_true_eq_false, not_false_eq_true, or_false, false_or, or_true, true_or, and_true, true_and, and_false, false_and, or_self, and_self, if_true, if_false, ite_true, ite_false, eq_self]; exact hK) | (simp (disch := omega) only [tput_eq, tput2, tput_ne, upd_eq, upd_ne, ne_eq, va_upeq, va_upne, va_up2, not_true_eq_false, not_false_eq_true, or_false, false_or, or_true, true_or, and_true, true_and, and_false, false_and, or_self, and_self, if_true, if_false, ite_true, ite_false, eq_self] at hK; exact hK)
          · refine wp_bipush (q := 57) d_FG_copy_55 rfl bp_m13 ?_
            refine wp_iret d_FG_copy_57 rfl (Nat.le_refl _) (Nat.le_refl _) ?_
            simp only [sp_copy, inn, inb, inm, btw, inn_t hs1, tnl hs1, inn_t hw1, tnl hw1, hc_24, hc_34, hc_52, not_true_eq_false, not_false_eq_true, or_false, false_or, or_true, true_or, and_true, true_and, and_false, false_and, or_self, and_self, if_true, if_false, ite_true, ite_false, eq_self] at hK
            first | exact hK | (simp (disch := omega) only [tput_eq, tput2, tput_ne, upd_eq, upd_ne, ne_eq, va_upeq, va_upne, va_up2, not_true_eq_false, not_false_eq_true, or_false, false_or, or_true, true_or, and_true, true_and, and_false, false_and, or_self, and_self, if_true, if_false, ite_true, ite_false, eq_self] at hK ⊢; exact hK) | (simp (disch := omega) only [tput_eq, tput2, tput_ne, upd_eq, upd_ne, ne_eq, va_upeq, va_upne, va_up2, not_true_eq_false, not_false_eq_true, or_false, false_or, or_true, true_or, and_true, true_and, and_false, false_and, or_self, and_self, if_true, if_false, ite_true, ite_false, eq_self]; exact hK) | (simp (disch := omega) only [tput_eq, tput2, tput_ne, upd_eq, upd_ne, ne_eq, va_upeq, va_upne, va_up2, not_true_eq_false, not_false_eq_true, or_false, false_or, or_true, true_or, and_true, true_and, and_false, false_and, or_self, and_self, if_true, if_false, ite_true, ite_false, eq_self] at hK; exact hK)
        · refine wp_bipush (q := 39) d_FG_copy_37 rfl bp_m11 ?_
          refine wp_iret d_FG_copy_39 rfl (Nat.le_refl _) (Nat.le_refl _) ?_
          simp only [sp_copy, inn, inb, inm, btw, inn_t hs1, tnl hs1, inn_t hw1, tnl hw1, hc_24, hc_34, not_true_eq_false, not_false_eq_true, or_false, false_or, or_true, true_or, and_true, true_and, and_false, false_and, or_self, and_self, if_true, if_false, ite_true, ite_false, eq_self] at hK
          first | exact hK | (simp (disch := omega) only [tput_eq, tput2, tput_ne, upd_eq, upd_ne, ne_eq, va_upeq, va_upne, va_up2, not_true_eq_false, not_false_eq_true, or_false, false_or, or_true, true_or, and_true, true_and, and_false, false_and, or_self, and_self, if_true, if_false, ite_true, ite_false, eq_self] at hK ⊢; exact hK) | (simp (disch := omega) only [tput_eq, tput2, tput_ne, upd_eq, upd_ne, ne_eq, va_upeq, va_upne, va_up2, not_true_eq_false, not_false_eq_true, or_false, false_or, or_true, true_or, and_true, true_and, and_false, false_and, or_self, and_self, if_true, if_false, ite_true, ite_false, eq_self]; exact hK) | (simp (disch := omega) only [tput_eq, tput2, tput_ne, upd_eq, upd_ne, ne_eq, va_upeq, va_upne, va_up2, not_true_eq_false, not_false_eq_true, or_false, false_or, or_true, true_or, and_true, true_and, and_false, false_and, or_self, and_self, if_true, if_false, ite_true, ite_false, eq_self] at hK; exact hK)
    · refine wp_if_ne_f (q := 14) (tgt := 17) d_FG_copy_11 (by decide) rfl (by decide) ?_
      refine wp_bipush (q := 16) d_FG_copy_14 rfl bp_m2 ?_
      refine wp_iret d_FG_copy_16 rfl (Nat.le_refl _) (Nat.le_refl _) ?_
      simp only [sp_copy, inn, inb, inm, btw, inn_t hs1, tnl hs1, hw1, not_true_eq_false, not_false_eq_true, or_false, false_or, or_true, true_or, and_true, true_and, and_false, false_and, or_self, and_self, if_true, if_false, ite_true, ite_false, eq_self] at hK
      first | exact hK | (simp (disch := omega) only [tput_eq, tput2, tput_ne, upd_eq, upd_ne, ne_eq, va_upeq, va_upne, va_up2, not_true_eq_false, not_false_eq_true, or_false, false_or, or_true, true_or, and_true, true_and, and_false, false_and, or_self, and_self, if_true, if_false, ite_true, ite_false, eq_self] at hK ⊢; exact hK) | (simp (disch := omega) only [tput_eq, tput2, tput_ne, upd_eq, upd_ne, ne_eq, va_upeq, va_upne, va_up2, not_true_eq_false, not_false_eq_true, or_false, false_or, or_true, true_or, and_true, true_and, and_false, false_and, or_self, and_self, if_true, if_false, ite_true, ite_false, eq_self]; exact hK) | (simp (disch := omega) only [tput_eq, tput2, tput_ne, upd_eq, upd_ne, ne_eq, va_upeq, va_upne, va_up2, not_true_eq_false, not_false_eq_true, or_false, false_or, or_true, true_or, and_true, true_and, and_false, false_and, or_self, and_self, if_true, if_false, ite_true, ite_false, eq_self] at hK; exact hK)
  · refine wp_if_eq_t (tgt := 14) d_FG_copy_4 (by decide) (by decide) ?_
    refine wp_bipush (q := 16) d_FG_copy_14 rfl bp_m2 ?_
    refine wp_iret d_FG_copy_16 rfl (Nat.le_refl _) (Nat.le_refl _) ?_
    simp only [sp_copy, inn, inb, inm, btw, hs1, not_true_eq_false, not_false_eq_true, or_false, false_or, or_true, true_or, and_true, true_and, and_false, false_and, or_self, and_self, if_true, if_false, ite_true, ite_false, eq_self] at hK
    first | exact hK | (simp (disch := omega) only [tput_eq, tput2, tput_ne, upd_eq, upd_ne, ne_eq, va_upeq, va_upne, va_up2, not_true_eq_false, not_false_eq_true, or_false, false_or, or_true, true_or, and_true, true_and, and_false, false_and, or_self, and_self, if_true, if_false, ite_true, ite_false, eq_self] at hK ⊢; exact hK) | (simp (disch := omega) only [tput_eq, tput2, tput_ne, upd_eq, upd_ne, ne_eq, va_upeq, va_upne, va_up2, not_true_eq_false, not_false_eq_true, or_false, false_or, or_true, true_or, and_true, true_and, and_false, false_and, or_self, and_self, if_true, if_false, ite_true, ite_false, eq_self]; exact hK) | (simp (disch := omega) only [tput_eq, tput2, tput_ne, upd_eq, upd_ne, ne_eq, va_upeq, va_upne, va_up2, not_true_eq_false, not_false_eq_true, or_false, false_or, or_true, true_or, and_true, true_and, and_false, false_and, or_self, and_self, if_true, if_false, ite_true, ite_false, eq_self] at hK; exact hK)
theorem d_Rf_copy_0 : decode M_Rf_copy.2.1 0 = .ok (.iload_n 1, 1) := by decide +kernel
theorem d_Rf_copy_1 : decode M_Rf_copy.2.1 1 = .ok (.iconst 0, 1) := by decide +kernel
theorem d_Rf_copy_2 : decode M_Rf_copy.2.1 2 = .ok (.iconst 3, 1) := by decide +kernel
theorem d_Rf_copy_3 : decode M_Rf_copy.2.1 3 = .ok (.invokestatic 151, 3) := by decide +kernel
theorem d_Rf_copy_6 : decode M_Rf_copy.2.1 6 = .ok (.ifCond .eq 12, 3) := by decide +kernel
theorem d_Rf_copy_9 : decode M_Rf_copy.2.1 9 = .ok (.iload_n 3, 1) := by decide +kernel
theorem d_Rf_copy_10 : decode M_Rf_copy.2.1 10 = .ok (.iconst 0, 1) := by decide +kernel
theorem d_Rf_copy_11 : decode M_Rf_copy.2.1 11 = .ok (.iconst 3, 1) := by decide +kernel
theorem d_Rf_copy_12 : decode M_Rf_copy.2.1 12 = .ok (.invokestatic 151, 3) := by decide +kernel
theorem d_Rf_copy_15 : decode M_Rf_copy.2.1 15 = .ok (.ifCond .ne 6, 3) := by decide +kernel
theorem d_Rf_copy_18 : decode M_Rf_copy.2.1 18 = .ok (.bipush (-2), 2) := by decide +kernel
theorem d_Rf_copy_20 : decode M_Rf_copy.2.1 20 = .ok (.ireturn, 1) := by decide +kernel
theorem d_Rf_copy_21 : decode M_Rf_copy.2.1 21 = .ok (.aload_n 0, 1) := by decide +kernel
theorem d_Rf_copy_22 : decode M_Rf_copy.2.1 22 = .ok (.getfield 101, 3) := by decide +kernel
theorem d_Rf_copy_25 : decode M_Rf_copy.2.1 25 = .ok (.iload_n 1, 1) := by decide +kernel
theorem d_Rf_copy_26 : decode M_Rf_copy.2.1 26 = .ok (.iaload, 1) := by decide +kernel
theorem d_Rf_copy_27 : decode M_Rf_copy.2.1 27 = .ok (.iconst (-1), 1) := by decide +kernel
theorem d_Rf_copy_28 : decode M_Rf_copy.2.1 28 = .ok (.if_icmp .eq 13, 3) := by decide +kernel
theorem d_Rf_copy_31 : decode M_Rf_copy.2.1 31 = .ok (.aload_n 0, 1) := by decide +kernel
theorem d_Rf_copy_32 : decode M_Rf_copy.2.1 32 = .ok (.getfield 101, 3) := by decide +kernel
theorem d_Rf_copy_35 : decode M_Rf_copy.2.1 35 = .ok (.iload_n 3, 1) := by decide +kernel
theorem d_Rf_copy_36 : decode M_Rf_copy.2.1 36 = .ok (.iaload, 1) := by decide +kernel
theorem d_Rf_copy_37 : decode M_Rf_copy.2.1 37 = .ok (.iconst (-1), 1) := by decide +kernel
theorem d_Rf_copy_38 : decode M_Rf_copy.2.1 38 = .ok (.if_icmp .ne 6, 3) := by decide +kernel
theorem d_Rf_copy_41 : decode M_Rf_copy.2.1 41 = .ok (.bipush (-11), 2) := by decide +kernel
theorem d_Rf_copy_43 : decode M_Rf_copy.2.1 43 = .ok (.ireturn, 1) := by decide +kernel
theorem d_Rf_copy_44 : decode M_Rf_copy.2.1 44 = .ok (.aload_n 0, 1) := by decide +kernel
theorem d_Rf_copy_45 : decode M_Rf_copy.2.1 45 = .ok (.getfield 101, 3) := by decide +kernel
theorem d_Rf_copy_48 : decode M_Rf_copy.2.1 48 = .ok (.iload_n 1, 1) := by decide +kernel
theorem d_Rf_copy_49 : decode M_Rf_copy.2.1 49 = .ok (.iaload, 1) := by decide +kernel
theorem d_Rf_copy_50 : decode M_Rf_copy.2.1 50 = .ok (.aload_n 0, 1) := by decide +kernel
theorem d_Rf_copy_51 : decode M_Rf_copy.2.1 51 = .ok (.getfield 101, 3) := by decide +kernel
theorem d_Rf_copy_54 : decode M_Rf_copy.2.1 54 = .ok (.iload_n 3, 1) := by decide +kernel
theorem d_Rf_copy_55 : decode M_Rf_copy.2.1 55 = .ok (.iaload, 1) := by decide +kernel
theorem d_Rf_copy_56 : decode M_Rf_copy.2.1 56 = .ok (.if_icmp .eq 6, 3) := by decide +kernel
theorem d_Rf_copy_59 : decode M_Rf_copy.2.1 59 = .ok (.bipush (-13), 2) := by decide +kernel
theorem d_Rf_copy_61 : decode M_Rf_copy.2.1 61 = .ok (.ireturn, 1) := by decide +kernel
theorem d_Rf_copy_62 : decode M_Rf_copy.2.1 62 = .ok (.iload 5, 2) := by decide +kernel
theorem d_Rf_copy_64 : decode M_Rf_copy.2.1 64 = .ok (.ifCond .lt 60, 3) := by decide +kernel
theorem d_Rf_copy_67 : decode M_Rf_copy.2.1 67 = .ok (.iload_n 2, 1) := by decide +kernel
theorem d_Rf_copy_68 : decode M_Rf_copy.2.1 68 = .ok (.ifCond .lt 56, 3) := by decide +kernel
theorem d_Rf_copy_71 : decode M_Rf_copy.2.1 71 = .ok (.iload 4, 2) := by decide +kernel
theorem d_Rf_copy_73 : decode M_Rf_copy.2.1 73 = .ok (.ifCond .lt 51, 3) := by decide +kernel
theorem d_Rf_copy_76 : decode M_Rf_copy.2.1 76 = .ok (.iload_n 2, 1) := by decide +kernel
theorem d_Rf_copy_77 : decode M_Rf_copy.2.1 77 = .ok (.aload_n 0, 1) := by decide +kernel
theorem d_Rf_copy_78 : decode M_Rf_copy.2.1 78 = .ok (.getfield 104, 3) := by decide +kernel
theorem d_Rf_copy_81 : decode M_Rf_copy.2.1 81 = .ok (.iload_n 1, 1) := by decide +kernel
theorem d_Rf_copy_82 : decode M_Rf_copy.2.1 82 = .ok (.iaload, 1) := by decide +kernel
theorem d_Rf_copy_83 : decode M_Rf_copy.2.1 83 = .ok (.if_icmp .gt 41, 3) := by decide +kernel
theorem d_Rf_copy_86 : decode M_Rf_copy.2.1 86 = .ok (.iload 4, 2) := by decide +kernel
theorem d_Rf_copy_88 : decode M_Rf_copy.2.1 88 = .ok (.aload_n 0, 1) := by decide +kernel
theorem d_Rf_copy_89 : decode M_Rf_copy.2.1 89 = .ok (.getfield 104, 3) := by decide +kernel
theorem d_Rf_copy_92 : decode M_Rf_copy.2.1 92 = .ok (.iload_n 3, 1) := by decide +kernel
theorem d_Rf_copy_93 : decode M_Rf_copy.2.1 93 = .ok (.iaload, 1) := by decide +kernel
theorem d_Rf_copy_94 : decode M_Rf_copy.2.1 94 = .ok (.if_icmp .gt 30, 3) := by decide +kernel
theorem d_Rf_copy_97 : decode M_Rf_copy.2.1 97 = .ok (.iload 5, 2) := by decide +kernel
theorem d_Rf_copy_99 : decode M_Rf_copy.2.1 99 = .ok (.aload_n 0, 1) := by decide +kernel
theorem d_Rf_copy_100 : decode M_Rf_copy.2.1 100 = .ok (.getfield 104, 3) := by decide +kernel
theorem d_Rf_copy_103 : decode M_Rf_copy.2.1 103 = .ok (.iload_n 1, 1) := by decide +kernel
theorem d_Rf_copy_104 : decode M_Rf_copy.2.1 104 = .ok (.iaload, 1) := by decide +kernel
theorem d_Rf_copy_105 : decode M_Rf_copy.2.1 105 = .ok (.iload_n 2, 1) := by decide +kernel
theorem d_Rf_copy_106 : decode M_Rf_copy.2.1 106 = .ok (.isub, 1) := by decide +kernel
theorem d_Rf_copy_107 : decode M_Rf_copy.2.1 107 = .ok (.if_icmp .gt 17, 3) := by decide +kernel
theorem d_Rf_copy_110 : decode M_Rf_copy.2.1 110 = .ok (.iload 5, 2) := by decide +kernel
theorem d_Rf_copy_112 : decode M_Rf_copy.2.1 112 = .ok (.aload_n 0, 1) := by decide +kernel
theorem d_Rf_copy_113 : decode M_Rf_copy.2.1 113 = .ok (.getfield 104, 3) := by decide +kernel
theorem d_Rf_copy_116 : decode M_Rf_copy.2.1 116 = .ok (.iload_n 3, 1) := by decide +kernel
theorem d_Rf_copy_117 : decode M_Rf_copy.2.1 117 = .ok (.iaload, 1) := by decide +kernel
theorem d_Rf_copy_118 : decode M_Rf_copy.2.1 118 = .ok (.iload 4, 2) := by decide +kernel
theorem d_Rf_copy_120 : decode M_Rf_copy.2.1 120 = .ok (.isub, 1) := by decide +kernel
theorem d_Rf_copy_121 : decode M_Rf_copy.2.1 121 = .ok (.if_icmp .le 6, 3) := by decide +kernel
theorem d_Rf_copy_124 : decode M_Rf_copy.2.1 124 = .ok (.bipush (-12), 2) := by decide +kernel
theorem d_Rf_copy_126 : decode M_Rf_copy.2.1 126 = .ok (.ireturn, 1) := by decide +kernel
theorem d_Rf_copy_127 : decode M_Rf_copy.2.1 127 = .ok (.bipush 40, 2) := by decide +kernel
theorem d_Rf_copy_129 : decode M_Rf_copy.2.1 129 = .ok (.iload_n 1, 1) := by decide +kernel
theorem d_Rf_copy_130 : decode M_Rf_copy.2.1 130 = .ok (.imul, 1) := by decide +kernel
theorem d_Rf_copy_131 : decode M_Rf_copy.2.1 131 = .ok (.iload_n 2, 1) := by decide +kernel
theorem d_Rf_copy_132 : decode M_Rf_copy.2.1 132 = .ok (.iadd, 1) := by decide +kernel
theorem d_Rf_copy_133 : decode M_Rf_copy.2.1 133 = .ok (.istore 6, 2) := by decide +kernel
theorem d_Rf_copy_135 : decode M_Rf_copy.2.1 135 = .ok (.bipush 40, 2) := by decide +kernel
theorem d_Rf_copy_137 : decode M_Rf_copy.2.1 137 = .ok (.iload_n 3, 1) := by decide +kernel
theorem d_Rf_copy_138 : decode M_Rf_copy.2.1 138 = .ok (.imul, 1) := by decide +kernel
theorem d_Rf_copy_139 : decode M_Rf_copy.2.1 139 = .ok (.iload 4, 2) := by decide +kernel
theorem d_Rf_copy_141 : decode M_Rf_copy.2.1 141 = .ok (.iadd, 1) := by decide +kernel
theorem d_Rf_copy_142 : decode M_Rf_copy.2.1 142 = .ok (.istore 7, 2) := by decide +kernel
theorem d_Rf_copy_144 : decode M_Rf_copy.2.1 144 = .ok (.iconst 0, 1) := by decide +kernel
theorem d_Rf_copy_145 : decode M_Rf_copy.2.1 145 = .ok (.istore 8, 2) := by decide +kernel
theorem d_Rf_copy_147 : decode M_Rf_copy.2.1 147 = .ok (.iload 8, 2) := by decide +kernel
theorem d_Rf_copy_149 : decode M_Rf_copy.2.1 149 = .ok (.iload 5, 2) := by decide +kernel
theorem d_Rf_copy_151 : decode M_Rf_copy.2.1 151 = .ok (.if_icmp .ge 50, 3) := by decide +kernel
theorem d_Rf_copy_154 : decode M_Rf_copy.2.1 154 = .ok (.iload 6, 2) := by decide +kernel
theorem d_Rf_copy_156 : decode M_Rf_copy.2.1 156 = .ok (.iload 7, 2) := by decide +kernel
theorem d_Rf_copy_158 : decode M_Rf_copy.2.1 158 = .ok (.if_icmp .ge 13, 3) := by decide +kernel
theorem d_Rf_copy_161 : decode M_Rf_copy.2.1 161 = .ok (.iload 5, 2) := by decide +kernel
theorem d_Rf_copy_163 : decode M_Rf_copy.2.1 163 = .ok (.iconst 1, 1) := by decide +kernel
theorem d_Rf_copy_164 : decode M_Rf_copy.2.1 164 = .ok (.isub, 1) := by decide +kernel
theorem d_Rf_copy_165 : decode M_Rf_copy.2.1 165 = .ok (.iload 8, 2) := by decide +kernel
theorem d_Rf_copy_167 : decode M_Rf_copy.2.1 167 = .ok (.isub, 1) := by decide +kernel
theorem d_Rf_copy_168 : decode M_Rf_copy.2.1 168 = .ok (.goto 5, 3) := by decide +kernel
theorem d_Rf_copy_171 : decode M_Rf_copy.2.1 171 = .ok (.iload 8, 2) := by decide +kernel
theorem d_Rf_copy_173 : decode M_Rf_copy.2.1 173 = .ok (.istore 9, 2) := by decide +kernel
theorem d_Rf_copy_175 : decode M_Rf_copy.2.1 175 = .ok (.aload_n 0, 1) := by decide +kernel
theorem d_Rf_copy_176 : decode M_Rf_copy.2.1 176 = .ok (.getfield 107, 3) := by decide +kernel
theorem d_Rf_copy_179 : decode M_Rf_copy.2.1 179 = .ok (.iload 7, 2) := by decide +kernel
theorem d_Rf_copy_181 : decode M_Rf_copy.2.1 181 = .ok (.iload 9, 2) := by decide +kernel
theorem d_Rf_copy_183 : decode M_Rf_copy.2.1 183 = .ok (.iadd, 1) := by decide +kernel
theorem d_Rf_copy_184 : decode M_Rf_copy.2.1 184 = .ok (.aload_n 0, 1) := by decide +kernel
theorem d_Rf_copy_185 : decode M_Rf_copy.2.1 185 = .ok (.getfield 107, 3) := by decide +kernel
theorem d_Rf_copy_188 : decode M_Rf_copy.2.1 188 = .ok (.iload 6, 2) := by decide +kernel
theorem d_Rf_copy_190 : decode M_Rf_copy.2.1 190 = .ok (.iload 9, 2) := by decide +kernel
theorem d_Rf_copy_192 : decode M_Rf_copy.2.1 192 = .ok (.iadd, 1) := by decide +kernel
theorem d_Rf_copy_193 : decode M_Rf_copy.2.1 193 = .ok (.iaload, 1) := by decide +kernel
theorem d_Rf_copy_194 : decode M_Rf_copy.2.1 194 = .ok (.iastore, 1) := by decide +kernel
theorem d_Rf_copy_195 : decode M_Rf_copy.2.1 195 = .ok (.iinc 8 1, 3) := by decide +kernel
theorem d_Rf_copy_198 : decode M_Rf_copy.2.1 198 = .ok (.goto (-51), 3) := by decide +kernel
theorem d_Rf_copy_201 : decode M_Rf_copy.2.1 201 = .ok (.iload 5, 2) := by decide +kernel
theorem d_Rf_copy_203 : decode M_Rf_copy.2.1 203 = .ok (.ireturn, 1) := by decide +kernel
set_option maxHeartbeats 4000000 in
set_option maxRecDepth 100000 in
theorem cp_A {D : xD} {N : Nat} {l : Launch} {d : Nat} {c z : T2} {P Q : Nat → Int32} {rest : List va_E} {K : Option Value → List va_E → Prop} {s w a b m : Nat} (hs : s < 4) (hw : w < 4) (ham : a + m ≤ 40) (hbm : b + m ≤ 40) (hlt : ¬ 40 * s + a < 40 * w + b) (hK : K (some (.int (nI m))) (encR D N (tput c 31 (cpT (c 31) (40 * s + a) (40 * w + b) m)) z P Q ++ rest)) : Wp D N l (EI M_Rf_copy) M_Rf_copy (Rm (d + 2) 0 0) (Qm D N K 0 0) 0 0 147 [(8, .int (nI 0)), (7, .int (nI (40 * w + b))), (6, .int (nI (40 * s + a))), (0, .ref (N + 0)), (1, .int (nI s)), (2, .int (nI a)), (3, .int (nI w)), (4, .int (nI b)), (5, .int (nI m))] [] (encR D N c z P Q ++ rest) := by
  have lp : ∀ k : Nat, k ≤ m → Wp D N l (EI M_Rf_copy) M_Rf_copy (Rm (d + 2) 0 0) (Qm D N K 0 0) 0 0 147 [(8, .int (nI k)), (7, .int (nI (40 * w + b))), (6, .int (nI (40 * s + a))), (0, .ref (N + 0)), (1, .int (nI s)), (2, .int (nI a)), (3, .int (nI w)), (4, .int (nI b)), (5, .int (nI m))] [] (encR D N (tput c 31 (cpT (c 31) (40 * s + a) (40 * w + b) k)) z P Q ++ rest) := by
    refine up_loop ?_ ?_
    · skip
      refine wp_iload (q := 149) d_Rf_copy_147 rfl rfl ?_
      refine wp_iload (q := 151) d_Rf_copy_149 rfl rfl ?_
      refine wp_icmp_ge_t (tgt := 201) d_Rf_copy_151 (by decide) (nI_le (Nat.le_refl _) (by omega)) ?_
      refine wp_iload (q := 203) d_Rf_copy_201 rfl rfl ?_
      refine wp_iret d_Rf_copy_203 rfl (Nat.le_refl _) (Nat.le_refl _) ?_
      exact hK
    · intro k hk ih
      refine wp_iload (q := 149) d_Rf_copy_147 rfl rfl ?_
      refine wp_iload (q := 151) d_Rf_copy_149 rfl rfl ?_
      refine wp_icmp_ge_f (q := 154) (tgt := 201) d_Rf_copy_151 (by decide) rfl (nI_ge hk (by omega)) ?_
      refine wp_iload (q := 156) d_Rf_copy_154 rfl rfl ?_
      refine wp_iload (q := 158) d_Rf_copy_156 rfl rfl ?_
      refine wp_icmp_ge_t (tgt := 171) d_Rf_copy_158 (by decide) (nI_le (Nat.le_of_not_lt hlt) (by omega)) ?_
      refine wp_iload (q := 173) d_Rf_copy_171 rfl rfl ?_
      refine wp_istore (q := 175) (L2 := [(9, _), (8, _), (7, _), (6, _), (0, _), (1, _), (2, _), (3, _), (4, _), (5, _)]) d_Rf_copy_173 rfl (by decide) rfl ?_
      refine wp_aload_n (q := 176) d_Rf_copy_175 rfl rfl ?_
      refine wp_get (q := 179) fl_Rf_107 d_Rf_copy_176 rfl rfl rfl ?_
      refine wp_iload (q := 181) d_Rf_copy_179 rfl rfl ?_
      refine wp_iload (q := 183) d_Rf_copy_181 rfl rfl ?_
      first | refine wp_iaddN (q := 184) d_Rf_copy_183 rfl ?_ | refine wp_iadd (q := 184) d_Rf_copy_183 rfl ?_
      refine wp_aload_n (q := 185) d_Rf_copy_184 rfl rfl ?_
      refine wp_get (q := 188) fl_Rf_107 d_Rf_copy_185 rfl rfl rfl ?_
      refine wp_iload (q := 190) d_Rf_copy_188 rfl rfl ?_
      refine wp_iload (q := 192) d_Rf_copy_190 rfl rfl ?_
      first | refine wp_iaddN (q := 193) d_Rf_copy_192 rfl ?_ | refine wp_iadd (q := 193) d_Rf_copy_192 rfl ?_
      refine wp_iald (q := 194) d_Rf_copy_193 rfl (rfl) (by omega) (by decide) ?_
      refine wp_iast (q := 195) d_Rf_copy_194 rfl (rfl) (by omega) (by decide) (fr_33) ?_
      refine wp_iinc (q := 198) (L2 := [(8, _), (9, _), (7, _), (6, _), (0, _), (1, _), (2, _), (3, _), (4, _), (5, _)]) d_Rf_copy_195 rfl rfl (iinc_1) (by decide) rfl ?_
      refine wp_goto (tgt := 147) d_Rf_copy_198 (by decide) ?_
      refine wp_sub [0, 2, 3, 4, 5, 6, 7, 8, 9] rfl ?_
      rw [tput_eq, tput2, cpT_s (Nat.le_of_not_lt hlt)]; exact ih
  have h0 := lp 0 (Nat.zero_le _)
  rw [cpT_0, tput_id] at h0
  exact h0
set_option maxHeartbeats 4000000 in
set_option maxRecDepth 100000 in
theorem cp_D {D : xD} {N : Nat} {l : Launch} {d : Nat} {c z : T2} {P Q : Nat → Int32} {rest : List va_E} {K : Option Value → List va_E → Prop} {s w a b m : Nat} (hs : s < 4) (hw : w < 4) (ham : a + m ≤ 40) (hbm : b + m ≤ 40) (hlt : 40 * s + a < 40 * w + b) (hK : K (some (.int (nI m))) (encR D N (tput c 31 (cpT (c 31) (40 * s + a) (40 * w + b) m)) z P Q ++ rest)) : Wp D N l (EI M_Rf_copy) M_Rf_copy (Rm (d + 2) 0 0) (Qm D N K 0 0) 0 0 147 [(8, .int (nI 0)), (7, .int (nI (40 * w + b))), (6, .int (nI (40 * s + a))), (0, .ref (N + 0)), (1, .int (nI s)), (2, .int (nI a)), (3, .int (nI w)), (4, .int (nI b)), (5, .int (nI m))] [] (encR D N c z P Q ++ rest) := by
  have lp : ∀ k : Nat, k ≤ m → Wp D N l (EI M_Rf_copy) M_Rf_copy (Rm (d + 2) 0 0) (Qm D N K 0 0) 0 0 147 [(8, .int (nI k)), (7, .int (nI (40 * w + b))), (6, .int (nI (40 * s + a))), (0, .ref (N + 0)), (1, .int (nI s)), (2, .int (nI a)), (3, .int (nI w)), (4, .int (nI b)), (5, .int (nI m))] [] (encR D N (tput c 31 (cpD (c 31) (40 * s + a) (40 * w + b) m k)) z P Q ++ rest) := by
    refine up_loop ?_ ?_
    · skip
      refine wp_iload (q := 149) d_Rf_copy_147 rfl rfl ?_
      refine wp_iload (q := 151) d_Rf_copy_149 rfl rfl ?_
      refine wp_icmp_ge_t (tgt := 201) d_Rf_copy_151 (by decide) (nI_le (Nat.le_refl _) (by omega)) ?_
      refine wp_iload (q := 203) d_Rf_copy_201 rfl rfl ?_
      refine wp_iret d_Rf_copy_203 rfl (Nat.le_refl _) (Nat.le_refl _) ?_
      rw [cpD_m]
      exact hK
    · intro k hk ih
      refine wp_iload (q := 149) d_Rf_copy_147 rfl rfl ?_
      refine wp_iload (q := 151) d_Rf_copy_149 rfl rfl ?_
      refine wp_icmp_ge_f (q := 154) (tgt := 201) d_Rf_copy_151 (by decide) rfl (nI_ge hk (by omega)) ?_
      refine wp_iload (q := 156) d_Rf_copy_154 rfl rfl ?_
      refine wp_iload (q := 158) d_Rf_copy_156 rfl rfl ?_
      refine wp_icmp_ge_f (q := 161) (tgt := 171) d_Rf_copy_158 (by decide) rfl (nI_ge hlt (by omega)) ?_
      refine wp_iload (q := 163) d_Rf_copy_161 rfl rfl ?_
      refine wp_iconst (q := 164) d_Rf_copy_163 rfl ic_1 ?_
      refine wp_isubN (q := 165) d_Rf_copy_164 rfl (by omega) ?_
      refine wp_iload (q := 167) d_Rf_copy_165 rfl rfl ?_
      refine wp_isubN (q := 168) d_Rf_copy_167 rfl (by omega) ?_
      refine wp_goto (tgt := 173) d_Rf_copy_168 (by decide) ?_
      refine wp_istore (q := 175) (L2 := [(9, _), (8, _), (7, _), (6, _), (0, _), (1, _), (2, _), (3, _), (4, _), (5, _)]) d_Rf_copy_173 rfl (by decide) rfl ?_
      refine wp_aload_n (q := 176) d_Rf_copy_175 rfl rfl ?_
      refine wp_get (q := 179) fl_Rf_107 d_Rf_copy_176 rfl rfl rfl ?_
      refine wp_iload (q := 181) d_Rf_copy_179 rfl rfl ?_
      refine wp_iload (q := 183) d_Rf_copy_181 rfl rfl ?_
      first | refine wp_iaddN (q := 184) d_Rf_copy_183 rfl ?_ | refine wp_iadd (q := 184) d_Rf_copy_183 rfl ?_
      refine wp_aload_n (q := 185) d_Rf_copy_184 rfl rfl ?_
      refine wp_get (q := 188) fl_Rf_107 d_Rf_copy_185 rfl rfl rfl ?_
      refine wp_iload (q := 190) d_Rf_copy_188 rfl rfl ?_
      refine wp_iload (q := 192) d_Rf_copy_190 rfl rfl ?_
      first | refine wp_iaddN (q := 193) d_Rf_copy_192 rfl ?_ | refine wp_iadd (q := 193) d_Rf_copy_192 rfl ?_
      refine wp_iald (q := 194) d_Rf_copy_193 rfl (rfl) (by omega) (by decide) ?_
      refine wp_iast (q := 195) d_Rf_copy_194 rfl (rfl) (by omega) (by decide) (fr_33) ?_
      refine wp_iinc (q := 198) (L2 := [(8, _), (9, _), (7, _), (6, _), (0, _), (1, _), (2, _), (3, _), (4, _), (5, _)]) d_Rf_copy_195 rfl rfl (iinc_1) (by decide) rfl ?_
      refine wp_goto (tgt := 147) d_Rf_copy_198 (by decide) ?_
      refine wp_sub [0, 2, 3, 4, 5, 6, 7, 8, 9] rfl ?_
      rw [tput_eq, tput2, cpD_s hlt hk]; exact ih
  have h0 := lp 0 (Nat.zero_le _)
  rw [cpD_0, tput_id] at h0
  exact h0
set_option maxHeartbeats 4000000 in
set_option maxRecDepth 100000 in
theorem ok_Rf_copy {D : xD} {N : Nat} {l : Launch} {d : Nat} {c z : T2} {P Q : Nat → Int32} {rest : List va_E} {K : Option Value → List va_E → Prop} {s i w j n : Int32} (hSZ : ∀ s, s < 4 → isN (c 30 s) 41) (hK : K (some (.int (sp_copy c s i w j n).1)) (encR D N (sp_copy c s i w j n).2 z P Q ++ rest)) : Ok D N l (d + 2) M_Rf_copy [.ref (N + 0), .int s, .int i, .int w, .int j, .int n] (encR D N c z P Q ++ rest) 0 0 K := by
  refine ok_of (L := [(0, _), (1, _), (2, _), (3, _), (4, _), (5, _)]) (by decide) (Nat.le_of_ble_eq_true rfl) rfl ?_
  refine wp_iload_n (q := 1) d_Rf_copy_0 rfl rfl ?_
  refine wp_iconst (q := 2) d_Rf_copy_1 rfl ic_0 ?_
  refine wp_iconst (q := 3) d_Rf_copy_2 rfl ic_3 ?_
  refine wp_cs3 (q := 6) lk_Rf_151 (ro _ _ _) d_Rf_copy_3 rfl (Nat.le_of_ble_eq_true rfl) (Nat.zero_le _) (Nat.zero_le _) ?_
  refine ok_Rf_in0 (b := 3) (by decide) (fun s1 hs1 e => ?_) (fun hs1 => ?_)
  · subst e
    refine wp_if_eq_f (q := 9) (tgt := 18) d_Rf_copy_6 (by decide) rfl (by decide) ?_
    refine wp_iload_n (q := 10) d_Rf_copy_9 rfl rfl ?_
    refine wp_iconst (q := 11) d_Rf_copy_10 rfl ic_0 ?_
    refine wp_iconst (q := 12) d_Rf_copy_11 rfl ic_3 ?_
    refine wp_cs3 (q := 15) lk_Rf_151 (ro _ _ _) d_Rf_copy_12 rfl (Nat.le_of_ble_eq_true rfl) (Nat.zero_le _) (Nat.zero_le _) ?_
    refine ok_Rf_in0 (b := 3) (by decide) (fun w1 hw1 e => ?_) (fun hw1 => ?_)
    · subst e
      refine wp_if_ne_t (tgt := 21) d_Rf_copy_15 (by decide) (by decide) ?_
      refine wp_aload_n (q := 22) d_Rf_copy_21 rfl rfl ?_
      refine wp_get (q := 25) fl_Rf_101 d_Rf_copy_22 rfl rfl rfl ?_
      refine wp_iload_n (q := 26) d_Rf_copy_25 rfl rfl ?_
      refine wp_iald (q := 27) d_Rf_copy_26 rfl (rfl) (by omega) (by decide) ?_
      refine wp_iconst (q := 28) d_Rf_copy_27 rfl ic_m1 ?_
      refine wp_icmp_eq (q := 31) (tgt := 41) d_Rf_copy_28 (by decide) rfl (fun hc_28 => ?_) (fun hc_28 => ?_)
      · refine wp_bipush (q := 43) d_Rf_copy_41 rfl bp_m11 ?_
        refine wp_iret d_Rf_copy_43 rfl (Nat.le_refl _) (Nat.le_refl _) ?_
        simp only [sp_copy, inn, inb, inm, btw, inn_t hs1, tnl hs1, inn_t hw1, tnl hw1, hc_28, not_true_eq_false, not_false_eq_true, or_false, false_or, or_true, true_or, and_true, true_and, and_false, false_and, or_self, and_self, if_true, if_false, ite_true, ite_false, eq_self] at hK
        first | exact hK | (simp (disch := omega) only [tput_eq, tput2, tput_ne, upd_eq, upd_ne, ne_eq, va_upeq, va_upne, va_up2, not_true_eq_false, not_false_eq_true, or_false, false_or, or_true, true_or, and_true, true_and, and_false, false_and, or_self, and_self, if_true, if_false, ite_true, ite_false, eq_self] at hK ⊢; exact hK) | (simp (disch := omega) only [tput_eq, tput2, tput_ne, upd_eq, upd_ne, ne_eq, va_upeq, va_upne, va_up2, not_true_eq_false, not_false_eq_true, or_false, false_or, or_true, true_or, and_true, true_and, and_false, false_and, or_self, and_self, if_true, if_false, ite_true, ite_false, eq_self]; exact hK) | (simp (disch := omega) only [tput_eq, tput2, tput_ne, upd_eq, upd_ne, ne_eq, va_upeq, va_upne, va_up2, not_true_eq_false, not_false_eq_true, or_false, false_or, or_true, true_or, and_true, true_and, and_false, false_and, or_self, and_self, if_true, if_false, ite_true, ite_false, eq_self] at hK; exact hK)
      · refine wp_aload_n (q := 32) d_Rf_copy_31 rfl rfl ?_
        refine wp_get (q := 35) fl_Rf_101 d_Rf_copy_32 rfl rfl rfl ?_
        refine wp_iload_n (q := 36) d_Rf_copy_35 rfl rfl ?_
        refine wp_iald (q := 37) d_Rf_copy_36 rfl (rfl) (by omega) (by decide) ?_
        refine wp_iconst (q := 38) d_Rf_copy_37 rfl ic_m1 ?_
        refine wp_icmp_ne (q := 41) (tgt := 44) d_Rf_copy_38 (by decide) rfl (fun hc_38 => ?_) (fun hc_38 => ?_)
        · refine wp_aload_n (q := 45) d_Rf_copy_44 rfl rfl ?_
          refine wp_get (q := 48) fl_Rf_101 d_Rf_copy_45 rfl rfl rfl ?_
          refine wp_iload_n (q := 49) d_Rf_copy_48 rfl rfl ?_
          refine wp_iald (q := 50) d_Rf_copy_49 rfl (rfl) (by omega) (by decide) ?_
          refine wp_aload_n (q := 51) d_Rf_copy_50 rfl rfl ?_
          refine wp_get (q := 54) fl_Rf_101 d_Rf_copy_51 rfl rfl rfl ?_
          refine wp_iload_n (q := 55) d_Rf_copy_54 rfl rfl ?_
          refine wp_iald (q := 56) d_Rf_copy_55 rfl (rfl) (by omega) (by decide) ?_
          refine wp_icmp_eq (q := 59) (tgt := 62) d_Rf_copy_56 (by decide) rfl (fun hc_56 => ?_) (fun hc_56 => ?_)
          · obtain ⟨sz, hsz, es⟩ := (hSZ s1 (by omega)).ex
            obtain ⟨so, hso, eo⟩ := (hSZ w1 (by omega)).ex
            refine wp_iload (q := 64) d_Rf_copy_62 rfl rfl ?_
            refine wp_if_lt (q := 67) (tgt := 124) d_Rf_copy_64 (by decide) rfl (fun hc_64 => ?_) (fun hc_64 => ?_)
            · refine wp_bipush (q := 126) d_Rf_copy_124 rfl bp_m12 ?_
              refine wp_iret d_Rf_copy_126 rfl (Nat.le_refl _) (Nat.le_refl _) ?_
              have hx : ¬ fit i n sz ∨ ¬ fit j n so := Or.inl (fit_n2 hc_64)
              simp only [sp_copy, inn, inb, inm, btw, hx, inn_t hs1, tnl hs1, inn_t hw1, tnl hw1, hc_28, hc_38, hc_56, es, eo, tnt hsz, tnt hso, not_true_eq_false, not_false_eq_true, or_false, false_or, or_true, true_or, and_true, true_and, and_false, false_and, or_self, and_self, if_true, if_false, ite_true, ite_false, eq_self] at hK; exact hK
            · obtain ⟨m, hm, rfl⟩ := nI_of hc_64
              refine wp_iload_n (q := 68) d_Rf_copy_67 rfl rfl ?_
              refine wp_if_lt (q := 71) (tgt := 124) d_Rf_copy_68 (by decide) rfl (fun hc_68 => ?_) (fun hc_68 => ?_)
              · refine wp_bipush (q := 126) d_Rf_copy_124 rfl bp_m12 ?_
                refine wp_iret d_Rf_copy_126 rfl (Nat.le_refl _) (Nat.le_refl _) ?_
                have hx : ¬ fit i (nI m) sz ∨ ¬ fit j (nI m) so := Or.inl (fit_n1 hc_68)
                simp only [sp_copy, inn, inb, inm, btw, hx, inn_t hs1, tnl hs1, inn_t hw1, tnl hw1, hc_28, hc_38, hc_56, es, eo, tnt hsz, tnt hso, not_true_eq_false, not_false_eq_true, or_false, false_or, or_true, true_or, and_true, true_and, and_false, false_and, or_self, and_self, if_true, if_false, ite_true, ite_false, eq_self] at hK; exact hK
              · obtain ⟨a, ha, rfl⟩ := nI_of hc_68
                refine wp_iload (q := 73) d_Rf_copy_71 rfl rfl ?_
                refine wp_if_lt (q := 76) (tgt := 124) d_Rf_copy_73 (by decide) rfl (fun hc_73 => ?_) (fun hc_73 => ?_)
                · refine wp_bipush (q := 126) d_Rf_copy_124 rfl bp_m12 ?_
                  refine wp_iret d_Rf_copy_126 rfl (Nat.le_refl _) (Nat.le_refl _) ?_
                  have hx : ¬ fit (nI a) (nI m) sz ∨ ¬ fit j (nI m) so := Or.inr (fit_n1 hc_73)
                  simp only [sp_copy, inn, inb, inm, btw, hx, inn_t hs1, tnl hs1, inn_t hw1, tnl hw1, hc_28, hc_38, hc_56, es, eo, tnt hsz, tnt hso, not_true_eq_false, not_false_eq_true, or_false, false_or, or_true, true_or, and_true, true_and, and_false, false_and, or_self, and_self, if_true, if_false, ite_true, ite_false, eq_self] at hK; exact hK
                · obtain ⟨b, hb, rfl⟩ := nI_of hc_73
                  refine wp_iload_n (q := 77) d_Rf_copy_76 rfl rfl ?_
                  refine wp_aload_n (q := 78) d_Rf_copy_77 rfl rfl ?_
                  refine wp_get (q := 81) fl_Rf_104 d_Rf_copy_78 rfl rfl rfl ?_
                  refine wp_iload_n (q := 82) d_Rf_copy_81 rfl rfl ?_
                  refine wp_iald (q := 83) d_Rf_copy_82 rfl (rfl) (by omega) (by decide) ?_
                  rw [es]
                  refine wp_icmp_gt (q := 86) (tgt := 124) d_Rf_copy_83 (by decide) rfl (fun hc_83 => ?_) (fun hc_83 => ?_)
                  · refine wp_bipush (q := 126) d_Rf_copy_124 rfl bp_m12 ?_
                    refine wp_iret d_Rf_copy_126 rfl (Nat.le_refl _) (Nat.le_refl _) ?_
                    have hc := (nI_ltI (by omega) ha).mp hc_83
                    have hx : ¬ fit (nI a) (nI m) sz ∨ ¬ fit (nI b) (nI m) so := by rw [fitN ha hm, fitN hb hm]; omega
                    simp only [sp_copy, inn, inb, inm, btw, hx, inn_t hs1, tnl hs1, inn_t hw1, tnl hw1, hc_28, hc_38, hc_56, es, eo, tnt hsz, tnt hso, not_true_eq_false, not_false_eq_true, or_false, false_or, or_true, true_or, and_true, true_and, and_false, false_and, or_self, and_self, if_true, if_false, ite_true, ite_false, eq_self] at hK; exact hK
                  · have h83 : a ≤ sz := Nat.le_of_not_lt (fun g => hc_83 (nI_lt g (by omega)))
                    refine wp_iload (q := 88) d_Rf_copy_86 rfl rfl ?_
                    refine wp_aload_n (q := 89) d_Rf_copy_88 rfl rfl ?_
                    refine wp_get (q := 92) fl_Rf_104 d_Rf_copy_89 rfl rfl rfl ?_
                    refine wp_iload_n (q := 93) d_Rf_copy_92 rfl rfl ?_
                    refine wp_iald (q := 94) d_Rf_copy_93 rfl (rfl) (by omega) (by decide) ?_
                    rw [eo]
                    refine wp_icmp_gt (q := 97) (tgt := 124) d_Rf_copy_94 (by decide) rfl (fun hc_94 => ?_) (fun hc_94 => ?_)
                    · refine wp_bipush (q := 126) d_Rf_copy_124 rfl bp_m12 ?_
                      refine wp_iret d_Rf_copy_126 rfl (Nat.le_refl _) (Nat.le_refl _) ?_
                      have hc := (nI_ltI (by omega) hb).mp hc_94
                      have hx : ¬ fit (nI a) (nI m) sz ∨ ¬ fit (nI b) (nI m) so := by rw [fitN ha hm, fitN hb hm]; omega
                      simp only [sp_copy, inn, inb, inm, btw, hx, inn_t hs1, tnl hs1, inn_t hw1, tnl hw1, hc_28, hc_38, hc_56, es, eo, tnt hsz, tnt hso, not_true_eq_false, not_false_eq_true, or_false, false_or, or_true, true_or, and_true, true_and, and_false, false_and, or_self, and_self, if_true, if_false, ite_true, ite_false, eq_self] at hK; exact hK
                    · have h94 : b ≤ so := Nat.le_of_not_lt (fun g => hc_94 (nI_lt g (by omega)))
                      refine wp_iload (q := 99) d_Rf_copy_97 rfl rfl ?_
                      refine wp_aload_n (q := 100) d_Rf_copy_99 rfl rfl ?_
                      refine wp_get (q := 103) fl_Rf_104 d_Rf_copy_100 rfl rfl rfl ?_
                      refine wp_iload_n (q := 104) d_Rf_copy_103 rfl rfl ?_
                      refine wp_iald (q := 105) d_Rf_copy_104 rfl (rfl) (by omega) (by decide) ?_
                      rw [es]
                      refine wp_iload_n (q := 106) d_Rf_copy_105 rfl rfl ?_
                      refine wp_isubN (q := 107) d_Rf_copy_106 rfl (h83) ?_
                      refine wp_icmp_gt (q := 110) (tgt := 124) d_Rf_copy_107 (by decide) rfl (fun hc_107 => ?_) (fun hc_107 => ?_)
                      · refine wp_bipush (q := 126) d_Rf_copy_124 rfl bp_m12 ?_
                        refine wp_iret d_Rf_copy_126 rfl (Nat.le_refl _) (Nat.le_refl _) ?_
                        have hc := (nI_ltI (by omega) hm).mp hc_107
                        have hx : ¬ fit (nI a) (nI m) sz ∨ ¬ fit (nI b) (nI m) so := by rw [fitN ha hm, fitN hb hm]; omega
                        simp only [sp_copy, inn, inb, inm, btw, hx, inn_t hs1, tnl hs1, inn_t hw1, tnl hw1, hc_28, hc_38, hc_56, es, eo, tnt hsz, tnt hso, not_true_eq_false, not_false_eq_true, or_false, false_or, or_true, true_or, and_true, true_and, and_false, false_and, or_self, and_self, if_true, if_false, ite_true, ite_false, eq_self] at hK; exact hK
                      · have h107 : m ≤ sz - a := Nat.le_of_not_lt (fun g => hc_107 (nI_lt g (by omega)))
                        refine wp_iload (q := 112) d_Rf_copy_110 rfl rfl ?_
                        refine wp_aload_n (q := 113) d_Rf_copy_112 rfl rfl ?_
                        refine wp_get (q := 116) fl_Rf_104 d_Rf_copy_113 rfl rfl rfl ?_
                        refine wp_iload_n (q := 117) d_Rf_copy_116 rfl rfl ?_
                        refine wp_iald (q := 118) d_Rf_copy_117 rfl (rfl) (by omega) (by decide) ?_
                        rw [eo]
                        refine wp_iload (q := 120) d_Rf_copy_118 rfl rfl ?_
                        refine wp_isubN (q := 121) d_Rf_copy_120 rfl (h94) ?_
                        refine wp_icmp_le (q := 124) (tgt := 127) d_Rf_copy_121 (by decide) rfl (fun hc_121 => ?_) (fun hc_121 => ?_)
                        · have h121 : m ≤ so - b := (nI_leI hm (by omega)).mp hc_121
                          refine wp_bipush (q := 129) d_Rf_copy_127 rfl bp_40 ?_
                          refine wp_iload_n (q := 130) d_Rf_copy_129 rfl rfl ?_
                          first | refine wp_imulN (q := 131) d_Rf_copy_130 rfl ?_ | refine wp_imul (q := 131) d_Rf_copy_130 rfl ?_
                          refine wp_iload_n (q := 132) d_Rf_copy_131 rfl rfl ?_
                          first | refine wp_iaddN (q := 133) d_Rf_copy_132 rfl ?_ | refine wp_iadd (q := 133) d_Rf_copy_132 rfl ?_
                          refine wp_istore (q := 135) (L2 := [(6, _), (0, _), (1, _), (2, _), (3, _), (4, _), (5, _)]) d_Rf_copy_133 rfl (by decide) rfl ?_
                          refine wp_bipush (q := 137) d_Rf_copy_135 rfl bp_40 ?_
                          refine wp_iload_n (q := 138) d_Rf_copy_137 rfl rfl ?_
                          first | refine wp_imulN (q := 139) d_Rf_copy_138 rfl ?_ | refine wp_imul (q := 139) d_Rf_copy_138 rfl ?_
                          refine wp_iload (q := 141) d_Rf_copy_139 rfl rfl ?_
                          first | refine wp_iaddN (q := 142) d_Rf_copy_141 rfl ?_ | refine wp_iadd (q := 142) d_Rf_copy_141 rfl ?_
                          refine wp_istore (q := 144) (L2 := [(7, _), (6, _), (0, _), (1, _), (2, _), (3, _), (4, _), (5, _)]) d_Rf_copy_142 rfl (by decide) rfl ?_
                          refine wp_iconst (q := 145) d_Rf_copy_144 rfl ic_0 ?_
                          refine wp_istore (q := 147) (L2 := [(8, _), (7, _), (6, _), (0, _), (1, _), (2, _), (3, _), (4, _), (5, _)]) d_Rf_copy_145 rfl (by decide) rfl ?_
                          simp only [sp_copy, inn, inb, inm, btw, fitN ha hm, fitN hb hm, tnt (show a < 41 by omega), tnt (show b < 41 by omega), tnt (show m < 41 by omega), (show a + m ≤ sz by omega), (show b + m ≤ so by omega), inn_t hs1, tnl hs1, inn_t hw1, tnl hw1, hc_28, hc_38, hc_56, es, eo, tnt hsz, tnt hso, not_true_eq_false, not_false_eq_true, or_false, false_or, or_true, true_or, and_true, true_and, and_false, false_and, or_self, and_self, if_true, if_false, ite_true, ite_false, eq_self] at hK
                          by_cases hlt : 40 * s1 + a < 40 * w1 + b
                          · exact cp_D (by omega) (by omega) (by omega) (by omega) hlt hK
                          · exact cp_A (by omega) (by omega) (by omega) (by omega) hlt hK
                        · refine wp_bipush (q := 126) d_Rf_copy_124 rfl bp_m12 ?_
                          refine wp_iret d_Rf_copy_126 rfl (Nat.le_refl _) (Nat.le_refl _) ?_
                          have hc := Nat.lt_of_not_le (fun g => hc_121 (nI_le g (by omega)))
                          have hx : ¬ fit (nI a) (nI m) sz ∨ ¬ fit (nI b) (nI m) so := by rw [fitN ha hm, fitN hb hm]; omega
                          simp only [sp_copy, inn, inb, inm, btw, hx, inn_t hs1, tnl hs1, inn_t hw1, tnl hw1, hc_28, hc_38, hc_56, es, eo, tnt hsz, tnt hso, not_true_eq_false, not_false_eq_true, or_false, false_or, or_true, true_or, and_true, true_and, and_false, false_and, or_self, and_self, if_true, if_false, ite_true, ite_false, eq_self] at hK; exact hK
          · refine wp_bipush (q := 61) d_Rf_copy_59 rfl bp_m13 ?_
            refine wp_iret d_Rf_copy_61 rfl (Nat.le_refl _) (Nat.le_refl _) ?_
            simp only [sp_copy, inn, inb, inm, btw, inn_t hs1, tnl hs1, inn_t hw1, tnl hw1, hc_28, hc_38, hc_56, not_true_eq_false, not_false_eq_true, or_false, false_or, or_true, true_or, and_true, true_and, and_false, false_and, or_self, and_self, if_true, if_false, ite_true, ite_false, eq_self] at hK
            first | exact hK | (simp (disch := omega) only [tput_eq, tput2, tput_ne, upd_eq, upd_ne, ne_eq, va_upeq, va_upne, va_up2, not_true_eq_false, not_false_eq_true, or_false, false_or, or_true, true_or, and_true, true_and, and_false, false_and, or_self, and_self, if_true, if_false, ite_true, ite_false, eq_self] at hK ⊢; exact hK) | (simp (disch := omega) only [tput_eq, tput2, tput_ne, upd_eq, upd_ne, ne_eq, va_upeq, va_upne, va_up2, not_true_eq_false, not_false_eq_true, or_false, false_or, or_true, true_or, and_true, true_and, and_false, false_and, or_self, and_self, if_true, if_false, ite_true, ite_false, eq_self]; exact hK) | (simp (disch := omega) only [tput_eq, tput2, tput_ne, upd_eq, upd_ne, ne_eq, va_upeq, va_upne, va_up2, not_true_eq_false, not_false_eq_true, or_false, false_or, or_true, true_or, and_true, true_and, and_false, false_and, or_self, and_self, if_true, if_false, ite_true, ite_false, eq_self] at hK; exact hK)
        · refine wp_bipush (q := 43) d_Rf_copy_41 rfl bp_m11 ?_
          refine wp_iret d_Rf_copy_43 rfl (Nat.le_refl _) (Nat.le_refl _) ?_
          simp only [sp_copy, inn, inb, inm, btw, inn_t hs1, tnl hs1, inn_t hw1, tnl hw1, hc_28, hc_38, not_true_eq_false, not_false_eq_true, or_false, false_or, or_true, true_or, and_true, true_and, and_false, false_and, or_self, and_self, if_true, if_false, ite_true, ite_false, eq_self] at hK
          first | exact hK | (simp (disch := omega) only [tput_eq, tput2, tput_ne, upd_eq, upd_ne, ne_eq, va_upeq, va_upne, va_up2, not_true_eq_false, not_false_eq_true, or_false, false_or, or_true, true_or, and_true, true_and, and_false, false_and, or_self, and_self, if_true, if_false, ite_true, ite_false, eq_self] at hK ⊢; exact hK) | (simp (disch := omega) only [tput_eq, tput2, tput_ne, upd_eq, upd_ne, ne_eq, va_upeq, va_upne, va_up2, not_true_eq_false, not_false_eq_true, or_false, false_or, or_true, true_or, and_true, true_and, and_false, false_and, or_self, and_self, if_true, if_false, ite_true, ite_false, eq_self]; exact hK) | (simp (disch := omega) only [tput_eq, tput2, tput_ne, upd_eq, upd_ne, ne_eq, va_upeq, va_upne, va_up2, not_true_eq_false, not_false_eq_true, or_false, false_or, or_true, true_or, and_true, true_and, and_false, false_and, or_self, and_self, if_true, if_false, ite_true, ite_false, eq_self] at hK; exact hK)
    · refine wp_if_ne_f (q := 18) (tgt := 21) d_Rf_copy_15 (by decide) rfl (by decide) ?_
      refine wp_bipush (q := 20) d_Rf_copy_18 rfl bp_m2 ?_
      refine wp_iret d_Rf_copy_20 rfl (Nat.le_refl _) (Nat.le_refl _) ?_
      simp only [sp_copy, inn, inb, inm, btw, inn_t hs1, tnl hs1, hw1, not_true_eq_false, not_false_eq_true, or_false, false_or, or_true, true_or, and_true, true_and, and_false, false_and, or_self, and_self, if_true, if_false, ite_true, ite_false, eq_self] at hK
      first | exact hK | (simp (disch := omega) only [tput_eq, tput2, tput_ne, upd_eq, upd_ne, ne_eq, va_upeq, va_upne, va_up2, not_true_eq_false, not_false_eq_true, or_false, false_or, or_true, true_or, and_true, true_and, and_false, false_and, or_self, and_self, if_true, if_false, ite_true, ite_false, eq_self] at hK ⊢; exact hK) | (simp (disch := omega) only [tput_eq, tput2, tput_ne, upd_eq, upd_ne, ne_eq, va_upeq, va_upne, va_up2, not_true_eq_false, not_false_eq_true, or_false, false_or, or_true, true_or, and_true, true_and, and_false, false_and, or_self, and_self, if_true, if_false, ite_true, ite_false, eq_self]; exact hK) | (simp (disch := omega) only [tput_eq, tput2, tput_ne, upd_eq, upd_ne, ne_eq, va_upeq, va_upne, va_up2, not_true_eq_false, not_false_eq_true, or_false, false_or, or_true, true_or, and_true, true_and, and_false, false_and, or_self, and_self, if_true, if_false, ite_true, ite_false, eq_self] at hK; exact hK)
  · refine wp_if_eq_t (tgt := 18) d_Rf_copy_6 (by decide) (by decide) ?_
    refine wp_bipush (q := 20) d_Rf_copy_18 rfl bp_m2 ?_
    refine wp_iret d_Rf_copy_20 rfl (Nat.le_refl _) (Nat.le_refl _) ?_
    simp only [sp_copy, inn, inb, inm, btw, hs1, not_true_eq_false, not_false_eq_true, or_false, false_or, or_true, true_or, and_true, true_and, and_false, false_and, or_self, and_self, if_true, if_false, ite_true, ite_false, eq_self] at hK
    first | exact hK | (simp (disch := omega) only [tput_eq, tput2, tput_ne, upd_eq, upd_ne, ne_eq, va_upeq, va_upne, va_up2, not_true_eq_false, not_false_eq_true, or_false, false_or, or_true, true_or, and_true, true_and, and_false, false_and, or_self, and_self, if_true, if_false, ite_true, ite_false, eq_self] at hK ⊢; exact hK) | (simp (disch := omega) only [tput_eq, tput2, tput_ne, upd_eq, upd_ne, ne_eq, va_upeq, va_upne, va_up2, not_true_eq_false, not_false_eq_true, or_false, false_or, or_true, true_or, and_true, true_and, and_false, false_and, or_self, and_self, if_true, if_false, ite_true, ite_false, eq_self]; exact hK) | (simp (disch := omega) only [tput_eq, tput2, tput_ne, upd_eq, upd_ne, ne_eq, va_upeq, va_upne, va_up2, not_true_eq_false, not_false_eq_true, or_false, false_or, or_true, true_or, and_true, true_and, and_false, false_and, or_self, and_self, if_true, if_false, ite_true, ite_false, eq_self] at hK; exact hK)
