def hr (m : Nat) : Nat := m % 1440 / 60
theorem hr_lt (m : Nat) : hr m < 24 := by unfold hr; omega
def way (c : T2) (a b h : Nat) : Int32 := if c 2 (6 * a + b) * c 4 h / nI 10 < nI 1 then nI 1 else c 2 (6 * a + b) * c 4 h / nI 10
theorem max1 (n : Int32) : (if nI 1 < n then n else nI 1) = if n < nI 1 then nI 1 else n := by
  by_cases h1 : nI 1 < n
  · rw [if_pos h1, if_neg (fun h => by rw [Int32.lt_iff_toInt_lt] at *; omega)]
  · rw [if_neg h1]
    by_cases h2 : n < nI 1
    · rw [if_pos h2]
    · rw [if_neg h2]
      exact Int32.le_antisymm (nlt_le h2) (nlt_le h1)
def fld (c : T2) (P : Nat → Int32) (nb m s b f : Nat) : Int32 := if f = 0 then P 234 - P (144 + b) else if f = 1 then P (120 + b) else if f = 2 then P 235 else if f = 3 then nI (hr m) else if f = 4 then nI (qc P s nb) else if f = 5 then nI s else if f = 6 then c 6 b else P (168 + b)
def tstB (sg v num : Int32) : Bool := if sg = nI 60 then decide (v < num) else if sg = nI 62 then decide (num < v) else decide (v = num)
def hldB (c : T2) (P : Nat → Int32) (nb m s b sl : Nat) : Nat → Bool
  | 0 => true
  | t + 1 => hldB c P nb m s b sl t && tstB (c 27 (3 * sl + t)) (fld c P nb m s b (tn (c 26 (3 * sl + t)))) (c 28 (3 * sl + t))
def blf (c : T2) (P : Nat → Int32) (nb m s b cu : Nat) (key : Int32) : Nat → Option Nat
  | 0 => none
  | l + 1 => if c 23 (8 * cu + l) = key ∧ hldB c P nb m s b (8 * cu + l) (tn (c 25 (8 * cu + l))) = true then some l else blf c P nb m s b cu key l
def lnf (c : T2) (P : Nat → Int32) (nb m s b : Nat) (key : Int32) : Option Nat := if c 10 s = -1 then none else blf c P nb m s b (tn (c 10 s)) key (tn (c 22 (tn (c 10 s))))
def lawv (c : T2) (P : Nat → Int32) (nb m s b key : Nat) : Int32 := match lnf c P nb m s b (nI key) with
  | none => plainI key
  | some i => c 24 (8 * tn (c 10 s) + i)
def isN (x : Int32) (b : Nat) : Prop := x = nI (tn x) ∧ tn x < b
/-- what holds of the customs -/
def CI (c : T2) : Prop := isN (c 32 9) 7 ∧ (∀ s, s < 6 → c 10 s = -1 ∨ isN (c 10 s) (tn (c 32 9))) ∧ ∀ cu, cu < tn (c 32 9) → isN (c 22 cu) 9 ∧ ∀ i, i < tn (c 22 cu) → isN (c 25 (8 * cu + i)) 4 ∧ ∀ t, t < tn (c 25 (8 * cu + i)) → isN (c 26 (3 * (8 * cu + i) + t)) 8
theorem hldB_le {c : T2} {P : Nat → Int32} {nb m s b sl : Nat} : ∀ {t n : Nat}, t ≤ n → hldB c P nb m s b sl n = true → hldB c P nb m s b sl t = true
  | t, 0, h, _ => by rw [show t = 0 by omega]; rfl
  | t, n + 1, h, e => by
    by_cases q : t = n + 1
    · rw [q]; exact e
    · unfold hldB at e
      exact hldB_le (by omega) (Bool.and_eq_true_iff.mp e).1
theorem hldB_no {c : T2} {P : Nat → Int32} {nb m s b sl t n : Nat} (h : t < n) (e : tstB (c 27 (3 * sl + t)) (fld c P nb m s b (tn (c 26 (3 * sl + t)))) (c 28 (3 * sl + t)) = false) : hldB c P nb m s b sl n = false := by
  cases q : hldB c P nb m s b sl n with
  | false => rfl
  | true =>
    have h1 := hldB_le (t := t + 1) (by omega) q
    unfold hldB at h1
    rw [e] at h1
    simp at h1
theorem blf_lt {c : T2} {P : Nat → Int32} {nb m s b cu : Nat} {key : Int32} : ∀ {n j : Nat}, blf c P nb m s b cu key n = some j → j < n
  | 0, j, h => by cases h
  | n + 1, j, h => by
    unfold blf at h
    split at h
    · cases h; omega
    · have := blf_lt h; omega
theorem d_Rf_hour_0 : decode M_Rf_hour.2.1 0 = .ok (.aload_n 0, 1) := by decide +kernel
theorem d_Rf_hour_1 : decode M_Rf_hour.2.1 1 = .ok (.getfield 7, 3) := by decide +kernel
theorem d_Rf_hour_4 : decode M_Rf_hour.2.1 4 = .ok (.sipush 234, 3) := by decide +kernel
theorem d_Rf_hour_7 : decode M_Rf_hour.2.1 7 = .ok (.iaload, 1) := by decide +kernel
theorem d_Rf_hour_8 : decode M_Rf_hour.2.1 8 = .ok (.sipush 1440, 3) := by decide +kernel
theorem d_Rf_hour_11 : decode M_Rf_hour.2.1 11 = .ok (.irem, 1) := by decide +kernel
theorem d_Rf_hour_12 : decode M_Rf_hour.2.1 12 = .ok (.bipush 60, 2) := by decide +kernel
theorem d_Rf_hour_14 : decode M_Rf_hour.2.1 14 = .ok (.idiv, 1) := by decide +kernel
theorem d_Rf_hour_15 : decode M_Rf_hour.2.1 15 = .ok (.ireturn, 1) := by decide +kernel
set_option maxHeartbeats 4000000 in
set_option maxRecDepth 100000 in
theorem ok_Rf_hour {D : xD} {N : Nat} {l : Launch} {d : Nat} {c z : T2} {P Q : Nat → Int32} {rest : List va_E} {K : Option Value → List va_E → Prop} {m : Nat} (em : P 234 = nI m) (hm : m < 14700) (hK : K (some (.int (nI (hr m)))) (encR D N c z P Q ++ rest)) : Ok D N l d M_Rf_hour [.ref (N + 0)] (encR D N c z P Q ++ rest) 0 0 K := by
  refine ok_of (L := [(0, _)]) (by decide) (Nat.le_of_ble_eq_true rfl) rfl ?_
  refine wp_aload_n d_Rf_hour_0 rfl rfl ?_
  refine wp_get fl_Rf_7 d_Rf_hour_1 rfl rfl rfl ?_
  refine wp_sipush d_Rf_hour_4 rfl sp_234 ?_
  refine wp_iald d_Rf_hour_7 rfl (rfl) (by omega) (by decide) ?_
  rw [em]
  refine wp_sipush d_Rf_hour_8 rfl sp_1440 ?_
  refine wp_iremN d_Rf_hour_11 rfl (by omega) (by decide) (by decide) ?_
  refine wp_bipush d_Rf_hour_12 rfl bp_60 ?_
  refine wp_idivN d_Rf_hour_14 rfl (by omega) (by decide) (by decide) ?_
  refine wp_iret d_Rf_hour_15 rfl (Nat.le_refl _) (Nat.le_refl _) ?_
  exact hK
theorem d_Wd_hour_0 : decode M_Wd_hour.2.1 0 = .ok (.aload_n 0, 1) := by decide +kernel
theorem d_Wd_hour_1 : decode M_Wd_hour.2.1 1 = .ok (.getfield 28, 3) := by decide +kernel
theorem d_Wd_hour_4 : decode M_Wd_hour.2.1 4 = .ok (.sipush 1440, 3) := by decide +kernel
theorem d_Wd_hour_7 : decode M_Wd_hour.2.1 7 = .ok (.irem, 1) := by decide +kernel
theorem d_Wd_hour_8 : decode M_Wd_hour.2.1 8 = .ok (.bipush 60, 2) := by decide +kernel
theorem d_Wd_hour_10 : decode M_Wd_hour.2.1 10 = .ok (.idiv, 1) := by decide +kernel
theorem d_Wd_hour_11 : decode M_Wd_hour.2.1 11 = .ok (.ireturn, 1) := by decide +kernel
set_option maxHeartbeats 4000000 in
set_option maxRecDepth 100000 in
theorem ok_Wd_hour {D : xD} {N : Nat} {l : Launch} {d : Nat} {c x V : T2} {P : Nat → Int32} {w : Nat} {ln df : Nat → Option Nat} {rest : List va_E} {K : Option Value → List va_E → Prop} (hw : w < 3) {m : Nat} (em : P 234 = nI m) (hm : m < 14700) (hK : K (some (.int (nI (hr m)))) (encC D N c x (va_up V w P) ln df ++ rest)) : Ok D N l d M_Wd_hour [.ref (N + wA w)] (encC D N c x (va_up V w P) ln df ++ rest) 0 0 K := by
  refine ok_of (L := [(0, _)]) (by decide) (Nat.le_of_ble_eq_true rfl) rfl ?_
  refine wp_aload_n d_Wd_hour_0 rfl rfl ?_
  refine wp_get fl_Wd_28 d_Wd_hour_1 rfl (rdO (w := w) hw) rfl ?_
  rw [em]
  refine wp_sipush d_Wd_hour_4 rfl sp_1440 ?_
  refine wp_iremN d_Wd_hour_7 rfl (by omega) (by decide) (by decide) ?_
  refine wp_bipush d_Wd_hour_8 rfl bp_60 ?_
  refine wp_idivN d_Wd_hour_10 rfl (by omega) (by decide) (by decide) ?_
  refine wp_iret d_Wd_hour_11 rfl (Nat.le_refl _) (Nat.le_refl _) ?_
  exact hK
theorem d_Rf_wayOf_0 : decode M_Rf_wayOf.2.1 0 = .ok (.aload_n 0, 1) := by decide +kernel
theorem d_Rf_wayOf_1 : decode M_Rf_wayOf.2.1 1 = .ok (.getfield 19, 3) := by decide +kernel
theorem d_Rf_wayOf_4 : decode M_Rf_wayOf.2.1 4 = .ok (.bipush 6, 2) := by decide +kernel
theorem d_Rf_wayOf_6 : decode M_Rf_wayOf.2.1 6 = .ok (.iload_n 1, 1) := by decide +kernel
theorem d_Rf_wayOf_7 : decode M_Rf_wayOf.2.1 7 = .ok (.imul, 1) := by decide +kernel
theorem d_Rf_wayOf_8 : decode M_Rf_wayOf.2.1 8 = .ok (.iload_n 2, 1) := by decide +kernel
theorem d_Rf_wayOf_9 : decode M_Rf_wayOf.2.1 9 = .ok (.iadd, 1) := by decide +kernel
theorem d_Rf_wayOf_10 : decode M_Rf_wayOf.2.1 10 = .ok (.iaload, 1) := by decide +kernel
theorem d_Rf_wayOf_11 : decode M_Rf_wayOf.2.1 11 = .ok (.aload_n 0, 1) := by decide +kernel
theorem d_Rf_wayOf_12 : decode M_Rf_wayOf.2.1 12 = .ok (.getfield 25, 3) := by decide +kernel
theorem d_Rf_wayOf_15 : decode M_Rf_wayOf.2.1 15 = .ok (.aload_n 0, 1) := by decide +kernel
theorem d_Rf_wayOf_16 : decode M_Rf_wayOf.2.1 16 = .ok (.invokevirtual 159, 3) := by decide +kernel
theorem d_Rf_wayOf_19 : decode M_Rf_wayOf.2.1 19 = .ok (.iaload, 1) := by decide +kernel
theorem d_Rf_wayOf_20 : decode M_Rf_wayOf.2.1 20 = .ok (.imul, 1) := by decide +kernel
theorem d_Rf_wayOf_21 : decode M_Rf_wayOf.2.1 21 = .ok (.bipush 10, 2) := by decide +kernel
theorem d_Rf_wayOf_23 : decode M_Rf_wayOf.2.1 23 = .ok (.idiv, 1) := by decide +kernel
theorem d_Rf_wayOf_24 : decode M_Rf_wayOf.2.1 24 = .ok (.istore_n 3, 1) := by decide +kernel
theorem d_Rf_wayOf_25 : decode M_Rf_wayOf.2.1 25 = .ok (.iload_n 3, 1) := by decide +kernel
theorem d_Rf_wayOf_26 : decode M_Rf_wayOf.2.1 26 = .ok (.iconst 1, 1) := by decide +kernel
theorem d_Rf_wayOf_27 : decode M_Rf_wayOf.2.1 27 = .ok (.if_icmp .ge 7, 3) := by decide +kernel
theorem d_Rf_wayOf_30 : decode M_Rf_wayOf.2.1 30 = .ok (.iconst 1, 1) := by decide +kernel
theorem d_Rf_wayOf_31 : decode M_Rf_wayOf.2.1 31 = .ok (.goto 4, 3) := by decide +kernel
theorem d_Rf_wayOf_34 : decode M_Rf_wayOf.2.1 34 = .ok (.iload_n 3, 1) := by decide +kernel
theorem d_Rf_wayOf_35 : decode M_Rf_wayOf.2.1 35 = .ok (.ireturn, 1) := by decide +kernel
set_option maxHeartbeats 4000000 in
set_option maxRecDepth 100000 in
theorem ok_Rf_wayOf {D : xD} {N : Nat} {l : Launch} {d : Nat} {c z : T2} {P Q : Nat → Int32} {rest : List va_E} {K : Option Value → List va_E → Prop} {m : Nat} (em : P 234 = nI m) (hm : m < 14700) {a b : Nat} (ha : a < 6) (hb : b < 6) (hK : K (some (.int (way c a b (hr m)))) (encR D N c z P Q ++ rest)) : Ok D N l (d + 1) M_Rf_wayOf [.ref (N + 0), .int (nI a), .int (nI b)] (encR D N c z P Q ++ rest) 0 0 K := by
  have hh := hr_lt m
  refine ok_of (L := [(0, _), (1, _), (2, _)]) (by decide) (Nat.le_of_ble_eq_true rfl) rfl ?_
  refine wp_aload_n d_Rf_wayOf_0 rfl rfl ?_
  refine wp_get fl_Rf_19 d_Rf_wayOf_1 rfl rfl rfl ?_
  refine wp_bipush d_Rf_wayOf_4 rfl bp_6 ?_
  refine wp_iload_n d_Rf_wayOf_6 rfl rfl ?_
  first | refine wp_imulN d_Rf_wayOf_7 rfl ?_ | refine wp_imul d_Rf_wayOf_7 rfl ?_
  refine wp_iload_n d_Rf_wayOf_8 rfl rfl ?_
  first | refine wp_iaddN d_Rf_wayOf_9 rfl ?_ | refine wp_iadd d_Rf_wayOf_9 rfl ?_
  refine wp_iald d_Rf_wayOf_10 rfl (rfl) (by omega) (by decide) ?_
  refine wp_aload_n d_Rf_wayOf_11 rfl rfl ?_
  refine wp_get fl_Rf_25 d_Rf_wayOf_12 rfl rfl rfl ?_
  refine wp_aload_n d_Rf_wayOf_15 rfl rfl ?_
  refine wp_cv0 lk_Rf_159 (ro _ _ _) d_Rf_wayOf_16 rfl (Nat.le_of_ble_eq_true rfl) (rfl) rfl (Nat.zero_le _) (Nat.zero_le _) ?_
  refine ok_Rf_hour em hm ?_
  refine wp_iald d_Rf_wayOf_19 rfl (rfl) (by omega) (by decide) ?_
  refine wp_imul d_Rf_wayOf_20 rfl ?_
  refine wp_bipush d_Rf_wayOf_21 rfl bp_10 ?_
  refine wp_idiv d_Rf_wayOf_23 rfl (by decide) ?_
  refine wp_istore_n (L2 := [(3, _), (0, _), (1, _), (2, _)]) d_Rf_wayOf_24 rfl (by decide) rfl ?_
  refine wp_iload_n d_Rf_wayOf_25 rfl rfl ?_
  refine wp_iconst d_Rf_wayOf_26 rfl ic_1 ?_
  refine wp_icmp_ge (tgt := 34) d_Rf_wayOf_27 (by decide) rfl (fun hc_27 => ?_) (fun hc_27 => ?_)
  · refine wp_iload_n d_Rf_wayOf_34 rfl rfl ?_
    refine wp_iret d_Rf_wayOf_35 rfl (Nat.le_refl _) (Nat.le_refl _) ?_
    first | (rw [way, if_neg (le_nlt hc_27)] at hK; exact hK) | (rw [way, if_pos (nle_lt hc_27)] at hK; exact hK)
  · refine wp_iconst d_Rf_wayOf_30 rfl ic_1 ?_
    refine wp_goto (tgt := 35) d_Rf_wayOf_31 (by decide) ?_
    refine wp_iret d_Rf_wayOf_35 rfl (Nat.le_refl _) (Nat.le_refl _) ?_
    first | (rw [way, if_neg (le_nlt hc_27)] at hK; exact hK) | (rw [way, if_pos (nle_lt hc_27)] at hK; exact hK)
theorem d_Tn_wayOf_0 : decode M_Tn_wayOf.2.1 0 = .ok (.iconst 1, 1) := by decide +kernel
theorem d_Tn_wayOf_1 : decode M_Tn_wayOf.2.1 1 = .ok (.aload_n 0, 1) := by decide +kernel
theorem d_Tn_wayOf_2 : decode M_Tn_wayOf.2.1 2 = .ok (.getfield 9, 3) := by decide +kernel
theorem d_Tn_wayOf_5 : decode M_Tn_wayOf.2.1 5 = .ok (.iload_n 1, 1) := by decide +kernel
theorem d_Tn_wayOf_6 : decode M_Tn_wayOf.2.1 6 = .ok (.bipush 6, 2) := by decide +kernel
theorem d_Tn_wayOf_8 : decode M_Tn_wayOf.2.1 8 = .ok (.imul, 1) := by decide +kernel
theorem d_Tn_wayOf_9 : decode M_Tn_wayOf.2.1 9 = .ok (.iload_n 2, 1) := by decide +kernel
theorem d_Tn_wayOf_10 : decode M_Tn_wayOf.2.1 10 = .ok (.iadd, 1) := by decide +kernel
theorem d_Tn_wayOf_11 : decode M_Tn_wayOf.2.1 11 = .ok (.iaload, 1) := by decide +kernel
theorem d_Tn_wayOf_12 : decode M_Tn_wayOf.2.1 12 = .ok (.aload_n 0, 1) := by decide +kernel
theorem d_Tn_wayOf_13 : decode M_Tn_wayOf.2.1 13 = .ok (.getfield 18, 3) := by decide +kernel
theorem d_Tn_wayOf_16 : decode M_Tn_wayOf.2.1 16 = .ok (.iload_n 3, 1) := by decide +kernel
theorem d_Tn_wayOf_17 : decode M_Tn_wayOf.2.1 17 = .ok (.iaload, 1) := by decide +kernel
theorem d_Tn_wayOf_18 : decode M_Tn_wayOf.2.1 18 = .ok (.imul, 1) := by decide +kernel
theorem d_Tn_wayOf_19 : decode M_Tn_wayOf.2.1 19 = .ok (.bipush 10, 2) := by decide +kernel
theorem d_Tn_wayOf_21 : decode M_Tn_wayOf.2.1 21 = .ok (.idiv, 1) := by decide +kernel
theorem d_Tn_wayOf_22 : decode M_Tn_wayOf.2.1 22 = .ok (.invokestatic 84, 3) := by decide +kernel
theorem d_Tn_wayOf_25 : decode M_Tn_wayOf.2.1 25 = .ok (.ireturn, 1) := by decide +kernel
set_option maxHeartbeats 4000000 in
set_option maxRecDepth 100000 in
theorem ok_Tn_wayOf {D : xD} {N : Nat} {l : Launch} {d : Nat} {c x V : T2} {ln df : Nat → Option Nat} {rest : List va_E} {K : Option Value → List va_E → Prop} {a b : Nat} (ha : a < 6) (hb : b < 6) {h : Nat} (hh : h < 24) (hK : K (some (.int (way c a b h))) (encC D N c x V ln df ++ rest)) : Ok D N l (d + 1) M_Tn_wayOf [.ref (N + 1), .int (nI a), .int (nI b), .int (nI h)] (encC D N c x V ln df ++ rest) 0 0 K := by
  refine ok_of (L := [(0, _), (1, _), (2, _), (3, _)]) (by decide) (Nat.le_of_ble_eq_true rfl) rfl ?_
  refine wp_iconst d_Tn_wayOf_0 rfl ic_1 ?_
  refine wp_aload_n d_Tn_wayOf_1 rfl rfl ?_
  refine wp_get fl_Tn_9 d_Tn_wayOf_2 rfl rfl rfl ?_
  refine wp_iload_n d_Tn_wayOf_5 rfl rfl ?_
  refine wp_bipush d_Tn_wayOf_6 rfl bp_6 ?_
  first | refine wp_imulC d_Tn_wayOf_8 rfl ?_ | refine wp_imul d_Tn_wayOf_8 rfl ?_
  refine wp_iload_n d_Tn_wayOf_9 rfl rfl ?_
  first | refine wp_iaddN d_Tn_wayOf_10 rfl ?_ | refine wp_iadd d_Tn_wayOf_10 rfl ?_
  refine wp_iald d_Tn_wayOf_11 rfl (rfl) (by omega) (by decide) ?_
  refine wp_aload_n d_Tn_wayOf_12 rfl rfl ?_
  refine wp_get fl_Tn_18 d_Tn_wayOf_13 rfl rfl rfl ?_
  refine wp_iload_n d_Tn_wayOf_16 rfl rfl ?_
  refine wp_iald d_Tn_wayOf_17 rfl (rfl) (by omega) (by decide) ?_
  refine wp_imul d_Tn_wayOf_18 rfl ?_
  refine wp_bipush d_Tn_wayOf_19 rfl bp_10 ?_
  refine wp_idiv d_Tn_wayOf_21 rfl (by decide) ?_
  refine wp_mmax km_Tn_84 (RO0 ()) d_Tn_wayOf_22 rfl (Nat.le_of_ble_eq_true rfl) (Nat.zero_le _) (Nat.zero_le _) ?_
  refine wp_iret d_Tn_wayOf_25 rfl (Nat.le_refl _) (Nat.le_refl _) ?_
  rw [max1]; exact hK
theorem d_Rf_fieldOf_0 : decode M_Rf_fieldOf.2.1 0 = .ok (.iload_n 1, 1) := by decide +kernel
theorem d_Rf_fieldOf_1 : decode M_Rf_fieldOf.2.1 1 = .ok (.tableswitch 118 0 6 #[43, 63, 73, 82, 87, 101, 111], 43) := by decide +kernel
theorem d_Rf_fieldOf_44 : decode M_Rf_fieldOf.2.1 44 = .ok (.aload_n 0, 1) := by decide +kernel
theorem d_Rf_fieldOf_45 : decode M_Rf_fieldOf.2.1 45 = .ok (.getfield 7, 3) := by decide +kernel
theorem d_Rf_fieldOf_48 : decode M_Rf_fieldOf.2.1 48 = .ok (.sipush 234, 3) := by decide +kernel
theorem d_Rf_fieldOf_51 : decode M_Rf_fieldOf.2.1 51 = .ok (.iaload, 1) := by decide +kernel
theorem d_Rf_fieldOf_52 : decode M_Rf_fieldOf.2.1 52 = .ok (.aload_n 0, 1) := by decide +kernel
theorem d_Rf_fieldOf_53 : decode M_Rf_fieldOf.2.1 53 = .ok (.getfield 7, 3) := by decide +kernel
theorem d_Rf_fieldOf_56 : decode M_Rf_fieldOf.2.1 56 = .ok (.sipush 144, 3) := by decide +kernel
theorem d_Rf_fieldOf_59 : decode M_Rf_fieldOf.2.1 59 = .ok (.iload_n 2, 1) := by decide +kernel
theorem d_Rf_fieldOf_60 : decode M_Rf_fieldOf.2.1 60 = .ok (.iadd, 1) := by decide +kernel
theorem d_Rf_fieldOf_61 : decode M_Rf_fieldOf.2.1 61 = .ok (.iaload, 1) := by decide +kernel
theorem d_Rf_fieldOf_62 : decode M_Rf_fieldOf.2.1 62 = .ok (.isub, 1) := by decide +kernel
theorem d_Rf_fieldOf_63 : decode M_Rf_fieldOf.2.1 63 = .ok (.ireturn, 1) := by decide +kernel
theorem d_Rf_fieldOf_64 : decode M_Rf_fieldOf.2.1 64 = .ok (.aload_n 0, 1) := by decide +kernel
theorem d_Rf_fieldOf_65 : decode M_Rf_fieldOf.2.1 65 = .ok (.getfield 7, 3) := by decide +kernel
theorem d_Rf_fieldOf_68 : decode M_Rf_fieldOf.2.1 68 = .ok (.bipush 120, 2) := by decide +kernel
theorem d_Rf_fieldOf_70 : decode M_Rf_fieldOf.2.1 70 = .ok (.iload_n 2, 1) := by decide +kernel
theorem d_Rf_fieldOf_71 : decode M_Rf_fieldOf.2.1 71 = .ok (.iadd, 1) := by decide +kernel
theorem d_Rf_fieldOf_72 : decode M_Rf_fieldOf.2.1 72 = .ok (.iaload, 1) := by decide +kernel
theorem d_Rf_fieldOf_73 : decode M_Rf_fieldOf.2.1 73 = .ok (.ireturn, 1) := by decide +kernel
theorem d_Rf_fieldOf_74 : decode M_Rf_fieldOf.2.1 74 = .ok (.aload_n 0, 1) := by decide +kernel
theorem d_Rf_fieldOf_75 : decode M_Rf_fieldOf.2.1 75 = .ok (.getfield 7, 3) := by decide +kernel
theorem d_Rf_fieldOf_78 : decode M_Rf_fieldOf.2.1 78 = .ok (.sipush 235, 3) := by decide +kernel
theorem d_Rf_fieldOf_81 : decode M_Rf_fieldOf.2.1 81 = .ok (.iaload, 1) := by decide +kernel
theorem d_Rf_fieldOf_82 : decode M_Rf_fieldOf.2.1 82 = .ok (.ireturn, 1) := by decide +kernel
theorem d_Rf_fieldOf_83 : decode M_Rf_fieldOf.2.1 83 = .ok (.aload_n 0, 1) := by decide +kernel
theorem d_Rf_fieldOf_84 : decode M_Rf_fieldOf.2.1 84 = .ok (.invokevirtual 159, 3) := by decide +kernel
theorem d_Rf_fieldOf_87 : decode M_Rf_fieldOf.2.1 87 = .ok (.ireturn, 1) := by decide +kernel
theorem d_Rf_fieldOf_88 : decode M_Rf_fieldOf.2.1 88 = .ok (.aload_n 0, 1) := by decide +kernel
theorem d_Rf_fieldOf_89 : decode M_Rf_fieldOf.2.1 89 = .ok (.aload_n 0, 1) := by decide +kernel
theorem d_Rf_fieldOf_90 : decode M_Rf_fieldOf.2.1 90 = .ok (.getfield 7, 3) := by decide +kernel
theorem d_Rf_fieldOf_93 : decode M_Rf_fieldOf.2.1 93 = .ok (.bipush 84, 2) := by decide +kernel
theorem d_Rf_fieldOf_95 : decode M_Rf_fieldOf.2.1 95 = .ok (.iload_n 2, 1) := by decide +kernel
theorem d_Rf_fieldOf_96 : decode M_Rf_fieldOf.2.1 96 = .ok (.iadd, 1) := by decide +kernel
theorem d_Rf_fieldOf_97 : decode M_Rf_fieldOf.2.1 97 = .ok (.iaload, 1) := by decide +kernel
theorem d_Rf_fieldOf_98 : decode M_Rf_fieldOf.2.1 98 = .ok (.invokevirtual 217, 3) := by decide +kernel
theorem d_Rf_fieldOf_101 : decode M_Rf_fieldOf.2.1 101 = .ok (.ireturn, 1) := by decide +kernel
theorem d_Rf_fieldOf_102 : decode M_Rf_fieldOf.2.1 102 = .ok (.aload_n 0, 1) := by decide +kernel
theorem d_Rf_fieldOf_103 : decode M_Rf_fieldOf.2.1 103 = .ok (.getfield 7, 3) := by decide +kernel
theorem d_Rf_fieldOf_106 : decode M_Rf_fieldOf.2.1 106 = .ok (.bipush 84, 2) := by decide +kernel
theorem d_Rf_fieldOf_108 : decode M_Rf_fieldOf.2.1 108 = .ok (.iload_n 2, 1) := by decide +kernel
theorem d_Rf_fieldOf_109 : decode M_Rf_fieldOf.2.1 109 = .ok (.iadd, 1) := by decide +kernel
theorem d_Rf_fieldOf_110 : decode M_Rf_fieldOf.2.1 110 = .ok (.iaload, 1) := by decide +kernel
theorem d_Rf_fieldOf_111 : decode M_Rf_fieldOf.2.1 111 = .ok (.ireturn, 1) := by decide +kernel
theorem d_Rf_fieldOf_112 : decode M_Rf_fieldOf.2.1 112 = .ok (.aload_n 0, 1) := by decide +kernel
theorem d_Rf_fieldOf_113 : decode M_Rf_fieldOf.2.1 113 = .ok (.getfield 31, 3) := by decide +kernel
theorem d_Rf_fieldOf_116 : decode M_Rf_fieldOf.2.1 116 = .ok (.iload_n 2, 1) := by decide +kernel
theorem d_Rf_fieldOf_117 : decode M_Rf_fieldOf.2.1 117 = .ok (.iaload, 1) := by decide +kernel
theorem d_Rf_fieldOf_118 : decode M_Rf_fieldOf.2.1 118 = .ok (.ireturn, 1) := by decide +kernel
theorem d_Rf_fieldOf_119 : decode M_Rf_fieldOf.2.1 119 = .ok (.aload_n 0, 1) := by decide +kernel
theorem d_Rf_fieldOf_120 : decode M_Rf_fieldOf.2.1 120 = .ok (.getfield 7, 3) := by decide +kernel
theorem d_Rf_fieldOf_123 : decode M_Rf_fieldOf.2.1 123 = .ok (.sipush 168, 3) := by decide +kernel
theorem d_Rf_fieldOf_126 : decode M_Rf_fieldOf.2.1 126 = .ok (.iload_n 2, 1) := by decide +kernel
theorem d_Rf_fieldOf_127 : decode M_Rf_fieldOf.2.1 127 = .ok (.iadd, 1) := by decide +kernel
theorem d_Rf_fieldOf_128 : decode M_Rf_fieldOf.2.1 128 = .ok (.iaload, 1) := by decide +kernel
theorem d_Rf_fieldOf_129 : decode M_Rf_fieldOf.2.1 129 = .ok (.ireturn, 1) := by decide +kernel
set_option maxHeartbeats 4000000 in
set_option maxRecDepth 100000 in
theorem ok_Rf_fieldOf {D : xD} {N : Nat} {l : Launch} {d : Nat} {c z : T2} {P Q : Nat → Int32} {rest : List va_E} {K : Option Value → List va_E → Prop} {nb : Nat} (hnb : c 32 1 = nI nb) (h12 : nb ≤ 12) {m : Nat} (em : P 234 = nI m) (hm : m < 14700) {b s : Nat} (hb : b < 12) (hs : s < 6) (es : P (84 + b) = nI s) {f : Nat} (hf : f < 8) (hK : K (some (.int (fld c P nb m s b f))) (encR D N c z P Q ++ rest)) : Ok D N l (d + 1) M_Rf_fieldOf [.ref (N + 0), .int (nI f), .int (nI b)] (encR D N c z P Q ++ rest) 0 0 K := by
  refine ok_of (L := [(0, _), (1, _), (2, _)]) (by decide) (Nat.le_of_ble_eq_true rfl) rfl ?_
  refine wp_iload_n d_Rf_fieldOf_0 rfl rfl ?_
  rcases (show f = 0 ∨ f = 1 ∨ f = 2 ∨ f = 3 ∨ f = 4 ∨ f = 5 ∨ f = 6 ∨ f = 7 by omega) with rfl | rfl | rfl | rfl | rfl | rfl | rfl | rfl
  · refine wp_tabIn (tgt := 44) d_Rf_fieldOf_1 (by decide) (by decide) rfl (by decide) ?_
    refine wp_aload_n d_Rf_fieldOf_44 rfl rfl ?_
    refine wp_get fl_Rf_7 d_Rf_fieldOf_45 rfl rfl rfl ?_
    refine wp_sipush d_Rf_fieldOf_48 rfl sp_234 ?_
    refine wp_iald d_Rf_fieldOf_51 rfl (rfl) (by omega) (by decide) ?_
    refine wp_aload_n d_Rf_fieldOf_52 rfl rfl ?_
    refine wp_get fl_Rf_7 d_Rf_fieldOf_53 rfl rfl rfl ?_
    refine wp_sipush d_Rf_fieldOf_56 rfl sp_144 ?_
    refine wp_iload_n d_Rf_fieldOf_59 rfl rfl ?_
    first | refine wp_iaddN d_Rf_fieldOf_60 rfl ?_ | refine wp_iadd d_Rf_fieldOf_60 rfl ?_
    refine wp_iald d_Rf_fieldOf_61 rfl (rfl) (by omega) (by decide) ?_
    refine wp_isub d_Rf_fieldOf_62 rfl ?_
    refine wp_iret d_Rf_fieldOf_63 rfl (Nat.le_refl _) (Nat.le_refl _) ?_
    exact hK
  · refine wp_tabIn (tgt := 64) d_Rf_fieldOf_1 (by decide) (by decide) rfl (by decide) ?_
    refine wp_aload_n d_Rf_fieldOf_64 rfl rfl ?_
    refine wp_get fl_Rf_7 d_Rf_fieldOf_65 rfl rfl rfl ?_
    refine wp_bipush d_Rf_fieldOf_68 rfl bp_120 ?_
    refine wp_iload_n d_Rf_fieldOf_70 rfl rfl ?_
    first | refine wp_iaddN d_Rf_fieldOf_71 rfl ?_ | refine wp_iadd d_Rf_fieldOf_71 rfl ?_
    refine wp_iald d_Rf_fieldOf_72 rfl (rfl) (by omega) (by decide) ?_
    refine wp_iret d_Rf_fieldOf_73 rfl (Nat.le_refl _) (Nat.le_refl _) ?_
    exact hK
  · refine wp_tabIn (tgt := 74) d_Rf_fieldOf_1 (by decide) (by decide) rfl (by decide) ?_
    refine wp_aload_n d_Rf_fieldOf_74 rfl rfl ?_
    refine wp_get fl_Rf_7 d_Rf_fieldOf_75 rfl rfl rfl ?_
    refine wp_sipush d_Rf_fieldOf_78 rfl sp_235 ?_
    refine wp_iald d_Rf_fieldOf_81 rfl (rfl) (by omega) (by decide) ?_
    refine wp_iret d_Rf_fieldOf_82 rfl (Nat.le_refl _) (Nat.le_refl _) ?_
    exact hK
  · refine wp_tabIn (tgt := 83) d_Rf_fieldOf_1 (by decide) (by decide) rfl (by decide) ?_
    refine wp_aload_n d_Rf_fieldOf_83 rfl rfl ?_
    refine wp_cv0 lk_Rf_159 (ro _ _ _) d_Rf_fieldOf_84 rfl (Nat.le_of_ble_eq_true rfl) (rfl) rfl (Nat.zero_le _) (Nat.zero_le _) ?_
    refine ok_Rf_hour em hm ?_
    refine wp_iret d_Rf_fieldOf_87 rfl (Nat.le_refl _) (Nat.le_refl _) ?_
    exact hK
  · refine wp_tabIn (tgt := 88) d_Rf_fieldOf_1 (by decide) (by decide) rfl (by decide) ?_
    refine wp_aload_n d_Rf_fieldOf_88 rfl rfl ?_
    refine wp_aload_n d_Rf_fieldOf_89 rfl rfl ?_
    refine wp_get fl_Rf_7 d_Rf_fieldOf_90 rfl rfl rfl ?_
    refine wp_bipush d_Rf_fieldOf_93 rfl bp_84 ?_
    refine wp_iload_n d_Rf_fieldOf_95 rfl rfl ?_
    first | refine wp_iaddN d_Rf_fieldOf_96 rfl ?_ | refine wp_iadd d_Rf_fieldOf_96 rfl ?_
    refine wp_iald d_Rf_fieldOf_97 rfl (rfl) (by omega) (by decide) ?_
    rw [es]
    refine wp_cv1 lk_Rf_217 (ro _ _ _) d_Rf_fieldOf_98 rfl (Nat.le_of_ble_eq_true rfl) (rfl) rfl (Nat.zero_le _) (Nat.zero_le _) ?_
    refine ok_Rf_queueAt hnb h12 hs ?_
    refine wp_iret d_Rf_fieldOf_101 rfl (Nat.le_refl _) (Nat.le_refl _) ?_
    exact hK
  · refine wp_tabIn (tgt := 102) d_Rf_fieldOf_1 (by decide) (by decide) rfl (by decide) ?_
    refine wp_aload_n d_Rf_fieldOf_102 rfl rfl ?_
    refine wp_get fl_Rf_7 d_Rf_fieldOf_103 rfl rfl rfl ?_
    refine wp_bipush d_Rf_fieldOf_106 rfl bp_84 ?_
    refine wp_iload_n d_Rf_fieldOf_108 rfl rfl ?_
    first | refine wp_iaddN d_Rf_fieldOf_109 rfl ?_ | refine wp_iadd d_Rf_fieldOf_109 rfl ?_
    refine wp_iald d_Rf_fieldOf_110 rfl (rfl) (by omega) (by decide) ?_
    rw [es]
    refine wp_iret d_Rf_fieldOf_111 rfl (Nat.le_refl _) (Nat.le_refl _) ?_
    exact hK
  · refine wp_tabIn (tgt := 112) d_Rf_fieldOf_1 (by decide) (by decide) rfl (by decide) ?_
    refine wp_aload_n d_Rf_fieldOf_112 rfl rfl ?_
    refine wp_get fl_Rf_31 d_Rf_fieldOf_113 rfl rfl rfl ?_
    refine wp_iload_n d_Rf_fieldOf_116 rfl rfl ?_
    refine wp_iald d_Rf_fieldOf_117 rfl (rfl) (by omega) (by decide) ?_
    refine wp_iret d_Rf_fieldOf_118 rfl (Nat.le_refl _) (Nat.le_refl _) ?_
    exact hK
  · refine wp_tabOut (tgt := 119) d_Rf_fieldOf_1 (by decide) (by decide) ?_
    refine wp_aload_n d_Rf_fieldOf_119 rfl rfl ?_
    refine wp_get fl_Rf_7 d_Rf_fieldOf_120 rfl rfl rfl ?_
    refine wp_sipush d_Rf_fieldOf_123 rfl sp_168 ?_
    refine wp_iload_n d_Rf_fieldOf_126 rfl rfl ?_
    first | refine wp_iaddN d_Rf_fieldOf_127 rfl ?_ | refine wp_iadd d_Rf_fieldOf_127 rfl ?_
    refine wp_iald d_Rf_fieldOf_128 rfl (rfl) (by omega) (by decide) ?_
    refine wp_iret d_Rf_fieldOf_129 rfl (Nat.le_refl _) (Nat.le_refl _) ?_
    exact hK
theorem d_Rf_holds_0 : decode M_Rf_holds.2.1 0 = .ok (.iconst 3, 1) := by decide +kernel
theorem d_Rf_holds_1 : decode M_Rf_holds.2.1 1 = .ok (.iload_n 1, 1) := by decide +kernel
theorem d_Rf_holds_2 : decode M_Rf_holds.2.1 2 = .ok (.imul, 1) := by decide +kernel
theorem d_Rf_holds_3 : decode M_Rf_holds.2.1 3 = .ok (.istore_n 3, 1) := by decide +kernel
theorem d_Rf_holds_4 : decode M_Rf_holds.2.1 4 = .ok (.iload_n 3, 1) := by decide +kernel
theorem d_Rf_holds_5 : decode M_Rf_holds.2.1 5 = .ok (.iconst 3, 1) := by decide +kernel
theorem d_Rf_holds_6 : decode M_Rf_holds.2.1 6 = .ok (.iload_n 1, 1) := by decide +kernel
theorem d_Rf_holds_7 : decode M_Rf_holds.2.1 7 = .ok (.imul, 1) := by decide +kernel
theorem d_Rf_holds_8 : decode M_Rf_holds.2.1 8 = .ok (.aload_n 0, 1) := by decide +kernel
theorem d_Rf_holds_9 : decode M_Rf_holds.2.1 9 = .ok (.getfield 89, 3) := by decide +kernel
theorem d_Rf_holds_12 : decode M_Rf_holds.2.1 12 = .ok (.iload_n 1, 1) := by decide +kernel
theorem d_Rf_holds_13 : decode M_Rf_holds.2.1 13 = .ok (.iaload, 1) := by decide +kernel
theorem d_Rf_holds_14 : decode M_Rf_holds.2.1 14 = .ok (.iadd, 1) := by decide +kernel
theorem d_Rf_holds_15 : decode M_Rf_holds.2.1 15 = .ok (.if_icmp .ge 85, 3) := by decide +kernel
theorem d_Rf_holds_18 : decode M_Rf_holds.2.1 18 = .ok (.aload_n 0, 1) := by decide +kernel
theorem d_Rf_holds_19 : decode M_Rf_holds.2.1 19 = .ok (.aload_n 0, 1) := by decide +kernel
theorem d_Rf_holds_20 : decode M_Rf_holds.2.1 20 = .ok (.getfield 92, 3) := by decide +kernel
theorem d_Rf_holds_23 : decode M_Rf_holds.2.1 23 = .ok (.iload_n 3, 1) := by decide +kernel
theorem d_Rf_holds_24 : decode M_Rf_holds.2.1 24 = .ok (.iaload, 1) := by decide +kernel
theorem d_Rf_holds_25 : decode M_Rf_holds.2.1 25 = .ok (.iload_n 2, 1) := by decide +kernel
theorem d_Rf_holds_26 : decode M_Rf_holds.2.1 26 = .ok (.invokevirtual 220, 3) := by decide +kernel
theorem d_Rf_holds_29 : decode M_Rf_holds.2.1 29 = .ok (.istore 4, 2) := by decide +kernel
theorem d_Rf_holds_31 : decode M_Rf_holds.2.1 31 = .ok (.aload_n 0, 1) := by decide +kernel
theorem d_Rf_holds_32 : decode M_Rf_holds.2.1 32 = .ok (.getfield 95, 3) := by decide +kernel
theorem d_Rf_holds_35 : decode M_Rf_holds.2.1 35 = .ok (.iload_n 3, 1) := by decide +kernel
theorem d_Rf_holds_36 : decode M_Rf_holds.2.1 36 = .ok (.iaload, 1) := by decide +kernel
theorem d_Rf_holds_37 : decode M_Rf_holds.2.1 37 = .ok (.bipush 60, 2) := by decide +kernel
theorem d_Rf_holds_39 : decode M_Rf_holds.2.1 39 = .ok (.if_icmp .ne 17, 3) := by decide +kernel
theorem d_Rf_holds_42 : decode M_Rf_holds.2.1 42 = .ok (.iload 4, 2) := by decide +kernel
theorem d_Rf_holds_44 : decode M_Rf_holds.2.1 44 = .ok (.aload_n 0, 1) := by decide +kernel
theorem d_Rf_holds_45 : decode M_Rf_holds.2.1 45 = .ok (.getfield 98, 3) := by decide +kernel
theorem d_Rf_holds_48 : decode M_Rf_holds.2.1 48 = .ok (.iload_n 3, 1) := by decide +kernel
theorem d_Rf_holds_49 : decode M_Rf_holds.2.1 49 = .ok (.iaload, 1) := by decide +kernel
theorem d_Rf_holds_50 : decode M_Rf_holds.2.1 50 = .ok (.if_icmp .lt 44, 3) := by decide +kernel
theorem d_Rf_holds_53 : decode M_Rf_holds.2.1 53 = .ok (.goto 39, 3) := by decide +kernel
theorem d_Rf_holds_56 : decode M_Rf_holds.2.1 56 = .ok (.aload_n 0, 1) := by decide +kernel
theorem d_Rf_holds_57 : decode M_Rf_holds.2.1 57 = .ok (.getfield 95, 3) := by decide +kernel
theorem d_Rf_holds_60 : decode M_Rf_holds.2.1 60 = .ok (.iload_n 3, 1) := by decide +kernel
theorem d_Rf_holds_61 : decode M_Rf_holds.2.1 61 = .ok (.iaload, 1) := by decide +kernel
theorem d_Rf_holds_62 : decode M_Rf_holds.2.1 62 = .ok (.bipush 62, 2) := by decide +kernel
theorem d_Rf_holds_64 : decode M_Rf_holds.2.1 64 = .ok (.if_icmp .ne 17, 3) := by decide +kernel
theorem d_Rf_holds_67 : decode M_Rf_holds.2.1 67 = .ok (.iload 4, 2) := by decide +kernel
theorem d_Rf_holds_69 : decode M_Rf_holds.2.1 69 = .ok (.aload_n 0, 1) := by decide +kernel
theorem d_Rf_holds_70 : decode M_Rf_holds.2.1 70 = .ok (.getfield 98, 3) := by decide +kernel
theorem d_Rf_holds_73 : decode M_Rf_holds.2.1 73 = .ok (.iload_n 3, 1) := by decide +kernel
theorem d_Rf_holds_74 : decode M_Rf_holds.2.1 74 = .ok (.iaload, 1) := by decide +kernel
theorem d_Rf_holds_75 : decode M_Rf_holds.2.1 75 = .ok (.if_icmp .gt 19, 3) := by decide +kernel
theorem d_Rf_holds_78 : decode M_Rf_holds.2.1 78 = .ok (.goto 14, 3) := by decide +kernel
theorem d_Rf_holds_81 : decode M_Rf_holds.2.1 81 = .ok (.iload 4, 2) := by decide +kernel
theorem d_Rf_holds_83 : decode M_Rf_holds.2.1 83 = .ok (.aload_n 0, 1) := by decide +kernel
theorem d_Rf_holds_84 : decode M_Rf_holds.2.1 84 = .ok (.getfield 98, 3) := by decide +kernel
theorem d_Rf_holds_87 : decode M_Rf_holds.2.1 87 = .ok (.iload_n 3, 1) := by decide +kernel
theorem d_Rf_holds_88 : decode M_Rf_holds.2.1 88 = .ok (.iaload, 1) := by decide +kernel
theorem d_Rf_holds_89 : decode M_Rf_holds.2.1 89 = .ok (.if_icmp .eq 5, 3) := by decide +kernel
theorem d_Rf_holds_92 : decode M_Rf_holds.2.1 92 = .ok (.iconst 0, 1) := by decide +kernel
theorem d_Rf_holds_93 : decode M_Rf_holds.2.1 93 = .ok (.ireturn, 1) := by decide +kernel
theorem d_Rf_holds_94 : decode M_Rf_holds.2.1 94 = .ok (.iinc 3 1, 3) := by decide +kernel
theorem d_Rf_holds_97 : decode M_Rf_holds.2.1 97 = .ok (.goto (-93), 3) := by decide +kernel
theorem d_Rf_holds_100 : decode M_Rf_holds.2.1 100 = .ok (.iconst 1, 1) := by decide +kernel
theorem d_Rf_holds_101 : decode M_Rf_holds.2.1 101 = .ok (.ireturn, 1) := by decide +kernel
set_option maxHeartbeats 4000000 in
set_option maxRecDepth 100000 in
theorem ok_Rf_holds {D : xD} {N : Nat} {l : Launch} {d : Nat} {c z : T2} {P Q : Nat → Int32} {rest : List va_E} {K : Option Value → List va_E → Prop} {nb : Nat} (hnb : c 32 1 = nI nb) (h12 : nb ≤ 12) {m : Nat} (em : P 234 = nI m) (hm : m < 14700) {b s : Nat} (hb : b < 12) (hs : s < 6) (es : P (84 + b) = nI s) {sl nt : Nat} (hsl : sl < 48) (ent : c 25 sl = nI nt) (hnt : nt ≤ 3) (hf : ∀ t, t < nt → isN (c 26 (3 * sl + t)) 8) (h1 : hldB c P nb m s b sl nt = true → K (some (.int (nI 1))) (encR D N c z P Q ++ rest)) (h0 : hldB c P nb m s b sl nt = false → K (some (.int (nI 0))) (encR D N c z P Q ++ rest)) : Ok D N l (d + 2) M_Rf_holds [.ref (N + 0), .int (nI sl), .int (nI b)] (encR D N c z P Q ++ rest) 0 0 K := by
  have lp : ∀ t : Nat, t ≤ nt → hldB c P nb m s b sl t = true → Wp D N l (EI M_Rf_holds) M_Rf_holds (Rm (d + 2) 0 0) (Qm D N K 0 0) 0 0 4 [(3, .int (nI (3 * sl + t))), (0, .ref (N + 0)), (1, .int (nI sl)), (2, .int (nI b))] [] (encR D N c z P Q ++ rest) := by
    refine up_loop ?_ ?_
    · intro hall; skip
      refine wp_iload_n d_Rf_holds_4 rfl rfl ?_
      refine wp_iconst d_Rf_holds_5 rfl ic_3 ?_
      refine wp_iload_n d_Rf_holds_6 rfl rfl ?_
      first | refine wp_imulN d_Rf_holds_7 rfl ?_ | refine wp_imul d_Rf_holds_7 rfl ?_
      refine wp_aload_n d_Rf_holds_8 rfl rfl ?_
      refine wp_get fl_Rf_89 d_Rf_holds_9 rfl rfl rfl ?_
      refine wp_iload_n d_Rf_holds_12 rfl rfl ?_
      refine wp_iald d_Rf_holds_13 rfl (rfl) (by omega) (by decide) ?_
      rw [ent]
      first | refine wp_iaddN d_Rf_holds_14 rfl ?_ | refine wp_iadd d_Rf_holds_14 rfl ?_
      refine wp_icmp_ge_t (tgt := 100) d_Rf_holds_15 (by decide) (nI_le (Nat.le_refl _) (by omega)) ?_
      refine wp_iconst d_Rf_holds_100 rfl ic_1 ?_
      refine wp_zret d_Rf_holds_101 rfl (rfl) (Nat.le_refl _) (Nat.le_refl _) ?_
      exact h1 hall
    · intro t ht ih hall
      refine wp_iload_n d_Rf_holds_4 rfl rfl ?_
      refine wp_iconst d_Rf_holds_5 rfl ic_3 ?_
      refine wp_iload_n d_Rf_holds_6 rfl rfl ?_
      first | refine wp_imulN d_Rf_holds_7 rfl ?_ | refine wp_imul d_Rf_holds_7 rfl ?_
      refine wp_aload_n d_Rf_holds_8 rfl rfl ?_
      refine wp_get fl_Rf_89 d_Rf_holds_9 rfl rfl rfl ?_
      refine wp_iload_n d_Rf_holds_12 rfl rfl ?_
      refine wp_iald d_Rf_holds_13 rfl (rfl) (by omega) (by decide) ?_
      rw [ent]
      first | refine wp_iaddN d_Rf_holds_14 rfl ?_ | refine wp_iadd d_Rf_holds_14 rfl ?_
      refine wp_icmp_ge_f (tgt := 100) d_Rf_holds_15 (by decide) rfl (nI_ge (by omega) (by omega)) ?_
      refine wp_aload_n d_Rf_holds_18 rfl rfl ?_
      refine wp_aload_n d_Rf_holds_19 rfl rfl ?_
      refine wp_get fl_Rf_92 d_Rf_holds_20 rfl rfl rfl ?_
      refine wp_iload_n d_Rf_holds_23 rfl rfl ?_
      refine wp_iald d_Rf_holds_24 rfl (rfl) (by omega) (by decide) ?_
      refine wp_iload_n d_Rf_holds_25 rfl rfl ?_
      obtain ⟨ef, lf8⟩ := hf t ht
      rw [ef]
      refine wp_cv2 lk_Rf_220 (ro _ _ _) d_Rf_holds_26 rfl (Nat.le_of_ble_eq_true rfl) (rfl) rfl (Nat.zero_le _) (Nat.zero_le _) ?_
      refine ok_Rf_fieldOf hnb h12 em hm hb hs es lf8 ?_
      refine wp_istore (L2 := [(4, _), (3, _), (0, _), (1, _), (2, _)]) d_Rf_holds_29 rfl (by decide) rfl ?_
      refine wp_aload_n d_Rf_holds_31 rfl rfl ?_
      refine wp_get fl_Rf_95 d_Rf_holds_32 rfl rfl rfl ?_
      refine wp_iload_n d_Rf_holds_35 rfl rfl ?_
      refine wp_iald d_Rf_holds_36 rfl (rfl) (by omega) (by decide) ?_
      refine wp_bipush d_Rf_holds_37 rfl bp_60 ?_
      refine wp_icmp_ne (tgt := 56) d_Rf_holds_39 (by decide) rfl (fun hc_39 => ?_) (fun hc_39 => ?_)
      · refine wp_aload_n d_Rf_holds_56 rfl rfl ?_
        refine wp_get fl_Rf_95 d_Rf_holds_57 rfl rfl rfl ?_
        refine wp_iload_n d_Rf_holds_60 rfl rfl ?_
        refine wp_iald d_Rf_holds_61 rfl (rfl) (by omega) (by decide) ?_
        refine wp_bipush d_Rf_holds_62 rfl bp_62 ?_
        refine wp_icmp_ne (tgt := 81) d_Rf_holds_64 (by decide) rfl (fun hc_64 => ?_) (fun hc_64 => ?_)
        · refine wp_iload d_Rf_holds_81 rfl rfl ?_
          refine wp_aload_n d_Rf_holds_83 rfl rfl ?_
          refine wp_get fl_Rf_98 d_Rf_holds_84 rfl rfl rfl ?_
          refine wp_iload_n d_Rf_holds_87 rfl rfl ?_
          refine wp_iald d_Rf_holds_88 rfl (rfl) (by omega) (by decide) ?_
          refine wp_icmp_eq (tgt := 94) d_Rf_holds_89 (by decide) rfl (fun hc_89 => ?_) (fun hc_89 => ?_)
          · refine wp_iinc (L2 := [(3, _), (4, _), (0, _), (1, _), (2, _)]) d_Rf_holds_94 rfl rfl (iinc_1) (by decide) rfl ?_
            refine wp_goto (tgt := 4) d_Rf_holds_97 (by decide) ?_
            refine wp_sub [0, 2, 3, 4] rfl ?_
            first | exact ih (by rw [hldB, hall, tstB, if_pos hc_39]; exact decide_eq_true hc_50) | exact ih (by rw [hldB, hall, tstB, if_neg hc_39, if_pos hc_64]; exact decide_eq_true hc_75) | exact ih (by rw [hldB, hall, tstB, if_neg hc_39, if_neg hc_64]; exact decide_eq_true hc_89)
          · refine wp_iconst d_Rf_holds_92 rfl ic_0 ?_
            refine wp_zret d_Rf_holds_93 rfl (rfl) (Nat.le_refl _) (Nat.le_refl _) ?_
            first | exact h0 (hldB_no ht (by rw [tstB, if_pos hc_39]; exact decide_eq_false hc_50)) | exact h0 (hldB_no ht (by rw [tstB, if_neg hc_39, if_pos hc_64]; exact decide_eq_false hc_75)) | exact h0 (hldB_no ht (by rw [tstB, if_neg hc_39, if_neg hc_64]; exact decide_eq_false hc_89))
        · refine wp_iload d_Rf_holds_67 rfl rfl ?_
          refine wp_aload_n d_Rf_holds_69 rfl rfl ?_
          refine wp_get fl_Rf_98 d_Rf_holds_70 rfl rfl rfl ?_
          refine wp_iload_n d_Rf_holds_73 rfl rfl ?_
          refine wp_iald d_Rf_holds_74 rfl (rfl) (by omega) (by decide) ?_
          refine wp_icmp_gt (tgt := 94) d_Rf_holds_75 (by decide) rfl (fun hc_75 => ?_) (fun hc_75 => ?_)
          · refine wp_iinc (L2 := [(3, _), (4, _), (0, _), (1, _), (2, _)]) d_Rf_holds_94 rfl rfl (iinc_1) (by decide) rfl ?_
            refine wp_goto (tgt := 4) d_Rf_holds_97 (by decide) ?_
            refine wp_sub [0, 2, 3, 4] rfl ?_
            first | exact ih (by rw [hldB, hall, tstB, if_pos hc_39]; exact decide_eq_true hc_50) | exact ih (by rw [hldB, hall, tstB, if_neg hc_39, if_pos hc_64]; exact decide_eq_true hc_75) | exact ih (by rw [hldB, hall, tstB, if_neg hc_39, if_neg hc_64]; exact decide_eq_true hc_89)
          · refine wp_goto (tgt := 92) d_Rf_holds_78 (by decide) ?_
            refine wp_iconst d_Rf_holds_92 rfl ic_0 ?_
            refine wp_zret d_Rf_holds_93 rfl (rfl) (Nat.le_refl _) (Nat.le_refl _) ?_
            first | exact h0 (hldB_no ht (by rw [tstB, if_pos hc_39]; exact decide_eq_false hc_50)) | exact h0 (hldB_no ht (by rw [tstB, if_neg hc_39, if_pos hc_64]; exact decide_eq_false hc_75)) | exact h0 (hldB_no ht (by rw [tstB, if_neg hc_39, if_neg hc_64]; exact decide_eq_false hc_89))
      · refine wp_iload d_Rf_holds_42 rfl rfl ?_
        refine wp_aload_n d_Rf_holds_44 rfl rfl ?_
        refine wp_get fl_Rf_98 d_Rf_holds_45 rfl rfl rfl ?_
        refine wp_iload_n d_Rf_holds_48 rfl rfl ?_
        refine wp_iald d_Rf_holds_49 rfl (rfl) (by omega) (by decide) ?_
        refine wp_icmp_lt (tgt := 94) d_Rf_holds_50 (by decide) rfl (fun hc_50 => ?_) (fun hc_50 => ?_)
        · refine wp_iinc (L2 := [(3, _), (4, _), (0, _), (1, _), (2, _)]) d_Rf_holds_94 rfl rfl (iinc_1) (by decide) rfl ?_
          refine wp_goto (tgt := 4) d_Rf_holds_97 (by decide) ?_
          refine wp_sub [0, 2, 3, 4] rfl ?_
          first | exact ih (by rw [hldB, hall, tstB, if_pos hc_39]; exact decide_eq_true hc_50) | exact ih (by rw [hldB, hall, tstB, if_neg hc_39, if_pos hc_64]; exact decide_eq_true hc_75) | exact ih (by rw [hldB, hall, tstB, if_neg hc_39, if_neg hc_64]; exact decide_eq_true hc_89)
        · refine wp_goto (tgt := 92) d_Rf_holds_53 (by decide) ?_
          refine wp_iconst d_Rf_holds_92 rfl ic_0 ?_
          refine wp_zret d_Rf_holds_93 rfl (rfl) (Nat.le_refl _) (Nat.le_refl _) ?_
          first | exact h0 (hldB_no ht (by rw [tstB, if_pos hc_39]; exact decide_eq_false hc_50)) | exact h0 (hldB_no ht (by rw [tstB, if_neg hc_39, if_pos hc_64]; exact decide_eq_false hc_75)) | exact h0 (hldB_no ht (by rw [tstB, if_neg hc_39, if_neg hc_64]; exact decide_eq_false hc_89))
  refine ok_of (L := [(0, _), (1, _), (2, _)]) (by decide) (Nat.le_of_ble_eq_true rfl) rfl ?_
  refine wp_iconst d_Rf_holds_0 rfl ic_3 ?_
  refine wp_iload_n d_Rf_holds_1 rfl rfl ?_
  first | refine wp_imulN d_Rf_holds_2 rfl ?_ | refine wp_imul d_Rf_holds_2 rfl ?_
  refine wp_istore_n (L2 := [(3, _), (0, _), (1, _), (2, _)]) d_Rf_holds_3 rfl (by decide) rfl ?_
  exact lp 0 (Nat.zero_le _) rfl
