theorem rdg2 {D : xD} {N : Nat} {c x V : T2} {P : Nat → Int32} {ln df : Nat → Option Nat} {rest : List va_E} {w v : Nat} {i : Nat} (hv : v < 3) (hvw : v ≠ w) (hi : i < 17) : (encC D N c x (va_up V w P) ln df ++ rest)[wA v + i]? = (wcells D N (wA v) (V v))[i]? := by
  rw [rd_w hv hi, va_up_ne _ _ hvw]
theorem rdO2 {D : xD} {N : Nat} {c x V : T2} {P : Nat → Int32} {ln df : Nat → Option Nat} {rest : List va_E} {w v : Nat} (hv : v < 3) (hvw : v ≠ w) : (encC D N c x (va_up V w P) ln df ++ rest)[wA v]? = some (wObj N (wA v) (V v)) := (rdg2 (i := 0) hv hvw (by decide)).trans rfl
theorem rd12 {D : xD} {N : Nat} {c x V : T2} {P : Nat → Int32} {ln df : Nat → Option Nat} {rest : List va_E} {w v : Nat} (hv : v < 3) (hvw : v ≠ w) : (encC D N c x (va_up V w P) ln df ++ rest)[wA v + 1]? = some (iA D 36 (sl (V v) 0 36)) := (rdg2 (i := 1) hv hvw (by decide)).trans rfl
theorem rd22 {D : xD} {N : Nat} {c x V : T2} {P : Nat → Int32} {ln df : Nat → Option Nat} {rest : List va_E} {w v : Nat} (hv : v < 3) (hvw : v ≠ w) : (encC D N c x (va_up V w P) ln df ++ rest)[wA v + 2]? = some (iA D 36 (sl (V v) 36 36)) := (rdg2 (i := 2) hv hvw (by decide)).trans rfl
theorem rd32 {D : xD} {N : Nat} {c x V : T2} {P : Nat → Int32} {ln df : Nat → Option Nat} {rest : List va_E} {w v : Nat} (hv : v < 3) (hvw : v ≠ w) : (encC D N c x (va_up V w P) ln df ++ rest)[wA v + 3]? = some (iA D 6 (sl (V v) 228 6)) := (rdg2 (i := 3) hv hvw (by decide)).trans rfl
theorem rd42 {D : xD} {N : Nat} {c x V : T2} {P : Nat → Int32} {ln df : Nat → Option Nat} {rest : List va_E} {w v : Nat} (hv : v < 3) (hvw : v ≠ w) : (encC D N c x (va_up V w P) ln df ++ rest)[wA v + 4]? = some (oA D 4 12 (rowsW N (wA v))) := (rdg2 (i := 4) hv hvw (by decide)).trans rfl
theorem rdR2 {D : xD} {N : Nat} {c x V : T2} {P : Nat → Int32} {ln df : Nat → Option Nat} {rest : List va_E} {w v : Nat} {b : Nat} (hv : v < 3) (hvw : v ≠ w) (hb : b < 12) : (encC D N c x (va_up V w P) ln df ++ rest)[wA v + (5 + b)]? = some (rideC (V v) b) := by
  rw [rdg2 hv hvw (by omega)]
  show (_ :: _ :: _ :: _ :: _ :: (List.range 12).map (rideC (V v)))[5 + b]? = _
  rw [show 5 + b = b + 1 + 1 + 1 + 1 + 1 by omega]
  simp only [List.getElem?_cons_succ, List.getElem?_map, List.getElem?_range hb, Option.map_some]
theorem wcells_congr {D : xD} {N wb : Nat} {P P2 : Nat → Int32} (h : ∀ i, i < 239 → P i = P2 i) : wcells D N wb P = wcells D N wb P2 := by
  have hs : ∀ o n, o + n ≤ 239 → sl P o n = sl P2 o n := fun o n hn => by
    funext i; simp only [sl]; split
    · rw [h (o + i) (by omega)]
    · rfl
  have hr : (List.range 12).map (rideC P) = (List.range 12).map (rideC P2) := by
    apply List.map_congr_left
    intro b hb
    have hb : b < 12 := List.mem_range.mp hb
    simp only [rideC]
    rw [h (72 + b) (by omega), h (84 + b) (by omega), h (96 + b) (by omega), h (108 + b) (by omega), h (120 + b) (by omega), h (132 + b) (by omega), h (144 + b) (by omega), h (156 + b) (by omega), h (168 + b) (by omega), h (180 + b) (by omega), h (192 + b) (by omega), h (204 + b) (by omega), h (216 + b) (by omega)]
  unfold wcells
  rw [hs 0 36 (by decide), hs 36 36 (by decide), hs 228 6 (by decide), hr]
  simp only [wObj]
  rw [h 234 (by decide), h 235 (by decide), h 236 (by decide), h 237 (by decide), h 238 (by decide)]
theorem encV_congr {D : xD} {N : Nat} {c x V : T2} {ln df : Nat → Option Nat} {w : Nat} {P P2 : Nat → Int32} (h : ∀ i, i < 239 → P i = P2 i) : encC D N c x (va_up V w P) ln df = encC D N c x (va_up V w P2) ln df := by
  have key : ∀ u wb, wcells D N wb (va_up V w P u) = wcells D N wb (va_up V w P2 u) := fun u wb => by
    by_cases e : u = w
    · subst e; rw [va_up_self, va_up_self]; exact wcells_congr h
    · rw [va_up_ne _ _ e, va_up_ne _ _ e]
  unfold encC
  rw [key 0, key 1, key 2]
/-- n places from o on out of R -/
def cpv (P R : Nat → Int32) (o n : Nat) : Nat → Int32 := fun i => if o ≤ i ∧ i < o + n then R i else P i
theorem sl_cpv {P R : Nat → Int32} {o n : Nat} : va_cpy (sl R o n) (sl P o n) 0 0 n = sl (cpv P R o n) o n := by
  funext i
  simp only [va_cpy, sl, cpv]
  by_cases h : i < n
  · simp [h]
  · simp [h]
theorem sl_cpv_out {P R : Nat → Int32} {o n o2 n2 : Nat} (h : o2 + n2 ≤ o ∨ o + n ≤ o2) : sl (cpv P R o n) o2 n2 = sl P o2 n2 := by
  funext i
  simp only [sl, cpv]
  split
  · rw [if_neg (by omega)]
  · rfl
theorem ride_cpv {P R : Nat → Int32} {o n : Nat} (h : o + n ≤ 72 ∨ 228 ≤ o) : (List.range 12).map (rideC (cpv P R o n)) = (List.range 12).map (rideC P) := by
  apply List.map_congr_left
  intro b hb
  have hb : b < 12 := List.mem_range.mp hb
  simp only [rideC, cpv]
  rw [if_neg (show ¬ (o ≤ 72 + b ∧ 72 + b < o + n) by omega), if_neg (show ¬ (o ≤ 84 + b ∧ 84 + b < o + n) by omega), if_neg (show ¬ (o ≤ 96 + b ∧ 96 + b < o + n) by omega), if_neg (show ¬ (o ≤ 108 + b ∧ 108 + b < o + n) by omega), if_neg (show ¬ (o ≤ 120 + b ∧ 120 + b < o + n) by omega), if_neg (show ¬ (o ≤ 132 + b ∧ 132 + b < o + n) by omega), if_neg (show ¬ (o ≤ 144 + b ∧ 144 + b < o + n) by omega), if_neg (show ¬ (o ≤ 156 + b ∧ 156 + b < o + n) by omega), if_neg (show ¬ (o ≤ 168 + b ∧ 168 + b < o + n) by omega), if_neg (show ¬ (o ≤ 180 + b ∧ 180 + b < o + n) by omega), if_neg (show ¬ (o ≤ 192 + b ∧ 192 + b < o + n) by omega), if_neg (show ¬ (o ≤ 204 + b ∧ 204 + b < o + n) by omega), if_neg (show ¬ (o ≤ 216 + b ∧ 216 + b < o + n) by omega)]
def fol (P R : Nat → Int32) (b : Nat) : Nat → Int32 := upd (upd (upd (upd (upd (upd (upd (upd (upd (upd (upd (upd (upd P (72 + b) (R (72 + b))) (84 + b) (R (84 + b))) (96 + b) (R (96 + b))) (108 + b) (R (108 + b))) (120 + b) (R (120 + b))) (132 + b) (R (132 + b))) (144 + b) (R (144 + b))) (156 + b) (R (156 + b))) (168 + b) (R (168 + b))) (180 + b) (R (180 + b))) (192 + b) (R (192 + b))) (204 + b) (R (204 + b))) (216 + b) (R (216 + b))
def folN (P R : Nat → Int32) : Nat → (Nat → Int32)
  | 0 => P
  | b + 1 => fol (folN P R b) R b
theorem fol_at {P R : Nat → Int32} {b i : Nat} (hb : b < 12) : fol P R b i = if 72 ≤ i ∧ i < 228 ∧ (i - 72) % 12 = b then R i else P i := by
  by_cases h : 72 ≤ i ∧ i < 228 ∧ (i - 72) % 12 = b
  · rw [if_pos h]
    obtain ⟨k, hk, e⟩ : ∃ k, k < 13 ∧ i = 72 + 12 * k + b := ⟨(i - 72) / 12, by omega, by omega⟩
    rcases (show k = 0 ∨ k = 1 ∨ k = 2 ∨ k = 3 ∨ k = 4 ∨ k = 5 ∨ k = 6 ∨ k = 7 ∨ k = 8 ∨ k = 9 ∨ k = 10 ∨ k = 11 ∨ k = 12 by omega) with rfl | rfl | rfl | rfl | rfl | rfl | rfl | rfl | rfl | rfl | rfl | rfl | rfl
    all_goals
      subst e
      unfold fol
      simp only [Nat.reduceMul, Nat.reduceAdd]
      simp (disch := omega) only [upd_ne, upd_eq]
  · rw [if_neg h]
    unfold fol
    rw [upd_ne _ _ (by omega), upd_ne _ _ (by omega), upd_ne _ _ (by omega), upd_ne _ _ (by omega), upd_ne _ _ (by omega), upd_ne _ _ (by omega), upd_ne _ _ (by omega), upd_ne _ _ (by omega), upd_ne _ _ (by omega), upd_ne _ _ (by omega), upd_ne _ _ (by omega), upd_ne _ _ (by omega), upd_ne _ _ (by omega)]
theorem folN_at {P R : Nat → Int32} : ∀ {b i : Nat}, b ≤ 12 → folN P R b i = if 72 ≤ i ∧ i < 228 ∧ (i - 72) % 12 < b then R i else P i
  | 0, i, _ => by rw [folN, if_neg (by omega)]
  | b + 1, i, hb => by
    rw [folN, fol_at (by omega), folN_at (by omega)]
    repeat' split
    all_goals first | rfl | omega
theorem wy_1 {D : xD} {N wb : Nat} {P R : Nat → Int32} : (wcells D N wb P).set 1 (iA D 36 (va_cpy (sl R 0 36) (sl P 0 36) 0 0 36)) = wcells D N wb (cpv P R 0 36) := by
  unfold wcells
  rw [ride_cpv (by omega), sl_cpv, sl_cpv_out (o2 := 36) (n2 := 36) (by omega), sl_cpv_out (o2 := 228) (n2 := 6) (by omega)]
  rfl
theorem wy_2 {D : xD} {N wb : Nat} {P R : Nat → Int32} : (wcells D N wb P).set 2 (iA D 36 (va_cpy (sl R 36 36) (sl P 36 36) 0 0 36)) = wcells D N wb (cpv P R 36 36) := by
  unfold wcells
  rw [ride_cpv (by omega), sl_cpv, sl_cpv_out (o2 := 0) (n2 := 36) (by omega), sl_cpv_out (o2 := 228) (n2 := 6) (by omega)]
  rfl
theorem wy_3 {D : xD} {N wb : Nat} {P R : Nat → Int32} : (wcells D N wb P).set 3 (iA D 6 (va_cpy (sl R 228 6) (sl P 228 6) 0 0 6)) = wcells D N wb (cpv P R 228 6) := by
  unfold wcells
  rw [ride_cpv (by omega), sl_cpv, sl_cpv_out (o2 := 0) (n2 := 36) (by omega), sl_cpv_out (o2 := 36) (n2 := 36) (by omega)]
  rfl
theorem d_Rd_follow_0 : decode M_Rd_follow.2.1 0 = .ok (.aload_n 0, 1) := by decide +kernel
theorem d_Rd_follow_1 : decode M_Rd_follow.2.1 1 = .ok (.aload_n 1, 1) := by decide +kernel
theorem d_Rd_follow_2 : decode M_Rd_follow.2.1 2 = .ok (.getfield 7, 3) := by decide +kernel
theorem d_Rd_follow_5 : decode M_Rd_follow.2.1 5 = .ok (.putfield 7, 3) := by decide +kernel
theorem d_Rd_follow_8 : decode M_Rd_follow.2.1 8 = .ok (.aload_n 0, 1) := by decide +kernel
theorem d_Rd_follow_9 : decode M_Rd_follow.2.1 9 = .ok (.aload_n 1, 1) := by decide +kernel
theorem d_Rd_follow_10 : decode M_Rd_follow.2.1 10 = .ok (.getfield 13, 3) := by decide +kernel
theorem d_Rd_follow_13 : decode M_Rd_follow.2.1 13 = .ok (.putfield 13, 3) := by decide +kernel
theorem d_Rd_follow_16 : decode M_Rd_follow.2.1 16 = .ok (.aload_n 0, 1) := by decide +kernel
theorem d_Rd_follow_17 : decode M_Rd_follow.2.1 17 = .ok (.aload_n 1, 1) := by decide +kernel
theorem d_Rd_follow_18 : decode M_Rd_follow.2.1 18 = .ok (.getfield 16, 3) := by decide +kernel
theorem d_Rd_follow_21 : decode M_Rd_follow.2.1 21 = .ok (.putfield 16, 3) := by decide +kernel
theorem d_Rd_follow_24 : decode M_Rd_follow.2.1 24 = .ok (.aload_n 0, 1) := by decide +kernel
theorem d_Rd_follow_25 : decode M_Rd_follow.2.1 25 = .ok (.aload_n 1, 1) := by decide +kernel
theorem d_Rd_follow_26 : decode M_Rd_follow.2.1 26 = .ok (.getfield 19, 3) := by decide +kernel
theorem d_Rd_follow_29 : decode M_Rd_follow.2.1 29 = .ok (.putfield 19, 3) := by decide +kernel
theorem d_Rd_follow_32 : decode M_Rd_follow.2.1 32 = .ok (.aload_n 0, 1) := by decide +kernel
theorem d_Rd_follow_33 : decode M_Rd_follow.2.1 33 = .ok (.aload_n 1, 1) := by decide +kernel
theorem d_Rd_follow_34 : decode M_Rd_follow.2.1 34 = .ok (.getfield 22, 3) := by decide +kernel
theorem d_Rd_follow_37 : decode M_Rd_follow.2.1 37 = .ok (.putfield 22, 3) := by decide +kernel
theorem d_Rd_follow_40 : decode M_Rd_follow.2.1 40 = .ok (.aload_n 0, 1) := by decide +kernel
theorem d_Rd_follow_41 : decode M_Rd_follow.2.1 41 = .ok (.aload_n 1, 1) := by decide +kernel
theorem d_Rd_follow_42 : decode M_Rd_follow.2.1 42 = .ok (.getfield 25, 3) := by decide +kernel
theorem d_Rd_follow_45 : decode M_Rd_follow.2.1 45 = .ok (.putfield 25, 3) := by decide +kernel
theorem d_Rd_follow_48 : decode M_Rd_follow.2.1 48 = .ok (.aload_n 0, 1) := by decide +kernel
theorem d_Rd_follow_49 : decode M_Rd_follow.2.1 49 = .ok (.aload_n 1, 1) := by decide +kernel
theorem d_Rd_follow_50 : decode M_Rd_follow.2.1 50 = .ok (.getfield 28, 3) := by decide +kernel
theorem d_Rd_follow_53 : decode M_Rd_follow.2.1 53 = .ok (.putfield 28, 3) := by decide +kernel
theorem d_Rd_follow_56 : decode M_Rd_follow.2.1 56 = .ok (.aload_n 0, 1) := by decide +kernel
theorem d_Rd_follow_57 : decode M_Rd_follow.2.1 57 = .ok (.aload_n 1, 1) := by decide +kernel
theorem d_Rd_follow_58 : decode M_Rd_follow.2.1 58 = .ok (.getfield 31, 3) := by decide +kernel
theorem d_Rd_follow_61 : decode M_Rd_follow.2.1 61 = .ok (.putfield 31, 3) := by decide +kernel
theorem d_Rd_follow_64 : decode M_Rd_follow.2.1 64 = .ok (.aload_n 0, 1) := by decide +kernel
theorem d_Rd_follow_65 : decode M_Rd_follow.2.1 65 = .ok (.aload_n 1, 1) := by decide +kernel
theorem d_Rd_follow_66 : decode M_Rd_follow.2.1 66 = .ok (.getfield 34, 3) := by decide +kernel
theorem d_Rd_follow_69 : decode M_Rd_follow.2.1 69 = .ok (.putfield 34, 3) := by decide +kernel
theorem d_Rd_follow_72 : decode M_Rd_follow.2.1 72 = .ok (.aload_n 0, 1) := by decide +kernel
theorem d_Rd_follow_73 : decode M_Rd_follow.2.1 73 = .ok (.aload_n 1, 1) := by decide +kernel
theorem d_Rd_follow_74 : decode M_Rd_follow.2.1 74 = .ok (.getfield 37, 3) := by decide +kernel
theorem d_Rd_follow_77 : decode M_Rd_follow.2.1 77 = .ok (.putfield 37, 3) := by decide +kernel
theorem d_Rd_follow_80 : decode M_Rd_follow.2.1 80 = .ok (.aload_n 0, 1) := by decide +kernel
theorem d_Rd_follow_81 : decode M_Rd_follow.2.1 81 = .ok (.aload_n 1, 1) := by decide +kernel
theorem d_Rd_follow_82 : decode M_Rd_follow.2.1 82 = .ok (.getfield 40, 3) := by decide +kernel
theorem d_Rd_follow_85 : decode M_Rd_follow.2.1 85 = .ok (.putfield 40, 3) := by decide +kernel
theorem d_Rd_follow_88 : decode M_Rd_follow.2.1 88 = .ok (.aload_n 0, 1) := by decide +kernel
theorem d_Rd_follow_89 : decode M_Rd_follow.2.1 89 = .ok (.aload_n 1, 1) := by decide +kernel
theorem d_Rd_follow_90 : decode M_Rd_follow.2.1 90 = .ok (.getfield 43, 3) := by decide +kernel
theorem d_Rd_follow_93 : decode M_Rd_follow.2.1 93 = .ok (.putfield 43, 3) := by decide +kernel
theorem d_Rd_follow_96 : decode M_Rd_follow.2.1 96 = .ok (.aload_n 0, 1) := by decide +kernel
theorem d_Rd_follow_97 : decode M_Rd_follow.2.1 97 = .ok (.aload_n 1, 1) := by decide +kernel
theorem d_Rd_follow_98 : decode M_Rd_follow.2.1 98 = .ok (.getfield 46, 3) := by decide +kernel
theorem d_Rd_follow_101 : decode M_Rd_follow.2.1 101 = .ok (.putfield 46, 3) := by decide +kernel
theorem d_Rd_follow_104 : decode M_Rd_follow.2.1 104 = .ok (.return_, 1) := by decide +kernel
set_option maxHeartbeats 4000000 in
set_option maxRecDepth 100000 in
theorem ok_Rd_follow {D : xD} {N : Nat} {l : Launch} {d : Nat} {c x V : T2} {P : Nat → Int32} {w : Nat} {ln df : Nat → Option Nat} {rest : List va_E} {K : Option Value → List va_E → Prop} {v : Nat} (hw : w < 3) (hv : v < 3) (hvw : v ≠ w) {b : Nat} (hb : b < 12) (hK : K none (encC D N c x (va_up V w (fol P (V v) b)) ln df ++ rest)) : Ok D N l d M_Rd_follow [.ref (N + (wA w + (5 + b))), .ref (N + (wA v + (5 + b)))] (encC D N c x (va_up V w P) ln df ++ rest) 0 0 K := by
  refine ok_of (L := [(0, _), (1, _)]) (by decide) (Nat.le_of_ble_eq_true rfl) rfl ?_
  refine wp_aload_n (q := 1) d_Rd_follow_0 rfl rfl ?_
  refine wp_aload_n (q := 2) d_Rd_follow_1 rfl rfl ?_
  refine wp_get (q := 5) fl_Rd_7 d_Rd_follow_2 rfl (rdR2 (v := v) hv hvw hb) rfl ?_
  refine wp_put (q := 8) fl_Rd_7 d_Rd_follow_5 rfl (rdR (w := w) hw hb) (Nat.le_of_ble_eq_true rfl) rfl rfl (fdw (w := w) hw (by omega) (ws_r0 hb)) ?_
  refine wp_aload_n (q := 9) d_Rd_follow_8 rfl rfl ?_
  refine wp_aload_n (q := 10) d_Rd_follow_9 rfl rfl ?_
  refine wp_get (q := 13) fl_Rd_13 d_Rd_follow_10 rfl (rdR2 (v := v) hv hvw hb) rfl ?_
  refine wp_put (q := 16) fl_Rd_13 d_Rd_follow_13 rfl (rdR (w := w) hw hb) (Nat.le_of_ble_eq_true rfl) rfl rfl (fdw (w := w) hw (by omega) (ws_r1 hb)) ?_
  refine wp_aload_n (q := 17) d_Rd_follow_16 rfl rfl ?_
  refine wp_aload_n (q := 18) d_Rd_follow_17 rfl rfl ?_
  refine wp_get (q := 21) fl_Rd_16 d_Rd_follow_18 rfl (rdR2 (v := v) hv hvw hb) rfl ?_
  refine wp_put (q := 24) fl_Rd_16 d_Rd_follow_21 rfl (rdR (w := w) hw hb) (Nat.le_of_ble_eq_true rfl) rfl rfl (fdw (w := w) hw (by omega) (ws_r2 hb)) ?_
  refine wp_aload_n (q := 25) d_Rd_follow_24 rfl rfl ?_
  refine wp_aload_n (q := 26) d_Rd_follow_25 rfl rfl ?_
  refine wp_get (q := 29) fl_Rd_19 d_Rd_follow_26 rfl (rdR2 (v := v) hv hvw hb) rfl ?_
  refine wp_put (q := 32) fl_Rd_19 d_Rd_follow_29 rfl (rdR (w := w) hw hb) (Nat.le_of_ble_eq_true rfl) rfl rfl (fdw (w := w) hw (by omega) (ws_r3 hb)) ?_
  refine wp_aload_n (q := 33) d_Rd_follow_32 rfl rfl ?_
  refine wp_aload_n (q := 34) d_Rd_follow_33 rfl rfl ?_
  refine wp_get (q := 37) fl_Rd_22 d_Rd_follow_34 rfl (rdR2 (v := v) hv hvw hb) rfl ?_
  refine wp_put (q := 40) fl_Rd_22 d_Rd_follow_37 rfl (rdR (w := w) hw hb) (Nat.le_of_ble_eq_true rfl) rfl rfl (fdw (w := w) hw (by omega) (ws_r4 hb)) ?_
  refine wp_aload_n (q := 41) d_Rd_follow_40 rfl rfl ?_
  refine wp_aload_n (q := 42) d_Rd_follow_41 rfl rfl ?_
  refine wp_get (q := 45) fl_Rd_25 d_Rd_follow_42 rfl (rdR2 (v := v) hv hvw hb) rfl ?_
  refine wp_put (q := 48) fl_Rd_25 d_Rd_follow_45 rfl (rdR (w := w) hw hb) (Nat.le_of_ble_eq_true rfl) rfl rfl (fdw (w := w) hw (by omega) (ws_r5 hb)) ?_
  refine wp_aload_n (q := 49) d_Rd_follow_48 rfl rfl ?_
  refine wp_aload_n (q := 50) d_Rd_follow_49 rfl rfl ?_
  refine wp_get (q := 53) fl_Rd_28 d_Rd_follow_50 rfl (rdR2 (v := v) hv hvw hb) rfl ?_
  refine wp_put (q := 56) fl_Rd_28 d_Rd_follow_53 rfl (rdR (w := w) hw hb) (Nat.le_of_ble_eq_true rfl) rfl rfl (fdw (w := w) hw (by omega) (ws_r6 hb)) ?_
  refine wp_aload_n (q := 57) d_Rd_follow_56 rfl rfl ?_
  refine wp_aload_n (q := 58) d_Rd_follow_57 rfl rfl ?_
  refine wp_get (q := 61) fl_Rd_31 d_Rd_follow_58 rfl (rdR2 (v := v) hv hvw hb) rfl ?_
  refine wp_put (q := 64) fl_Rd_31 d_Rd_follow_61 rfl (rdR (w := w) hw hb) (Nat.le_of_ble_eq_true rfl) rfl rfl (fdw (w := w) hw (by omega) (ws_r7 hb)) ?_
  refine wp_aload_n (q := 65) d_Rd_follow_64 rfl rfl ?_
  refine wp_aload_n (q := 66) d_Rd_follow_65 rfl rfl ?_
  refine wp_get (q := 69) fl_Rd_34 d_Rd_follow_66 rfl (rdR2 (v := v) hv hvw hb) rfl ?_
  refine wp_put (q := 72) fl_Rd_34 d_Rd_follow_69 rfl (rdR (w := w) hw hb) (Nat.le_of_ble_eq_true rfl) rfl rfl (fdw (w := w) hw (by omega) (ws_r8 hb)) ?_
  refine wp_aload_n (q := 73) d_Rd_follow_72 rfl rfl ?_
  refine wp_aload_n (q := 74) d_Rd_follow_73 rfl rfl ?_
  refine wp_get (q := 77) fl_Rd_37 d_Rd_follow_74 rfl (rdR2 (v := v) hv hvw hb) rfl ?_
  refine wp_put (q := 80) fl_Rd_37 d_Rd_follow_77 rfl (rdR (w := w) hw hb) (Nat.le_of_ble_eq_true rfl) rfl rfl (fdw (w := w) hw (by omega) (ws_r9 hb)) ?_
  refine wp_aload_n (q := 81) d_Rd_follow_80 rfl rfl ?_
  refine wp_aload_n (q := 82) d_Rd_follow_81 rfl rfl ?_
  refine wp_get (q := 85) fl_Rd_40 d_Rd_follow_82 rfl (rdR2 (v := v) hv hvw hb) rfl ?_
  refine wp_put (q := 88) fl_Rd_40 d_Rd_follow_85 rfl (rdR (w := w) hw hb) (Nat.le_of_ble_eq_true rfl) rfl rfl (fdw (w := w) hw (by omega) (ws_r10 hb)) ?_
  refine wp_aload_n (q := 89) d_Rd_follow_88 rfl rfl ?_
  refine wp_aload_n (q := 90) d_Rd_follow_89 rfl rfl ?_
  refine wp_get (q := 93) fl_Rd_43 d_Rd_follow_90 rfl (rdR2 (v := v) hv hvw hb) rfl ?_
  refine wp_put (q := 96) fl_Rd_43 d_Rd_follow_93 rfl (rdR (w := w) hw hb) (Nat.le_of_ble_eq_true rfl) rfl rfl (fdw (w := w) hw (by omega) (ws_r11 hb)) ?_
  refine wp_aload_n (q := 97) d_Rd_follow_96 rfl rfl ?_
  refine wp_aload_n (q := 98) d_Rd_follow_97 rfl rfl ?_
  refine wp_get (q := 101) fl_Rd_46 d_Rd_follow_98 rfl (rdR2 (v := v) hv hvw hb) rfl ?_
  refine wp_put (q := 104) fl_Rd_46 d_Rd_follow_101 rfl (rdR (w := w) hw hb) (Nat.le_of_ble_eq_true rfl) rfl rfl (fdw (w := w) hw (by omega) (ws_r12 hb)) ?_
  refine wp_vret d_Rd_follow_104 rfl (Nat.le_refl _) (Nat.le_refl _) ?_
  exact hK
theorem d_Wd_become_0 : decode M_Wd_become.2.1 0 = .ok (.aload_n 0, 1) := by decide +kernel
theorem d_Wd_become_1 : decode M_Wd_become.2.1 1 = .ok (.aload_n 1, 1) := by decide +kernel
theorem d_Wd_become_2 : decode M_Wd_become.2.1 2 = .ok (.getfield 28, 3) := by decide +kernel
theorem d_Wd_become_5 : decode M_Wd_become.2.1 5 = .ok (.putfield 28, 3) := by decide +kernel
theorem d_Wd_become_8 : decode M_Wd_become.2.1 8 = .ok (.aload_n 0, 1) := by decide +kernel
theorem d_Wd_become_9 : decode M_Wd_become.2.1 9 = .ok (.aload_n 1, 1) := by decide +kernel
theorem d_Wd_become_10 : decode M_Wd_become.2.1 10 = .ok (.getfield 32, 3) := by decide +kernel
theorem d_Wd_become_13 : decode M_Wd_become.2.1 13 = .ok (.putfield 32, 3) := by decide +kernel
theorem d_Wd_become_16 : decode M_Wd_become.2.1 16 = .ok (.aload_n 0, 1) := by decide +kernel
theorem d_Wd_become_17 : decode M_Wd_become.2.1 17 = .ok (.aload_n 1, 1) := by decide +kernel
theorem d_Wd_become_18 : decode M_Wd_become.2.1 18 = .ok (.getfield 35, 3) := by decide +kernel
theorem d_Wd_become_21 : decode M_Wd_become.2.1 21 = .ok (.putfield 35, 3) := by decide +kernel
theorem d_Wd_become_24 : decode M_Wd_become.2.1 24 = .ok (.aload_n 0, 1) := by decide +kernel
theorem d_Wd_become_25 : decode M_Wd_become.2.1 25 = .ok (.aload_n 1, 1) := by decide +kernel
theorem d_Wd_become_26 : decode M_Wd_become.2.1 26 = .ok (.getfield 38, 3) := by decide +kernel
theorem d_Wd_become_29 : decode M_Wd_become.2.1 29 = .ok (.putfield 38, 3) := by decide +kernel
theorem d_Wd_become_32 : decode M_Wd_become.2.1 32 = .ok (.aload_n 0, 1) := by decide +kernel
theorem d_Wd_become_33 : decode M_Wd_become.2.1 33 = .ok (.aload_n 1, 1) := by decide +kernel
theorem d_Wd_become_34 : decode M_Wd_become.2.1 34 = .ok (.getfield 41, 3) := by decide +kernel
theorem d_Wd_become_37 : decode M_Wd_become.2.1 37 = .ok (.putfield 41, 3) := by decide +kernel
theorem d_Wd_become_40 : decode M_Wd_become.2.1 40 = .ok (.aload_n 1, 1) := by decide +kernel
theorem d_Wd_become_41 : decode M_Wd_become.2.1 41 = .ok (.getfield 9, 3) := by decide +kernel
theorem d_Wd_become_44 : decode M_Wd_become.2.1 44 = .ok (.iconst 0, 1) := by decide +kernel
theorem d_Wd_become_45 : decode M_Wd_become.2.1 45 = .ok (.aload_n 0, 1) := by decide +kernel
theorem d_Wd_become_46 : decode M_Wd_become.2.1 46 = .ok (.getfield 9, 3) := by decide +kernel
theorem d_Wd_become_49 : decode M_Wd_become.2.1 49 = .ok (.iconst 0, 1) := by decide +kernel
theorem d_Wd_become_50 : decode M_Wd_become.2.1 50 = .ok (.bipush 36, 2) := by decide +kernel
theorem d_Wd_become_52 : decode M_Wd_become.2.1 52 = .ok (.invokestatic 44, 3) := by decide +kernel
theorem d_Wd_become_55 : decode M_Wd_become.2.1 55 = .ok (.aload_n 1, 1) := by decide +kernel
theorem d_Wd_become_56 : decode M_Wd_become.2.1 56 = .ok (.getfield 15, 3) := by decide +kernel
theorem d_Wd_become_59 : decode M_Wd_become.2.1 59 = .ok (.iconst 0, 1) := by decide +kernel
theorem d_Wd_become_60 : decode M_Wd_become.2.1 60 = .ok (.aload_n 0, 1) := by decide +kernel
theorem d_Wd_become_61 : decode M_Wd_become.2.1 61 = .ok (.getfield 15, 3) := by decide +kernel
theorem d_Wd_become_64 : decode M_Wd_become.2.1 64 = .ok (.iconst 0, 1) := by decide +kernel
theorem d_Wd_become_65 : decode M_Wd_become.2.1 65 = .ok (.bipush 36, 2) := by decide +kernel
theorem d_Wd_become_67 : decode M_Wd_become.2.1 67 = .ok (.invokestatic 44, 3) := by decide +kernel
theorem d_Wd_become_70 : decode M_Wd_become.2.1 70 = .ok (.aload_n 1, 1) := by decide +kernel
theorem d_Wd_become_71 : decode M_Wd_become.2.1 71 = .ok (.getfield 18, 3) := by decide +kernel
theorem d_Wd_become_74 : decode M_Wd_become.2.1 74 = .ok (.iconst 0, 1) := by decide +kernel
theorem d_Wd_become_75 : decode M_Wd_become.2.1 75 = .ok (.aload_n 0, 1) := by decide +kernel
theorem d_Wd_become_76 : decode M_Wd_become.2.1 76 = .ok (.getfield 18, 3) := by decide +kernel
theorem d_Wd_become_79 : decode M_Wd_become.2.1 79 = .ok (.iconst 0, 1) := by decide +kernel
theorem d_Wd_become_80 : decode M_Wd_become.2.1 80 = .ok (.bipush 6, 2) := by decide +kernel
theorem d_Wd_become_82 : decode M_Wd_become.2.1 82 = .ok (.invokestatic 44, 3) := by decide +kernel
theorem d_Wd_become_85 : decode M_Wd_become.2.1 85 = .ok (.iconst 0, 1) := by decide +kernel
theorem d_Wd_become_86 : decode M_Wd_become.2.1 86 = .ok (.istore_n 2, 1) := by decide +kernel
theorem d_Wd_become_87 : decode M_Wd_become.2.1 87 = .ok (.iload_n 2, 1) := by decide +kernel
theorem d_Wd_become_88 : decode M_Wd_become.2.1 88 = .ok (.bipush 12, 2) := by decide +kernel
theorem d_Wd_become_90 : decode M_Wd_become.2.1 90 = .ok (.if_icmp .ge 24, 3) := by decide +kernel
theorem d_Wd_become_93 : decode M_Wd_become.2.1 93 = .ok (.aload_n 0, 1) := by decide +kernel
theorem d_Wd_become_94 : decode M_Wd_become.2.1 94 = .ok (.getfield 23, 3) := by decide +kernel
theorem d_Wd_become_97 : decode M_Wd_become.2.1 97 = .ok (.iload_n 2, 1) := by decide +kernel
theorem d_Wd_become_98 : decode M_Wd_become.2.1 98 = .ok (.aaload, 1) := by decide +kernel
theorem d_Wd_become_99 : decode M_Wd_become.2.1 99 = .ok (.aload_n 1, 1) := by decide +kernel
theorem d_Wd_become_100 : decode M_Wd_become.2.1 100 = .ok (.getfield 23, 3) := by decide +kernel
theorem d_Wd_become_103 : decode M_Wd_become.2.1 103 = .ok (.iload_n 2, 1) := by decide +kernel
theorem d_Wd_become_104 : decode M_Wd_become.2.1 104 = .ok (.aaload, 1) := by decide +kernel
theorem d_Wd_become_105 : decode M_Wd_become.2.1 105 = .ok (.invokevirtual 50, 3) := by decide +kernel
theorem d_Wd_become_108 : decode M_Wd_become.2.1 108 = .ok (.iinc 2 1, 3) := by decide +kernel
theorem d_Wd_become_111 : decode M_Wd_become.2.1 111 = .ok (.goto (-24), 3) := by decide +kernel
theorem d_Wd_become_114 : decode M_Wd_become.2.1 114 = .ok (.return_, 1) := by decide +kernel
set_option maxHeartbeats 4000000 in
set_option maxRecDepth 100000 in
theorem ok_Wd_become {D : xD} {N : Nat} {l : Launch} {d : Nat} {c x V : T2} {P : Nat → Int32} {w : Nat} {ln df : Nat → Option Nat} {rest : List va_E} {K : Option Value → List va_E → Prop} {v : Nat} (hw : w < 3) (hv : v < 3) (hvw : v ≠ w) (hK : K none (encC D N c x (va_up V w (V v)) ln df ++ rest)) : Ok D N l (d + 1) M_Wd_become [.ref (N + wA w), .ref (N + wA v)] (encC D N c x (va_up V w P) ln df ++ rest) 0 0 K := by
  have lp : ∀ b : Nat, b ≤ 12 → Wp D N l (EI M_Wd_become) M_Wd_become (Rm (d + 1) 0 0) (Qm D N K 0 0) 0 0 87 [(2, .int (nI b)), (0, .ref (N + wA w)), (1, .ref (N + wA v))] [] (encC D N c x (va_up V w (folN (cpv (cpv (cpv (upd (upd (upd (upd (upd P 234 (V v 234)) 235 (V v 235)) 236 (V v 236)) 237 (V v 237)) 238 (V v 238)) (V v) 0 36) (V v) 36 36) (V v) 228 6) (V v) b)) ln df ++ rest) := by
    refine up_loop ?_ ?_
    · skip
      refine wp_iload_n (q := 88) d_Wd_become_87 rfl rfl ?_
      refine wp_bipush (q := 90) d_Wd_become_88 rfl bp_12 ?_
      refine wp_icmp_ge_t (tgt := 114) d_Wd_become_90 (by decide) (nI_le (Nat.le_refl _) (by decide)) ?_
      refine wp_vret d_Wd_become_114 rfl (Nat.le_refl _) (Nat.le_refl _) ?_
      rw [encV_congr (P2 := V v) (fun i hi => ?_)]
      · exact hK
      · rw [folN_at (Nat.le_refl _)]
        simp only [cpv, upd]
        repeat' split
        all_goals first | rfl | omega | (subst_vars; rfl)
    · intro b hb ih
      refine wp_iload_n (q := 88) d_Wd_become_87 rfl rfl ?_
      refine wp_bipush (q := 90) d_Wd_become_88 rfl bp_12 ?_
      refine wp_icmp_ge_f (q := 93) (tgt := 114) d_Wd_become_90 (by decide) rfl (nI_ge hb (by decide)) ?_
      refine wp_aload_n (q := 94) d_Wd_become_93 rfl rfl ?_
      refine wp_get (q := 97) fl_Wd_23 d_Wd_become_94 rfl (rdO (w := w) hw) rfl ?_
      refine wp_iload_n (q := 98) d_Wd_become_97 rfl rfl ?_
      refine wp_aldR (q := 99) d_Wd_become_98 rfl (rd4 (w := w) hw) (by omega) (by decide) (rowsW_at (by omega)) ?_
      refine wp_aload_n (q := 100) d_Wd_become_99 rfl rfl ?_
      refine wp_get (q := 103) fl_Wd_23 d_Wd_become_100 rfl (rdO2 (v := v) hv hvw) rfl ?_
      refine wp_iload_n (q := 104) d_Wd_become_103 rfl rfl ?_
      refine wp_aldR (q := 105) d_Wd_become_104 rfl (rd42 (v := v) hv hvw) (by omega) (by decide) (rowsW_at (by omega)) ?_
      refine wp_cv1 (q := 108) lk_Wd_50 (ro _ _ _) d_Wd_become_105 rfl (Nat.le_of_ble_eq_true rfl) (rdR (w := w) hw (by omega)) rfl (Nat.zero_le _) (Nat.zero_le _) ?_
      refine ok_Rd_follow hw hv hvw (by omega) ?_
      refine wp_iinc (q := 111) (L2 := [(2, _), (0, _), (1, _)]) d_Wd_become_108 rfl rfl (iinc_1) (by decide) rfl ?_
      refine wp_goto (tgt := 87) d_Wd_become_111 (by decide) ?_
      exact ih
  refine ok_of (L := [(0, _), (1, _)]) (by decide) (Nat.le_of_ble_eq_true rfl) rfl ?_
  refine wp_aload_n (q := 1) d_Wd_become_0 rfl rfl ?_
  refine wp_aload_n (q := 2) d_Wd_become_1 rfl rfl ?_
  refine wp_get (q := 5) fl_Wd_28 d_Wd_become_2 rfl (rdO2 (v := v) hv hvw) rfl ?_
  refine wp_put (q := 8) fl_Wd_28 d_Wd_become_5 rfl (rdO (w := w) hw) (Nat.le_of_ble_eq_true rfl) rfl rfl (fdw (w := w) (i := 0) hw (by decide) ws_o0) ?_
  refine wp_aload_n (q := 9) d_Wd_become_8 rfl rfl ?_
  refine wp_aload_n (q := 10) d_Wd_become_9 rfl rfl ?_
  refine wp_get (q := 13) fl_Wd_32 d_Wd_become_10 rfl (rdO2 (v := v) hv hvw) rfl ?_
  refine wp_put (q := 16) fl_Wd_32 d_Wd_become_13 rfl (rdO (w := w) hw) (Nat.le_of_ble_eq_true rfl) rfl rfl (fdw (w := w) (i := 0) hw (by decide) ws_o1) ?_
  refine wp_aload_n (q := 17) d_Wd_become_16 rfl rfl ?_
  refine wp_aload_n (q := 18) d_Wd_become_17 rfl rfl ?_
  refine wp_get (q := 21) fl_Wd_35 d_Wd_become_18 rfl (rdO2 (v := v) hv hvw) rfl ?_
  refine wp_put (q := 24) fl_Wd_35 d_Wd_become_21 rfl (rdO (w := w) hw) (Nat.le_of_ble_eq_true rfl) rfl rfl (fdw (w := w) (i := 0) hw (by decide) ws_o2) ?_
  refine wp_aload_n (q := 25) d_Wd_become_24 rfl rfl ?_
  refine wp_aload_n (q := 26) d_Wd_become_25 rfl rfl ?_
  refine wp_get (q := 29) fl_Wd_38 d_Wd_become_26 rfl (rdO2 (v := v) hv hvw) rfl ?_
  refine wp_put (q := 32) fl_Wd_38 d_Wd_become_29 rfl (rdO (w := w) hw) (Nat.le_of_ble_eq_true rfl) rfl rfl (fdw (w := w) (i := 0) hw (by decide) ws_o3) ?_
  refine wp_aload_n (q := 33) d_Wd_become_32 rfl rfl ?_
  refine wp_aload_n (q := 34) d_Wd_become_33 rfl rfl ?_
  refine wp_get (q := 37) fl_Wd_41 d_Wd_become_34 rfl (rdO2 (v := v) hv hvw) rfl ?_
  refine wp_put (q := 40) fl_Wd_41 d_Wd_become_37 rfl (rdO (w := w) hw) (Nat.le_of_ble_eq_true rfl) rfl rfl (fdw (w := w) (i := 0) hw (by decide) ws_o4) ?_
  refine wp_aload_n (q := 41) d_Wd_become_40 rfl rfl ?_
  refine wp_get (q := 44) fl_Wd_9 d_Wd_become_41 rfl (rdO2 (v := v) hv hvw) rfl ?_
  refine wp_iconst (q := 45) d_Wd_become_44 rfl ic_0 ?_
  refine wp_aload_n (q := 46) d_Wd_become_45 rfl rfl ?_
  refine wp_get (q := 49) fl_Wd_9 d_Wd_become_46 rfl (rdO (w := w) hw) rfl ?_
  refine wp_iconst (q := 50) d_Wd_become_49 rfl ic_0 ?_
  refine wp_bipush (q := 52) d_Wd_become_50 rfl bp_36 ?_
  refine wp_copy (q := 55) (sp := 0) (dp := 0) (cn := 36) ka_Wd_44 (RO0 ()) d_Wd_become_52 rfl (Nat.le_of_ble_eq_true rfl) (rd12 (v := v) hv hvw) (rd1 (w := w) hw) (by decide) (by decide) (by decide) (by decide) (fdw (w := w) (i := 1) hw (by decide) wy_1) ?_
  refine wp_aload_n (q := 56) d_Wd_become_55 rfl rfl ?_
  refine wp_get (q := 59) fl_Wd_15 d_Wd_become_56 rfl (rdO2 (v := v) hv hvw) rfl ?_
  refine wp_iconst (q := 60) d_Wd_become_59 rfl ic_0 ?_
  refine wp_aload_n (q := 61) d_Wd_become_60 rfl rfl ?_
  refine wp_get (q := 64) fl_Wd_15 d_Wd_become_61 rfl (rdO (w := w) hw) rfl ?_
  refine wp_iconst (q := 65) d_Wd_become_64 rfl ic_0 ?_
  refine wp_bipush (q := 67) d_Wd_become_65 rfl bp_36 ?_
  refine wp_copy (q := 70) (sp := 0) (dp := 0) (cn := 36) ka_Wd_44 (RO0 ()) d_Wd_become_67 rfl (Nat.le_of_ble_eq_true rfl) (rd22 (v := v) hv hvw) (rd2 (w := w) hw) (by decide) (by decide) (by decide) (by decide) (fdw (w := w) (i := 2) hw (by decide) wy_2) ?_
  refine wp_aload_n (q := 71) d_Wd_become_70 rfl rfl ?_
  refine wp_get (q := 74) fl_Wd_18 d_Wd_become_71 rfl (rdO2 (v := v) hv hvw) rfl ?_
  refine wp_iconst (q := 75) d_Wd_become_74 rfl ic_0 ?_
  refine wp_aload_n (q := 76) d_Wd_become_75 rfl rfl ?_
  refine wp_get (q := 79) fl_Wd_18 d_Wd_become_76 rfl (rdO (w := w) hw) rfl ?_
  refine wp_iconst (q := 80) d_Wd_become_79 rfl ic_0 ?_
  refine wp_bipush (q := 82) d_Wd_become_80 rfl bp_6 ?_
  refine wp_copy (q := 85) (sp := 0) (dp := 0) (cn := 6) ka_Wd_44 (RO0 ()) d_Wd_become_82 rfl (Nat.le_of_ble_eq_true rfl) (rd32 (v := v) hv hvw) (rd3 (w := w) hw) (by decide) (by decide) (by decide) (by decide) (fdw (w := w) (i := 3) hw (by decide) wy_3) ?_
  refine wp_iconst (q := 86) d_Wd_become_85 rfl ic_0 ?_
  refine wp_istore_n (q := 87) (L2 := [(2, _), (0, _), (1, _)]) d_Wd_become_86 rfl (by decide) rfl ?_
  exact lp 0 (Nat.zero_le _)
