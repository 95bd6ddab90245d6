theorem min5E (n wt : Int32) : (if (if n < wt then n else wt) < nI 5 then (if n < wt then n else wt) else nI 5) = min5 n wt := by
  have h5 : (nI 5).toInt = 5 := by decide
  unfold min5
  by_cases h1 : n < wt <;> by_cases h2 : nI 5 < n <;> simp only [h1, h2, if_true, if_false]
  all_goals
    repeat' split
    all_goals first
      | rfl
      | (exfalso; simp only [Int32.lt_iff_toInt_lt] at *; omega)
      | (apply Int32.toInt_inj.mp; simp only [Int32.lt_iff_toInt_lt] at *; omega)
theorem sub_0 (x : Int32) : x - nI 0 = x := by rw [nI_0]; exact Int32.sub_zero x
theorem letP0 {P : Nat → Int32} {s a b : Nat} : letP P s a b (nI 0) = P := by
  rw [letP, sub_0, add_0, upd_id rfl, upd_id rfl]
theorem d_Tn_callUp_0 : decode M_Tn_callUp.2.1 0 = .ok (.aload_n 1, 1) := by decide +kernel
theorem d_Tn_callUp_1 : decode M_Tn_callUp.2.1 1 = .ok (.iload_n 2, 1) := by decide +kernel
theorem d_Tn_callUp_2 : decode M_Tn_callUp.2.1 2 = .ok (.invokevirtual 206, 3) := by decide +kernel
theorem d_Tn_callUp_5 : decode M_Tn_callUp.2.1 5 = .ok (.istore_n 3, 1) := by decide +kernel
theorem d_Tn_callUp_6 : decode M_Tn_callUp.2.1 6 = .ok (.aload_n 0, 1) := by decide +kernel
theorem d_Tn_callUp_7 : decode M_Tn_callUp.2.1 7 = .ok (.aload_n 1, 1) := by decide +kernel
theorem d_Tn_callUp_8 : decode M_Tn_callUp.2.1 8 = .ok (.iload_n 2, 1) := by decide +kernel
theorem d_Tn_callUp_9 : decode M_Tn_callUp.2.1 9 = .ok (.invokevirtual 209, 3) := by decide +kernel
theorem d_Tn_callUp_12 : decode M_Tn_callUp.2.1 12 = .ok (.istore 4, 2) := by decide +kernel
theorem d_Tn_callUp_14 : decode M_Tn_callUp.2.1 14 = .ok (.iload_n 3, 1) := by decide +kernel
theorem d_Tn_callUp_15 : decode M_Tn_callUp.2.1 15 = .ok (.ifCond .lt 8, 3) := by decide +kernel
theorem d_Tn_callUp_18 : decode M_Tn_callUp.2.1 18 = .ok (.iload 4, 2) := by decide +kernel
theorem d_Tn_callUp_20 : decode M_Tn_callUp.2.1 20 = .ok (.ifCond .ge 5, 3) := by decide +kernel
theorem d_Tn_callUp_23 : decode M_Tn_callUp.2.1 23 = .ok (.iconst (-1), 1) := by decide +kernel
theorem d_Tn_callUp_24 : decode M_Tn_callUp.2.1 24 = .ok (.ireturn, 1) := by decide +kernel
theorem d_Tn_callUp_25 : decode M_Tn_callUp.2.1 25 = .ok (.aload_n 1, 1) := by decide +kernel
theorem d_Tn_callUp_26 : decode M_Tn_callUp.2.1 26 = .ok (.getfield 115, 3) := by decide +kernel
theorem d_Tn_callUp_29 : decode M_Tn_callUp.2.1 29 = .ok (.iload_n 3, 1) := by decide +kernel
theorem d_Tn_callUp_30 : decode M_Tn_callUp.2.1 30 = .ok (.aaload, 1) := by decide +kernel
theorem d_Tn_callUp_31 : decode M_Tn_callUp.2.1 31 = .ok (.astore 5, 2) := by decide +kernel
theorem d_Tn_callUp_33 : decode M_Tn_callUp.2.1 33 = .ok (.aload 5, 2) := by decide +kernel
theorem d_Tn_callUp_35 : decode M_Tn_callUp.2.1 35 = .ok (.iconst 2, 1) := by decide +kernel
theorem d_Tn_callUp_36 : decode M_Tn_callUp.2.1 36 = .ok (.putfield 212, 3) := by decide +kernel
theorem d_Tn_callUp_39 : decode M_Tn_callUp.2.1 39 = .ok (.aload 5, 2) := by decide +kernel
theorem d_Tn_callUp_41 : decode M_Tn_callUp.2.1 41 = .ok (.aload_n 1, 1) := by decide +kernel
theorem d_Tn_callUp_42 : decode M_Tn_callUp.2.1 42 = .ok (.getfield 121, 3) := by decide +kernel
theorem d_Tn_callUp_45 : decode M_Tn_callUp.2.1 45 = .ok (.putfield 124, 3) := by decide +kernel
theorem d_Tn_callUp_48 : decode M_Tn_callUp.2.1 48 = .ok (.aload 5, 2) := by decide +kernel
theorem d_Tn_callUp_50 : decode M_Tn_callUp.2.1 50 = .ok (.iload 4, 2) := by decide +kernel
theorem d_Tn_callUp_52 : decode M_Tn_callUp.2.1 52 = .ok (.putfield 215, 3) := by decide +kernel
theorem d_Tn_callUp_55 : decode M_Tn_callUp.2.1 55 = .ok (.aload 5, 2) := by decide +kernel
theorem d_Tn_callUp_57 : decode M_Tn_callUp.2.1 57 = .ok (.aload_n 0, 1) := by decide +kernel
theorem d_Tn_callUp_58 : decode M_Tn_callUp.2.1 58 = .ok (.getfield 33, 3) := by decide +kernel
theorem d_Tn_callUp_61 : decode M_Tn_callUp.2.1 61 = .ok (.iload_n 3, 1) := by decide +kernel
theorem d_Tn_callUp_62 : decode M_Tn_callUp.2.1 62 = .ok (.iaload, 1) := by decide +kernel
theorem d_Tn_callUp_63 : decode M_Tn_callUp.2.1 63 = .ok (.putfield 182, 3) := by decide +kernel
theorem d_Tn_callUp_66 : decode M_Tn_callUp.2.1 66 = .ok (.iload_n 3, 1) := by decide +kernel
theorem d_Tn_callUp_67 : decode M_Tn_callUp.2.1 67 = .ok (.ireturn, 1) := by decide +kernel
set_option maxHeartbeats 4000000 in
set_option maxRecDepth 100000 in
theorem ok_Tn_callUp {D : xD} {N : Nat} {l : Launch} {d : Nat} {c x V : T2} {P : Nat → Int32} {w : Nat} {ln df : Nat → Option Nat} {rest : List va_E} {K : Option Value → List va_E → Prop} (hw : w < 3) (hr0 : ∀ i, i < 36 → (0 < c 2 i ↔ ¬ c 2 i = 0)) {s : Nat} (hs : s < 6) (hn : ff P s 12 = none ∨ am c P s 6 = none → K (some (.int (-1))) (encC D N c x (va_up V w P) ln df ++ rest)) (hy : ∀ b a : Nat, ff P s 12 = some b → am c P s 6 = some a → K (some (.int (nI b))) (encC D N c x (va_up V w (upP c P b a)) ln df ++ rest)) : Ok D N l (d + 2) M_Tn_callUp [.ref (N + 1), .ref (N + wA w), .int (nI s)] (encC D N c x (va_up V w P) ln df ++ rest) 0 0 K := by
  refine ok_of (L := [(0, _), (1, _), (2, _)]) (by decide) (Nat.le_of_ble_eq_true rfl) rfl ?_
  cases h1 : ff P s 12 with
  | none =>
    cases h2 : am c P s 6 with
    | none =>
      refine wp_aload_n (q := 1) d_Tn_callUp_0 rfl rfl ?_
      refine wp_iload_n (q := 2) d_Tn_callUp_1 rfl rfl ?_
      refine wp_cv1 (q := 5) lk_Tn_206 (ro _ _ _) d_Tn_callUp_2 rfl (Nat.le_of_ble_eq_true rfl) (rdO (w := w) hw) rfl (Nat.zero_le _) (Nat.zero_le _) ?_
      refine ok_Wd_firstInLine (w := w) hw hs ?_
      rw [h1]
      refine wp_istore_n (q := 6) (L2 := [(3, _), (0, _), (1, _), (2, _)]) d_Tn_callUp_5 rfl (by decide) rfl ?_
      refine wp_aload_n (q := 7) d_Tn_callUp_6 rfl rfl ?_
      refine wp_aload_n (q := 8) d_Tn_callUp_7 rfl rfl ?_
      refine wp_iload_n (q := 9) d_Tn_callUp_8 rfl rfl ?_
      refine wp_cv2 (q := 12) lk_Tn_209 (ro _ _ _) d_Tn_callUp_9 rfl (Nat.le_of_ble_eq_true rfl) (rfl) rfl (Nat.zero_le _) (Nat.zero_le _) ?_
      refine ok_Tn_mostWanted (w := w) hw hr0 hs ?_
      rw [h2]
      refine wp_istore (q := 14) (L2 := [(4, _), (3, _), (0, _), (1, _), (2, _)]) d_Tn_callUp_12 rfl (by decide) rfl ?_
      refine wp_iload_n (q := 15) d_Tn_callUp_14 rfl rfl ?_
      refine wp_if_lt_t (tgt := 23) d_Tn_callUp_15 (by decide) (by show (-1 : Int32) < 0; decide) ?_
      refine wp_iconst (q := 24) d_Tn_callUp_23 rfl ic_m1 ?_
      refine wp_iret d_Tn_callUp_24 rfl (Nat.le_refl _) (Nat.le_refl _) ?_
      exact hn (Or.inl h1)
    | some a =>
      have q4 := (am_lt h2).1
      refine wp_aload_n (q := 1) d_Tn_callUp_0 rfl rfl ?_
      refine wp_iload_n (q := 2) d_Tn_callUp_1 rfl rfl ?_
      refine wp_cv1 (q := 5) lk_Tn_206 (ro _ _ _) d_Tn_callUp_2 rfl (Nat.le_of_ble_eq_true rfl) (rdO (w := w) hw) rfl (Nat.zero_le _) (Nat.zero_le _) ?_
      refine ok_Wd_firstInLine (w := w) hw hs ?_
      rw [h1]
      refine wp_istore_n (q := 6) (L2 := [(3, _), (0, _), (1, _), (2, _)]) d_Tn_callUp_5 rfl (by decide) rfl ?_
      refine wp_aload_n (q := 7) d_Tn_callUp_6 rfl rfl ?_
      refine wp_aload_n (q := 8) d_Tn_callUp_7 rfl rfl ?_
      refine wp_iload_n (q := 9) d_Tn_callUp_8 rfl rfl ?_
      refine wp_cv2 (q := 12) lk_Tn_209 (ro _ _ _) d_Tn_callUp_9 rfl (Nat.le_of_ble_eq_true rfl) (rfl) rfl (Nat.zero_le _) (Nat.zero_le _) ?_
      refine ok_Tn_mostWanted (w := w) hw hr0 hs ?_
      rw [h2]
      refine wp_istore (q := 14) (L2 := [(4, _), (3, _), (0, _), (1, _), (2, _)]) d_Tn_callUp_12 rfl (by decide) rfl ?_
      refine wp_iload_n (q := 15) d_Tn_callUp_14 rfl rfl ?_
      refine wp_if_lt_t (tgt := 23) d_Tn_callUp_15 (by decide) (by show (-1 : Int32) < 0; decide) ?_
      refine wp_iconst (q := 24) d_Tn_callUp_23 rfl ic_m1 ?_
      refine wp_iret d_Tn_callUp_24 rfl (Nat.le_refl _) (Nat.le_refl _) ?_
      exact hn (Or.inl h1)
  | some b =>
    obtain ⟨q1, q3⟩ := ff_lt h1
    cases h2 : am c P s 6 with
    | none =>
      refine wp_aload_n (q := 1) d_Tn_callUp_0 rfl rfl ?_
      refine wp_iload_n (q := 2) d_Tn_callUp_1 rfl rfl ?_
      refine wp_cv1 (q := 5) lk_Tn_206 (ro _ _ _) d_Tn_callUp_2 rfl (Nat.le_of_ble_eq_true rfl) (rdO (w := w) hw) rfl (Nat.zero_le _) (Nat.zero_le _) ?_
      refine ok_Wd_firstInLine (w := w) hw hs ?_
      rw [h1]
      refine wp_istore_n (q := 6) (L2 := [(3, _), (0, _), (1, _), (2, _)]) d_Tn_callUp_5 rfl (by decide) rfl ?_
      refine wp_aload_n (q := 7) d_Tn_callUp_6 rfl rfl ?_
      refine wp_aload_n (q := 8) d_Tn_callUp_7 rfl rfl ?_
      refine wp_iload_n (q := 9) d_Tn_callUp_8 rfl rfl ?_
      refine wp_cv2 (q := 12) lk_Tn_209 (ro _ _ _) d_Tn_callUp_9 rfl (Nat.le_of_ble_eq_true rfl) (rfl) rfl (Nat.zero_le _) (Nat.zero_le _) ?_
      refine ok_Tn_mostWanted (w := w) hw hr0 hs ?_
      rw [h2]
      refine wp_istore (q := 14) (L2 := [(4, _), (3, _), (0, _), (1, _), (2, _)]) d_Tn_callUp_12 rfl (by decide) rfl ?_
      refine wp_iload_n (q := 15) d_Tn_callUp_14 rfl rfl ?_
      refine wp_if_lt_f (q := 18) (tgt := 23) d_Tn_callUp_15 (by decide) rfl (nI_pos (by omega)) ?_
      refine wp_iload (q := 20) d_Tn_callUp_18 rfl rfl ?_
      refine wp_if_ge_f (q := 23) (tgt := 25) d_Tn_callUp_20 (by decide) rfl (by show ¬ (0 : Int32) ≤ -1; decide) ?_
      refine wp_iconst (q := 24) d_Tn_callUp_23 rfl ic_m1 ?_
      refine wp_iret d_Tn_callUp_24 rfl (Nat.le_refl _) (Nat.le_refl _) ?_
      exact hn (Or.inr h2)
    | some a =>
      have q4 := (am_lt h2).1
      refine wp_aload_n (q := 1) d_Tn_callUp_0 rfl rfl ?_
      refine wp_iload_n (q := 2) d_Tn_callUp_1 rfl rfl ?_
      refine wp_cv1 (q := 5) lk_Tn_206 (ro _ _ _) d_Tn_callUp_2 rfl (Nat.le_of_ble_eq_true rfl) (rdO (w := w) hw) rfl (Nat.zero_le _) (Nat.zero_le _) ?_
      refine ok_Wd_firstInLine (w := w) hw hs ?_
      rw [h1]
      refine wp_istore_n (q := 6) (L2 := [(3, _), (0, _), (1, _), (2, _)]) d_Tn_callUp_5 rfl (by decide) rfl ?_
      refine wp_aload_n (q := 7) d_Tn_callUp_6 rfl rfl ?_
      refine wp_aload_n (q := 8) d_Tn_callUp_7 rfl rfl ?_
      refine wp_iload_n (q := 9) d_Tn_callUp_8 rfl rfl ?_
      refine wp_cv2 (q := 12) lk_Tn_209 (ro _ _ _) d_Tn_callUp_9 rfl (Nat.le_of_ble_eq_true rfl) (rfl) rfl (Nat.zero_le _) (Nat.zero_le _) ?_
      refine ok_Tn_mostWanted (w := w) hw hr0 hs ?_
      rw [h2]
      refine wp_istore (q := 14) (L2 := [(4, _), (3, _), (0, _), (1, _), (2, _)]) d_Tn_callUp_12 rfl (by decide) rfl ?_
      refine wp_iload_n (q := 15) d_Tn_callUp_14 rfl rfl ?_
      refine wp_if_lt_f (q := 18) (tgt := 23) d_Tn_callUp_15 (by decide) rfl (nI_pos (by omega)) ?_
      refine wp_iload (q := 20) d_Tn_callUp_18 rfl rfl ?_
      refine wp_if_ge_t (tgt := 25) d_Tn_callUp_20 (by decide) (nI_pos' (by omega)) ?_
      refine wp_aload_n (q := 26) d_Tn_callUp_25 rfl rfl ?_
      refine wp_get (q := 29) fl_Tn_115 d_Tn_callUp_26 rfl (rdO (w := w) hw) rfl ?_
      refine wp_iload_n (q := 30) d_Tn_callUp_29 rfl rfl ?_
      refine wp_aldR (q := 31) d_Tn_callUp_30 rfl (rd4 (w := w) hw) (by omega) (by decide) (rowsW_at (by omega)) ?_
      refine wp_astore (q := 33) (L2 := [(5, _), (4, _), (3, _), (0, _), (1, _), (2, _)]) d_Tn_callUp_31 rfl (by decide) rfl ?_
      refine wp_aload (q := 35) d_Tn_callUp_33 rfl rfl ?_
      refine wp_iconst (q := 36) d_Tn_callUp_35 rfl ic_2 ?_
      refine wp_put (q := 39) fl_Tn_212 d_Tn_callUp_36 rfl (rdR (w := w) hw (by omega)) (Nat.le_of_ble_eq_true rfl) rfl rfl (fdw (w := w) hw (by omega) (ws_r0 (by omega))) ?_
      refine wp_aload (q := 41) d_Tn_callUp_39 rfl rfl ?_
      refine wp_aload_n (q := 42) d_Tn_callUp_41 rfl rfl ?_
      refine wp_get (q := 45) fl_Tn_121 d_Tn_callUp_42 rfl (rdO (w := w) hw) rfl ?_
      simp (disch := omega) only [upd_ne, upd_eq]
      refine wp_put (q := 48) fl_Tn_124 d_Tn_callUp_45 rfl (rdR (w := w) hw (by omega)) (Nat.le_of_ble_eq_true rfl) rfl rfl (fdw (w := w) hw (by omega) (ws_r6 (by omega))) ?_
      refine wp_aload (q := 50) d_Tn_callUp_48 rfl rfl ?_
      refine wp_iload (q := 52) d_Tn_callUp_50 rfl rfl ?_
      refine wp_put (q := 55) fl_Tn_215 d_Tn_callUp_52 rfl (rdR (w := w) hw (by omega)) (Nat.le_of_ble_eq_true rfl) rfl rfl (fdw (w := w) hw (by omega) (ws_r3 (by omega))) ?_
      refine wp_aload (q := 57) d_Tn_callUp_55 rfl rfl ?_
      refine wp_aload_n (q := 58) d_Tn_callUp_57 rfl rfl ?_
      refine wp_get (q := 61) fl_Tn_33 d_Tn_callUp_58 rfl rfl rfl ?_
      refine wp_iload_n (q := 62) d_Tn_callUp_61 rfl rfl ?_
      refine wp_iald (q := 63) d_Tn_callUp_62 rfl (rfl) (by omega) (by decide) ?_
      refine wp_put (q := 66) fl_Tn_182 d_Tn_callUp_63 rfl (rdR (w := w) hw (by omega)) (Nat.le_of_ble_eq_true rfl) rfl rfl (fdw (w := w) hw (by omega) (ws_r7 (by omega))) ?_
      refine wp_iload_n (q := 67) d_Tn_callUp_66 rfl rfl ?_
      refine wp_iret d_Tn_callUp_67 rfl (Nat.le_refl _) (Nat.le_refl _) ?_
      exact kP (hy b a h1 h2) rfl (by unfold upP; first | rfl | simp (disch := omega) only [upd_ne, upd_eq])
theorem d_Tn_letIn_0 : decode M_Tn_letIn.2.1 0 = .ok (.aload_n 1, 1) := by decide +kernel
theorem d_Tn_letIn_1 : decode M_Tn_letIn.2.1 1 = .ok (.getfield 115, 3) := by decide +kernel
theorem d_Tn_letIn_4 : decode M_Tn_letIn.2.1 4 = .ok (.iload_n 2, 1) := by decide +kernel
theorem d_Tn_letIn_5 : decode M_Tn_letIn.2.1 5 = .ok (.aaload, 1) := by decide +kernel
theorem d_Tn_letIn_6 : decode M_Tn_letIn.2.1 6 = .ok (.astore_n 3, 1) := by decide +kernel
theorem d_Tn_letIn_7 : decode M_Tn_letIn.2.1 7 = .ok (.aload_n 3, 1) := by decide +kernel
theorem d_Tn_letIn_8 : decode M_Tn_letIn.2.1 8 = .ok (.getfield 139, 3) := by decide +kernel
theorem d_Tn_letIn_11 : decode M_Tn_letIn.2.1 11 = .ok (.bipush 6, 2) := by decide +kernel
theorem d_Tn_letIn_13 : decode M_Tn_letIn.2.1 13 = .ok (.imul, 1) := by decide +kernel
theorem d_Tn_letIn_14 : decode M_Tn_letIn.2.1 14 = .ok (.aload_n 3, 1) := by decide +kernel
theorem d_Tn_letIn_15 : decode M_Tn_letIn.2.1 15 = .ok (.getfield 215, 3) := by decide +kernel
theorem d_Tn_letIn_18 : decode M_Tn_letIn.2.1 18 = .ok (.iadd, 1) := by decide +kernel
theorem d_Tn_letIn_19 : decode M_Tn_letIn.2.1 19 = .ok (.istore 4, 2) := by decide +kernel
theorem d_Tn_letIn_21 : decode M_Tn_letIn.2.1 21 = .ok (.iconst 5, 1) := by decide +kernel
theorem d_Tn_letIn_22 : decode M_Tn_letIn.2.1 22 = .ok (.aload_n 1, 1) := by decide +kernel
theorem d_Tn_letIn_23 : decode M_Tn_letIn.2.1 23 = .ok (.getfield 149, 3) := by decide +kernel
theorem d_Tn_letIn_26 : decode M_Tn_letIn.2.1 26 = .ok (.iload 4, 2) := by decide +kernel
theorem d_Tn_letIn_28 : decode M_Tn_letIn.2.1 28 = .ok (.iaload, 1) := by decide +kernel
theorem d_Tn_letIn_29 : decode M_Tn_letIn.2.1 29 = .ok (.aload_n 0, 1) := by decide +kernel
theorem d_Tn_letIn_30 : decode M_Tn_letIn.2.1 30 = .ok (.getfield 21, 3) := by decide +kernel
theorem d_Tn_letIn_33 : decode M_Tn_letIn.2.1 33 = .ok (.iload_n 2, 1) := by decide +kernel
theorem d_Tn_letIn_34 : decode M_Tn_letIn.2.1 34 = .ok (.iaload, 1) := by decide +kernel
theorem d_Tn_letIn_35 : decode M_Tn_letIn.2.1 35 = .ok (.aload_n 3, 1) := by decide +kernel
theorem d_Tn_letIn_36 : decode M_Tn_letIn.2.1 36 = .ok (.getfield 129, 3) := by decide +kernel
theorem d_Tn_letIn_39 : decode M_Tn_letIn.2.1 39 = .ok (.isub, 1) := by decide +kernel
theorem d_Tn_letIn_40 : decode M_Tn_letIn.2.1 40 = .ok (.invokestatic 95, 3) := by decide +kernel
theorem d_Tn_letIn_43 : decode M_Tn_letIn.2.1 43 = .ok (.invokestatic 95, 3) := by decide +kernel
theorem d_Tn_letIn_46 : decode M_Tn_letIn.2.1 46 = .ok (.istore 5, 2) := by decide +kernel
theorem d_Tn_letIn_48 : decode M_Tn_letIn.2.1 48 = .ok (.aload_n 1, 1) := by decide +kernel
theorem d_Tn_letIn_49 : decode M_Tn_letIn.2.1 49 = .ok (.getfield 149, 3) := by decide +kernel
theorem d_Tn_letIn_52 : decode M_Tn_letIn.2.1 52 = .ok (.iload 4, 2) := by decide +kernel
theorem d_Tn_letIn_54 : decode M_Tn_letIn.2.1 54 = .ok (.dup2, 1) := by decide +kernel
theorem d_Tn_letIn_55 : decode M_Tn_letIn.2.1 55 = .ok (.iaload, 1) := by decide +kernel
theorem d_Tn_letIn_56 : decode M_Tn_letIn.2.1 56 = .ok (.iload 5, 2) := by decide +kernel
theorem d_Tn_letIn_58 : decode M_Tn_letIn.2.1 58 = .ok (.isub, 1) := by decide +kernel
theorem d_Tn_letIn_59 : decode M_Tn_letIn.2.1 59 = .ok (.iastore, 1) := by decide +kernel
theorem d_Tn_letIn_60 : decode M_Tn_letIn.2.1 60 = .ok (.aload_n 3, 1) := by decide +kernel
theorem d_Tn_letIn_61 : decode M_Tn_letIn.2.1 61 = .ok (.dup, 1) := by decide +kernel
theorem d_Tn_letIn_62 : decode M_Tn_letIn.2.1 62 = .ok (.getfield 129, 3) := by decide +kernel
theorem d_Tn_letIn_65 : decode M_Tn_letIn.2.1 65 = .ok (.iload 5, 2) := by decide +kernel
theorem d_Tn_letIn_67 : decode M_Tn_letIn.2.1 67 = .ok (.iadd, 1) := by decide +kernel
theorem d_Tn_letIn_68 : decode M_Tn_letIn.2.1 68 = .ok (.putfield 129, 3) := by decide +kernel
theorem d_Tn_letIn_71 : decode M_Tn_letIn.2.1 71 = .ok (.return_, 1) := by decide +kernel
set_option maxHeartbeats 4000000 in
set_option maxRecDepth 100000 in
theorem ok_Tn_letIn {D : xD} {N : Nat} {l : Launch} {d : Nat} {c x V : T2} {P : Nat → Int32} {w : Nat} {ln df : Nat → Option Nat} {rest : List va_E} {K : Option Value → List va_E → Prop} (hw : w < 3) {b s : Nat} (hb : b < 12) (hs : s < 6) (es : P (84 + b) = nI s) {kd a : Nat} (ek : P (156 + b) = nI kd) (hk : kd < 6) (ea : P (108 + b) = nI a) (ha : a < 6) (hK : K none (encC D N c x (va_up V w (letP P s a b (min5 (c 5 b - P (120 + b)) (P (6 * s + a))))) ln df ++ rest)) : Ok D N l (d + 1) M_Tn_letIn [.ref (N + 1), .ref (N + wA w), .int (nI b)] (encC D N c x (va_up V w P) ln df ++ rest) 0 0 K := by
  refine ok_of (L := [(0, _), (1, _), (2, _)]) (by decide) (Nat.le_of_ble_eq_true rfl) rfl ?_
  refine wp_aload_n (q := 1) d_Tn_letIn_0 rfl rfl ?_
  refine wp_get (q := 4) fl_Tn_115 d_Tn_letIn_1 rfl (rdO (w := w) hw) rfl ?_
  refine wp_iload_n (q := 5) d_Tn_letIn_4 rfl rfl ?_
  refine wp_aldR (q := 6) d_Tn_letIn_5 rfl (rd4 (w := w) hw) (by omega) (by decide) (rowsW_at (by omega)) ?_
  refine wp_astore_n (q := 7) (L2 := [(3, _), (0, _), (1, _), (2, _)]) d_Tn_letIn_6 rfl (by decide) rfl ?_
  refine wp_aload_n (q := 8) d_Tn_letIn_7 rfl rfl ?_
  refine wp_get (q := 11) fl_Tn_139 d_Tn_letIn_8 rfl (rdR (w := w) hw hb) rfl ?_
  rw [es]
  refine wp_bipush (q := 13) d_Tn_letIn_11 rfl bp_6 ?_
  first | refine wp_imulC (q := 14) d_Tn_letIn_13 rfl ?_ | refine wp_imul (q := 14) d_Tn_letIn_13 rfl ?_
  refine wp_aload_n (q := 15) d_Tn_letIn_14 rfl rfl ?_
  refine wp_get (q := 18) fl_Tn_215 d_Tn_letIn_15 rfl (rdR (w := w) hw hb) rfl ?_
  rw [ea]
  first | refine wp_iaddN (q := 19) d_Tn_letIn_18 rfl ?_ | refine wp_iadd (q := 19) d_Tn_letIn_18 rfl ?_
  refine wp_istore (q := 21) (L2 := [(4, _), (3, _), (0, _), (1, _), (2, _)]) d_Tn_letIn_19 rfl (by decide) rfl ?_
  refine wp_iconst (q := 22) d_Tn_letIn_21 rfl ic_5 ?_
  refine wp_aload_n (q := 23) d_Tn_letIn_22 rfl rfl ?_
  refine wp_get (q := 26) fl_Tn_149 d_Tn_letIn_23 rfl (rdO (w := w) hw) rfl ?_
  refine wp_iload (q := 28) d_Tn_letIn_26 rfl rfl ?_
  refine wp_iald (q := 29) d_Tn_letIn_28 rfl (rd1 (w := w) hw) (by omega) (by decide) ?_
  rw [sl_at (show 6 * s + a < 36 by omega), Nat.zero_add]
  refine wp_aload_n (q := 30) d_Tn_letIn_29 rfl rfl ?_
  refine wp_get (q := 33) fl_Tn_21 d_Tn_letIn_30 rfl rfl rfl ?_
  refine wp_iload_n (q := 34) d_Tn_letIn_33 rfl rfl ?_
  refine wp_iald (q := 35) d_Tn_letIn_34 rfl (rfl) (by omega) (by decide) ?_
  refine wp_aload_n (q := 36) d_Tn_letIn_35 rfl rfl ?_
  refine wp_get (q := 39) fl_Tn_129 d_Tn_letIn_36 rfl (rdR (w := w) hw hb) rfl ?_
  refine wp_isub (q := 40) d_Tn_letIn_39 rfl ?_
  refine wp_mmin km_Tn_95 (RO0 ()) d_Tn_letIn_40 rfl (Nat.le_of_ble_eq_true rfl) (Nat.zero_le _) (Nat.zero_le _) ?_
  refine wp_mmin km_Tn_95 (RO0 ()) d_Tn_letIn_43 rfl (Nat.le_of_ble_eq_true rfl) (Nat.zero_le _) (Nat.zero_le _) ?_
  rw [min5E]
  refine wp_istore (q := 48) (L2 := [(5, _), (4, _), (3, _), (0, _), (1, _), (2, _)]) d_Tn_letIn_46 rfl (by decide) rfl ?_
  refine wp_aload_n (q := 49) d_Tn_letIn_48 rfl rfl ?_
  refine wp_get (q := 52) fl_Tn_149 d_Tn_letIn_49 rfl (rdO (w := w) hw) rfl ?_
  refine wp_iload (q := 54) d_Tn_letIn_52 rfl rfl ?_
  refine wp_dup2 (q := 55) d_Tn_letIn_54 rfl rfl rfl ?_
  refine wp_iald (q := 56) d_Tn_letIn_55 rfl (rd1 (w := w) hw) (by omega) (by decide) ?_
  rw [sl_at (show 6 * s + a < 36 by omega), Nat.zero_add]
  refine wp_iload (q := 58) d_Tn_letIn_56 rfl rfl ?_
  refine wp_isub (q := 59) d_Tn_letIn_58 rfl ?_
  refine wp_iast (q := 60) d_Tn_letIn_59 rfl (rd1 (w := w) hw) (by omega) (by decide) (fdw (w := w) (i := 1) hw (by decide) (ws_c (by omega))) ?_
  refine wp_aload_n (q := 61) d_Tn_letIn_60 rfl rfl ?_
  refine wp_dup (q := 62) d_Tn_letIn_61 rfl rfl ?_
  refine wp_get (q := 65) fl_Tn_129 d_Tn_letIn_62 rfl (rdR (w := w) hw hb) rfl ?_
  simp (disch := omega) only [upd_ne, upd_eq]
  refine wp_iload (q := 67) d_Tn_letIn_65 rfl rfl ?_
  refine wp_iadd (q := 68) d_Tn_letIn_67 rfl ?_
  refine wp_put (q := 71) fl_Tn_129 d_Tn_letIn_68 rfl (rdR (w := w) hw hb) (Nat.le_of_ble_eq_true rfl) rfl rfl (fdw (w := w) hw (by omega) (ws_r4 hb)) ?_
  refine wp_vret d_Tn_letIn_71 rfl (Nat.le_refl _) (Nat.le_refl _) ?_
  refine kP hK rfl ?_
  unfold letP
  simp (disch := omega) only [upd_ne, upd_eq, Nat.zero_add]
theorem d_Tn_leave_0 : decode M_Tn_leave.2.1 0 = .ok (.aload_n 1, 1) := by decide +kernel
theorem d_Tn_leave_1 : decode M_Tn_leave.2.1 1 = .ok (.getfield 115, 3) := by decide +kernel
theorem d_Tn_leave_4 : decode M_Tn_leave.2.1 4 = .ok (.iload_n 2, 1) := by decide +kernel
theorem d_Tn_leave_5 : decode M_Tn_leave.2.1 5 = .ok (.aaload, 1) := by decide +kernel
theorem d_Tn_leave_6 : decode M_Tn_leave.2.1 6 = .ok (.astore 4, 2) := by decide +kernel
theorem d_Tn_leave_8 : decode M_Tn_leave.2.1 8 = .ok (.aload_n 0, 1) := by decide +kernel
theorem d_Tn_leave_9 : decode M_Tn_leave.2.1 9 = .ok (.getfield 47, 3) := by decide +kernel
theorem d_Tn_leave_12 : decode M_Tn_leave.2.1 12 = .ok (.aload 4, 2) := by decide +kernel
theorem d_Tn_leave_14 : decode M_Tn_leave.2.1 14 = .ok (.getfield 182, 3) := by decide +kernel
theorem d_Tn_leave_17 : decode M_Tn_leave.2.1 17 = .ok (.aaload, 1) := by decide +kernel
theorem d_Tn_leave_18 : decode M_Tn_leave.2.1 18 = .ok (.astore 5, 2) := by decide +kernel
theorem d_Tn_leave_20 : decode M_Tn_leave.2.1 20 = .ok (.aload 4, 2) := by decide +kernel
theorem d_Tn_leave_22 : decode M_Tn_leave.2.1 22 = .ok (.iconst 3, 1) := by decide +kernel
theorem d_Tn_leave_23 : decode M_Tn_leave.2.1 23 = .ok (.putfield 212, 3) := by decide +kernel
theorem d_Tn_leave_26 : decode M_Tn_leave.2.1 26 = .ok (.aload 4, 2) := by decide +kernel
theorem d_Tn_leave_28 : decode M_Tn_leave.2.1 28 = .ok (.dup, 1) := by decide +kernel
theorem d_Tn_leave_29 : decode M_Tn_leave.2.1 29 = .ok (.getfield 146, 3) := by decide +kernel
theorem d_Tn_leave_32 : decode M_Tn_leave.2.1 32 = .ok (.aload 5, 2) := by decide +kernel
theorem d_Tn_leave_34 : decode M_Tn_leave.2.1 34 = .ok (.iload_n 3, 1) := by decide +kernel
theorem d_Tn_leave_35 : decode M_Tn_leave.2.1 35 = .ok (.aload 4, 2) := by decide +kernel
theorem d_Tn_leave_37 : decode M_Tn_leave.2.1 37 = .ok (.getfield 129, 3) := by decide +kernel
theorem d_Tn_leave_40 : decode M_Tn_leave.2.1 40 = .ok (.invokevirtual 218, 3) := by decide +kernel
theorem d_Tn_leave_43 : decode M_Tn_leave.2.1 43 = .ok (.iadd, 1) := by decide +kernel
theorem d_Tn_leave_44 : decode M_Tn_leave.2.1 44 = .ok (.putfield 146, 3) := by decide +kernel
theorem d_Tn_leave_47 : decode M_Tn_leave.2.1 47 = .ok (.aload 4, 2) := by decide +kernel
theorem d_Tn_leave_49 : decode M_Tn_leave.2.1 49 = .ok (.aload 5, 2) := by decide +kernel
theorem d_Tn_leave_51 : decode M_Tn_leave.2.1 51 = .ok (.aload_n 0, 1) := by decide +kernel
theorem d_Tn_leave_52 : decode M_Tn_leave.2.1 52 = .ok (.aload 4, 2) := by decide +kernel
theorem d_Tn_leave_54 : decode M_Tn_leave.2.1 54 = .ok (.getfield 139, 3) := by decide +kernel
theorem d_Tn_leave_57 : decode M_Tn_leave.2.1 57 = .ok (.aload 4, 2) := by decide +kernel
theorem d_Tn_leave_59 : decode M_Tn_leave.2.1 59 = .ok (.getfield 215, 3) := by decide +kernel
theorem d_Tn_leave_62 : decode M_Tn_leave.2.1 62 = .ok (.aload_n 1, 1) := by decide +kernel
theorem d_Tn_leave_63 : decode M_Tn_leave.2.1 63 = .ok (.invokevirtual 135, 3) := by decide +kernel
theorem d_Tn_leave_66 : decode M_Tn_leave.2.1 66 = .ok (.invokevirtual 91, 3) := by decide +kernel
theorem d_Tn_leave_69 : decode M_Tn_leave.2.1 69 = .ok (.invokevirtual 221, 3) := by decide +kernel
theorem d_Tn_leave_72 : decode M_Tn_leave.2.1 72 = .ok (.putfield 224, 3) := by decide +kernel
theorem d_Tn_leave_75 : decode M_Tn_leave.2.1 75 = .ok (.aload 4, 2) := by decide +kernel
theorem d_Tn_leave_77 : decode M_Tn_leave.2.1 77 = .ok (.dup, 1) := by decide +kernel
theorem d_Tn_leave_78 : decode M_Tn_leave.2.1 78 = .ok (.getfield 227, 3) := by decide +kernel
theorem d_Tn_leave_81 : decode M_Tn_leave.2.1 81 = .ok (.aload 5, 2) := by decide +kernel
theorem d_Tn_leave_83 : decode M_Tn_leave.2.1 83 = .ok (.aload_n 0, 1) := by decide +kernel
theorem d_Tn_leave_84 : decode M_Tn_leave.2.1 84 = .ok (.getfield 30, 3) := by decide +kernel
theorem d_Tn_leave_87 : decode M_Tn_leave.2.1 87 = .ok (.iload_n 2, 1) := by decide +kernel
theorem d_Tn_leave_88 : decode M_Tn_leave.2.1 88 = .ok (.iaload, 1) := by decide +kernel
theorem d_Tn_leave_89 : decode M_Tn_leave.2.1 89 = .ok (.invokevirtual 230, 3) := by decide +kernel
theorem d_Tn_leave_92 : decode M_Tn_leave.2.1 92 = .ok (.aload 4, 2) := by decide +kernel
theorem d_Tn_leave_94 : decode M_Tn_leave.2.1 94 = .ok (.getfield 224, 3) := by decide +kernel
theorem d_Tn_leave_97 : decode M_Tn_leave.2.1 97 = .ok (.imul, 1) := by decide +kernel
theorem d_Tn_leave_98 : decode M_Tn_leave.2.1 98 = .ok (.iadd, 1) := by decide +kernel
theorem d_Tn_leave_99 : decode M_Tn_leave.2.1 99 = .ok (.putfield 227, 3) := by decide +kernel
theorem d_Tn_leave_102 : decode M_Tn_leave.2.1 102 = .ok (.aload 4, 2) := by decide +kernel
theorem d_Tn_leave_104 : decode M_Tn_leave.2.1 104 = .ok (.dup, 1) := by decide +kernel
theorem d_Tn_leave_105 : decode M_Tn_leave.2.1 105 = .ok (.getfield 233, 3) := by decide +kernel
theorem d_Tn_leave_108 : decode M_Tn_leave.2.1 108 = .ok (.iconst 1, 1) := by decide +kernel
theorem d_Tn_leave_109 : decode M_Tn_leave.2.1 109 = .ok (.iadd, 1) := by decide +kernel
theorem d_Tn_leave_110 : decode M_Tn_leave.2.1 110 = .ok (.putfield 233, 3) := by decide +kernel
theorem d_Tn_leave_113 : decode M_Tn_leave.2.1 113 = .ok (.return_, 1) := by decide +kernel
set_option maxHeartbeats 4000000 in
set_option maxRecDepth 100000 in
theorem ok_Tn_leave {D : xD} {N : Nat} {l : Launch} {d : Nat} {c x V : T2} {P : Nat → Int32} {w : Nat} {ln df : Nat → Option Nat} {rest : List va_E} {K : Option Value → List va_E → Prop} (hw : w < 3) {m : Nat} (em : P 234 = nI m) (hm : m < 14700) {b s : Nat} (hb : b < 12) (hs : s < 6) (es : P (84 + b) = nI s) {kd a : Nat} (ek : P (156 + b) = nI kd) (hk : kd < 6) (ea : P (108 + b) = nI a) (ha : a < 6) {fare : Int32} (hK : K none (encC D N c x (va_up V w (lvP c P b kd fare (kMin kd (way c s a (hr m))))) ln df ++ rest)) : Ok D N l (d + 4) M_Tn_leave [.ref (N + 1), .ref (N + wA w), .int (nI b), .int fare] (encC D N c x (va_up V w P) ln df ++ rest) 0 0 K := by
  refine ok_of (L := [(0, _), (1, _), (2, _), (3, _)]) (by decide) (Nat.le_of_ble_eq_true rfl) rfl ?_
  refine wp_aload_n (q := 1) d_Tn_leave_0 rfl rfl ?_
  refine wp_get (q := 4) fl_Tn_115 d_Tn_leave_1 rfl (rdO (w := w) hw) rfl ?_
  refine wp_iload_n (q := 5) d_Tn_leave_4 rfl rfl ?_
  refine wp_aldR (q := 6) d_Tn_leave_5 rfl (rd4 (w := w) hw) (by omega) (by decide) (rowsW_at (by omega)) ?_
  refine wp_astore (q := 8) (L2 := [(4, _), (0, _), (1, _), (2, _), (3, _)]) d_Tn_leave_6 rfl (by decide) rfl ?_
  refine wp_aload_n (q := 9) d_Tn_leave_8 rfl rfl ?_
  refine wp_get (q := 12) fl_Tn_47 d_Tn_leave_9 rfl rfl rfl ?_
  refine wp_aload (q := 14) d_Tn_leave_12 rfl rfl ?_
  refine wp_get (q := 17) fl_Tn_182 d_Tn_leave_14 rfl (rdR (w := w) hw hb) rfl ?_
  rw [ek]
  refine wp_aldK (q := 18) d_Tn_leave_17 rfl (rfl) (by omega) (by decide) (rows_at (by omega)) ?_
  refine wp_astore (q := 20) (L2 := [(5, _), (4, _), (0, _), (1, _), (2, _), (3, _)]) d_Tn_leave_18 rfl (by decide) rfl ?_
  refine wp_aload (q := 22) d_Tn_leave_20 rfl rfl ?_
  refine wp_iconst (q := 23) d_Tn_leave_22 rfl ic_3 ?_
  refine wp_put (q := 26) fl_Tn_212 d_Tn_leave_23 rfl (rdR (w := w) hw hb) (Nat.le_of_ble_eq_true rfl) rfl rfl (fdw (w := w) hw (by omega) (ws_r0 hb)) ?_
  refine wp_aload (q := 28) d_Tn_leave_26 rfl rfl ?_
  refine wp_dup (q := 29) d_Tn_leave_28 rfl rfl ?_
  refine wp_get (q := 32) fl_Tn_146 d_Tn_leave_29 rfl (rdR (w := w) hw hb) rfl ?_
  simp (disch := omega) only [upd_ne, upd_eq]
  refine wp_aload (q := 34) d_Tn_leave_32 rfl rfl ?_
  refine wp_iload_n (q := 35) d_Tn_leave_34 rfl rfl ?_
  refine wp_aload (q := 37) d_Tn_leave_35 rfl rfl ?_
  refine wp_get (q := 40) fl_Tn_129 d_Tn_leave_37 rfl (rdR (w := w) hw hb) rfl ?_
  simp (disch := omega) only [upd_ne, upd_eq]
  refine wp_v_takings lm_Tn_218 (ro _ _ _) d_Tn_leave_40 rfl (Nat.le_of_ble_eq_true rfl) hk (rdK hk) (Nat.zero_le _) (Nat.zero_le _) ?_
  refine wp_iadd (q := 44) d_Tn_leave_43 rfl ?_
  refine wp_put (q := 47) fl_Tn_146 d_Tn_leave_44 rfl (rdR (w := w) hw hb) (Nat.le_of_ble_eq_true rfl) rfl rfl (fdw (w := w) hw (by omega) (ws_r8 hb)) ?_
  refine wp_aload (q := 49) d_Tn_leave_47 rfl rfl ?_
  refine wp_aload (q := 51) d_Tn_leave_49 rfl rfl ?_
  refine wp_aload_n (q := 52) d_Tn_leave_51 rfl rfl ?_
  refine wp_aload (q := 54) d_Tn_leave_52 rfl rfl ?_
  refine wp_get (q := 57) fl_Tn_139 d_Tn_leave_54 rfl (rdR (w := w) hw hb) rfl ?_
  simp (disch := omega) only [upd_ne, upd_eq]
  rw [es]
  refine wp_aload (q := 59) d_Tn_leave_57 rfl rfl ?_
  refine wp_get (q := 62) fl_Tn_215 d_Tn_leave_59 rfl (rdR (w := w) hw hb) rfl ?_
  simp (disch := omega) only [upd_ne, upd_eq]
  rw [ea]
  refine wp_aload_n (q := 63) d_Tn_leave_62 rfl rfl ?_
  refine wp_cv0 (q := 66) lk_Tn_135 (ro _ _ _) d_Tn_leave_63 rfl (Nat.le_of_ble_eq_true rfl) (rdO (w := w) hw) rfl (Nat.zero_le _) (Nat.zero_le _) ?_
  refine ok_Wd_hour (w := w) (m := m) hw (by simp (disch := omega) only [upd_ne]; exact em) hm ?_
  refine wp_cv3 (q := 69) lk_Tn_91 (ro _ _ _) d_Tn_leave_66 rfl (Nat.le_of_ble_eq_true rfl) (rfl) rfl (Nat.zero_le _) (Nat.zero_le _) ?_
  refine ok_Tn_wayOf hs ha (hr_lt m) ?_
  refine wp_v_minutesOf lm_Tn_221 (ro _ _ _) d_Tn_leave_69 rfl (Nat.le_of_ble_eq_true rfl) hk (rdK hk) (Nat.zero_le _) (Nat.zero_le _) ?_
  refine wp_put (q := 75) fl_Tn_224 d_Tn_leave_72 rfl (rdR (w := w) hw hb) (Nat.le_of_ble_eq_true rfl) rfl rfl (fdw (w := w) hw (by omega) (ws_r5 hb)) ?_
  refine wp_aload (q := 77) d_Tn_leave_75 rfl rfl ?_
  refine wp_dup (q := 78) d_Tn_leave_77 rfl rfl ?_
  refine wp_get (q := 81) fl_Tn_227 d_Tn_leave_78 rfl (rdR (w := w) hw hb) rfl ?_
  simp (disch := omega) only [upd_ne, upd_eq]
  refine wp_aload (q := 83) d_Tn_leave_81 rfl rfl ?_
  refine wp_aload_n (q := 84) d_Tn_leave_83 rfl rfl ?_
  refine wp_get (q := 87) fl_Tn_30 d_Tn_leave_84 rfl rfl rfl ?_
  refine wp_iload_n (q := 88) d_Tn_leave_87 rfl rfl ?_
  refine wp_iald (q := 89) d_Tn_leave_88 rfl (rfl) (by omega) (by decide) ?_
  refine wp_v_fuelOf lm_Tn_230 (ro _ _ _) d_Tn_leave_89 rfl (Nat.le_of_ble_eq_true rfl) hk (rdK hk) (Nat.zero_le _) (Nat.zero_le _) ?_
  refine wp_aload (q := 94) d_Tn_leave_92 rfl rfl ?_
  refine wp_get (q := 97) fl_Tn_224 d_Tn_leave_94 rfl (rdR (w := w) hw hb) rfl ?_
  simp (disch := omega) only [upd_ne, upd_eq]
  refine wp_imul (q := 98) d_Tn_leave_97 rfl ?_
  refine wp_iadd (q := 99) d_Tn_leave_98 rfl ?_
  refine wp_put (q := 102) fl_Tn_227 d_Tn_leave_99 rfl (rdR (w := w) hw hb) (Nat.le_of_ble_eq_true rfl) rfl rfl (fdw (w := w) hw (by omega) (ws_r9 hb)) ?_
  refine wp_aload (q := 104) d_Tn_leave_102 rfl rfl ?_
  refine wp_dup (q := 105) d_Tn_leave_104 rfl rfl ?_
  refine wp_get (q := 108) fl_Tn_233 d_Tn_leave_105 rfl (rdR (w := w) hw hb) rfl ?_
  simp (disch := omega) only [upd_ne, upd_eq]
  refine wp_iconst (q := 109) d_Tn_leave_108 rfl ic_1 ?_
  refine wp_iadd (q := 110) d_Tn_leave_109 rfl ?_
  refine wp_put (q := 113) fl_Tn_233 d_Tn_leave_110 rfl (rdR (w := w) hw hb) (Nat.le_of_ble_eq_true rfl) rfl rfl (fdw (w := w) hw (by omega) (ws_r12 hb)) ?_
  refine wp_vret d_Tn_leave_113 rfl (Nat.le_refl _) (Nat.le_refl _) ?_
  refine kP hK rfl ?_
  unfold lvP
  try simp (disch := omega) only [upd_ne, upd_eq]
theorem d_Tn_serve_0 : decode M_Tn_serve.2.1 0 = .ok (.aload_n 1, 1) := by decide +kernel
theorem d_Tn_serve_1 : decode M_Tn_serve.2.1 1 = .ok (.iload_n 2, 1) := by decide +kernel
theorem d_Tn_serve_2 : decode M_Tn_serve.2.1 2 = .ok (.invokevirtual 175, 3) := by decide +kernel
theorem d_Tn_serve_5 : decode M_Tn_serve.2.1 5 = .ok (.istore_n 3, 1) := by decide +kernel
theorem d_Tn_serve_6 : decode M_Tn_serve.2.1 6 = .ok (.iload_n 3, 1) := by decide +kernel
theorem d_Tn_serve_7 : decode M_Tn_serve.2.1 7 = .ok (.ifCond .ge 10, 3) := by decide +kernel
theorem d_Tn_serve_10 : decode M_Tn_serve.2.1 10 = .ok (.aload_n 0, 1) := by decide +kernel
theorem d_Tn_serve_11 : decode M_Tn_serve.2.1 11 = .ok (.aload_n 1, 1) := by decide +kernel
theorem d_Tn_serve_12 : decode M_Tn_serve.2.1 12 = .ok (.iload_n 2, 1) := by decide +kernel
theorem d_Tn_serve_13 : decode M_Tn_serve.2.1 13 = .ok (.invokevirtual 178, 3) := by decide +kernel
theorem d_Tn_serve_16 : decode M_Tn_serve.2.1 16 = .ok (.istore_n 3, 1) := by decide +kernel
theorem d_Tn_serve_17 : decode M_Tn_serve.2.1 17 = .ok (.iload_n 3, 1) := by decide +kernel
theorem d_Tn_serve_18 : decode M_Tn_serve.2.1 18 = .ok (.ifCond .ge 4, 3) := by decide +kernel
theorem d_Tn_serve_21 : decode M_Tn_serve.2.1 21 = .ok (.return_, 1) := by decide +kernel
theorem d_Tn_serve_22 : decode M_Tn_serve.2.1 22 = .ok (.aload_n 1, 1) := by decide +kernel
theorem d_Tn_serve_23 : decode M_Tn_serve.2.1 23 = .ok (.getfield 115, 3) := by decide +kernel
theorem d_Tn_serve_26 : decode M_Tn_serve.2.1 26 = .ok (.iload_n 3, 1) := by decide +kernel
theorem d_Tn_serve_27 : decode M_Tn_serve.2.1 27 = .ok (.aaload, 1) := by decide +kernel
theorem d_Tn_serve_28 : decode M_Tn_serve.2.1 28 = .ok (.astore 4, 2) := by decide +kernel
theorem d_Tn_serve_30 : decode M_Tn_serve.2.1 30 = .ok (.aload_n 0, 1) := by decide +kernel
theorem d_Tn_serve_31 : decode M_Tn_serve.2.1 31 = .ok (.getfield 47, 3) := by decide +kernel
theorem d_Tn_serve_34 : decode M_Tn_serve.2.1 34 = .ok (.aload 4, 2) := by decide +kernel
theorem d_Tn_serve_36 : decode M_Tn_serve.2.1 36 = .ok (.getfield 182, 3) := by decide +kernel
theorem d_Tn_serve_39 : decode M_Tn_serve.2.1 39 = .ok (.aaload, 1) := by decide +kernel
theorem d_Tn_serve_40 : decode M_Tn_serve.2.1 40 = .ok (.astore 5, 2) := by decide +kernel
theorem d_Tn_serve_42 : decode M_Tn_serve.2.1 42 = .ok (.aload 5, 2) := by decide +kernel
theorem d_Tn_serve_44 : decode M_Tn_serve.2.1 44 = .ok (.invokevirtual 185, 3) := by decide +kernel
theorem d_Tn_serve_47 : decode M_Tn_serve.2.1 47 = .ok (.ifCond .eq 9, 3) := by decide +kernel
theorem d_Tn_serve_50 : decode M_Tn_serve.2.1 50 = .ok (.aload_n 0, 1) := by decide +kernel
theorem d_Tn_serve_51 : decode M_Tn_serve.2.1 51 = .ok (.aload_n 1, 1) := by decide +kernel
theorem d_Tn_serve_52 : decode M_Tn_serve.2.1 52 = .ok (.iload_n 3, 1) := by decide +kernel
theorem d_Tn_serve_53 : decode M_Tn_serve.2.1 53 = .ok (.invokevirtual 189, 3) := by decide +kernel
theorem d_Tn_serve_56 : decode M_Tn_serve.2.1 56 = .ok (.aload_n 0, 1) := by decide +kernel
theorem d_Tn_serve_57 : decode M_Tn_serve.2.1 57 = .ok (.aload_n 1, 1) := by decide +kernel
theorem d_Tn_serve_58 : decode M_Tn_serve.2.1 58 = .ok (.iload_n 3, 1) := by decide +kernel
theorem d_Tn_serve_59 : decode M_Tn_serve.2.1 59 = .ok (.invokevirtual 192, 3) := by decide +kernel
theorem d_Tn_serve_62 : decode M_Tn_serve.2.1 62 = .ok (.astore 6, 2) := by decide +kernel
theorem d_Tn_serve_64 : decode M_Tn_serve.2.1 64 = .ok (.bipush 100, 2) := by decide +kernel
theorem d_Tn_serve_66 : decode M_Tn_serve.2.1 66 = .ok (.aload 4, 2) := by decide +kernel
theorem d_Tn_serve_68 : decode M_Tn_serve.2.1 68 = .ok (.getfield 129, 3) := by decide +kernel
theorem d_Tn_serve_71 : decode M_Tn_serve.2.1 71 = .ok (.imul, 1) := by decide +kernel
theorem d_Tn_serve_72 : decode M_Tn_serve.2.1 72 = .ok (.aload 5, 2) := by decide +kernel
theorem d_Tn_serve_74 : decode M_Tn_serve.2.1 74 = .ok (.aload_n 0, 1) := by decide +kernel
theorem d_Tn_serve_75 : decode M_Tn_serve.2.1 75 = .ok (.aload 6, 2) := by decide +kernel
theorem d_Tn_serve_77 : decode M_Tn_serve.2.1 77 = .ok (.iconst 0, 1) := by decide +kernel
theorem d_Tn_serve_78 : decode M_Tn_serve.2.1 78 = .ok (.invokevirtual 196, 3) := by decide +kernel
theorem d_Tn_serve_81 : decode M_Tn_serve.2.1 81 = .ok (.invokevirtual 199, 3) := by decide +kernel
theorem d_Tn_serve_84 : decode M_Tn_serve.2.1 84 = .ok (.aload_n 0, 1) := by decide +kernel
theorem d_Tn_serve_85 : decode M_Tn_serve.2.1 85 = .ok (.getfield 21, 3) := by decide +kernel
theorem d_Tn_serve_88 : decode M_Tn_serve.2.1 88 = .ok (.iload_n 3, 1) := by decide +kernel
theorem d_Tn_serve_89 : decode M_Tn_serve.2.1 89 = .ok (.iaload, 1) := by decide +kernel
theorem d_Tn_serve_90 : decode M_Tn_serve.2.1 90 = .ok (.imul, 1) := by decide +kernel
theorem d_Tn_serve_91 : decode M_Tn_serve.2.1 91 = .ok (.if_icmp .lt 16, 3) := by decide +kernel
theorem d_Tn_serve_94 : decode M_Tn_serve.2.1 94 = .ok (.aload_n 0, 1) := by decide +kernel
theorem d_Tn_serve_95 : decode M_Tn_serve.2.1 95 = .ok (.aload_n 1, 1) := by decide +kernel
theorem d_Tn_serve_96 : decode M_Tn_serve.2.1 96 = .ok (.iload_n 3, 1) := by decide +kernel
theorem d_Tn_serve_97 : decode M_Tn_serve.2.1 97 = .ok (.aload_n 0, 1) := by decide +kernel
theorem d_Tn_serve_98 : decode M_Tn_serve.2.1 98 = .ok (.aload 6, 2) := by decide +kernel
theorem d_Tn_serve_100 : decode M_Tn_serve.2.1 100 = .ok (.iconst 1, 1) := by decide +kernel
theorem d_Tn_serve_101 : decode M_Tn_serve.2.1 101 = .ok (.invokevirtual 196, 3) := by decide +kernel
theorem d_Tn_serve_104 : decode M_Tn_serve.2.1 104 = .ok (.invokevirtual 202, 3) := by decide +kernel
theorem d_Tn_serve_107 : decode M_Tn_serve.2.1 107 = .ok (.return_, 1) := by decide +kernel
set_option maxHeartbeats 4000000 in
set_option maxRecDepth 100000 in
theorem sv_end {D : xD} {N : Nat} {l : Launch} {d : Nat} {c x V : T2} {P : Nat → Int32} {w : Nat} {ln df : Nat → Option Nat} {rest : List va_E} {K : Option Value → List va_E → Prop} {nb : Nat} (h12 : nb ≤ 12) (hz : ∀ b, nb ≤ b → b < 12 → P (72 + b) = nI 0) (hw : w < 3) {m : Nat} (em : P 234 = nI m) (hm : m < 14700) {b s : Nat} (hb : b < 12) (hs : s < 6) (es : P (84 + b) = nI s) {kd a : Nat} (ek : P (156 + b) = nI kd) (hk : kd < 6) (ea : P (108 + b) = nI a) (ha : a < 6) (hCI : CI c) (hLOK : LOK D N c ln rest) (hK : ∀ x2 : T2, K none (encC D N c x2 (va_up V w (go2 c P nb m s b kd a)) ln df ++ rest)) : Wp D N l (EI M_Tn_serve) M_Tn_serve (Rm (d + 5) 0 0) (Qm D N K 0 0) 0 0 56 [(5, .ref (N + (15 + kd))), (4, .ref (N + (wA w + (5 + b)))), (3, .int (nI b)), (0, .ref (N + 1)), (1, .ref (N + wA w)), (2, .int (nI s))] [] (encC D N c x (va_up V w P) ln df ++ rest) := by
  refine wp_aload_n (q := 57) d_Tn_serve_56 rfl rfl ?_
  refine wp_aload_n (q := 58) d_Tn_serve_57 rfl rfl ?_
  refine wp_iload_n (q := 59) d_Tn_serve_58 rfl rfl ?_
  refine wp_cv2 (q := 62) lk_Tn_192 (ro _ _ _) d_Tn_serve_59 rfl (Nat.le_of_ble_eq_true rfl) (rfl) rfl (Nat.zero_le _) (Nat.zero_le _) ?_
  refine ok_Tn_factsOf (w := w) h12 hz hw em hm hb hs es ?_
  intro F hF
  refine wp_astore (q := 64) (L2 := [(6, _), (5, _), (4, _), (3, _), (0, _), (1, _), (2, _)]) d_Tn_serve_62 rfl (by decide) rfl ?_
  refine wp_bipush (q := 66) d_Tn_serve_64 rfl bp_100 ?_
  refine wp_aload (q := 68) d_Tn_serve_66 rfl rfl ?_
  refine wp_get (q := 71) fl_Tn_129 d_Tn_serve_68 rfl (rdR (w := w) hw hb) rfl ?_
  refine wp_imul (q := 72) d_Tn_serve_71 rfl ?_
  refine wp_aload (q := 74) d_Tn_serve_72 rfl rfl ?_
  refine wp_aload_n (q := 75) d_Tn_serve_74 rfl rfl ?_
  refine wp_aload (q := 77) d_Tn_serve_75 rfl rfl ?_
  refine wp_iconst (q := 78) d_Tn_serve_77 rfl ic_0 ?_
  refine wp_cv2 (q := 81) lk_Tn_196 (ro _ _ _) d_Tn_serve_78 rfl (Nat.le_of_ble_eq_true rfl) (rfl) rfl (Nat.zero_le _) (Nat.zero_le _) ?_
  refine ok_Tn_says (P := P) (nb := nb) (m := m) (s := s) (b := b) (key := 0) hs (by decide) hCI hLOK (fun f hf => by rw [tput_eq]; exact hF f hf) ?_
  refine wp_v_needOf lm_Tn_199 (ro _ _ _) d_Tn_serve_81 rfl (Nat.le_of_ble_eq_true rfl) hk (rdK hk) (Nat.zero_le _) (Nat.zero_le _) ?_
  refine wp_aload_n (q := 85) d_Tn_serve_84 rfl rfl ?_
  refine wp_get (q := 88) fl_Tn_21 d_Tn_serve_85 rfl rfl rfl ?_
  refine wp_iload_n (q := 89) d_Tn_serve_88 rfl rfl ?_
  refine wp_iald (q := 90) d_Tn_serve_89 rfl (rfl) (by omega) (by decide) ?_
  refine wp_imul (q := 91) d_Tn_serve_90 rfl ?_
  refine wp_icmp_lt (q := 94) (tgt := 107) d_Tn_serve_91 (by decide) rfl (fun hc_91 => ?_) (fun hc_91 => ?_)
  · refine wp_vret d_Tn_serve_107 rfl (Nat.le_refl _) (Nat.le_refl _) ?_
    first | exact kP (hK _) rfl (by rw [go2, if_neg (fun z => lt_le hc_91 z)]) | exact kP (hK _) rfl (by rw [go2, if_pos (nlt_le hc_91)])
  · refine wp_aload_n (q := 95) d_Tn_serve_94 rfl rfl ?_
    refine wp_aload_n (q := 96) d_Tn_serve_95 rfl rfl ?_
    refine wp_iload_n (q := 97) d_Tn_serve_96 rfl rfl ?_
    refine wp_aload_n (q := 98) d_Tn_serve_97 rfl rfl ?_
    refine wp_aload (q := 100) d_Tn_serve_98 rfl rfl ?_
    refine wp_iconst (q := 101) d_Tn_serve_100 rfl ic_1 ?_
    refine wp_cv2 (q := 104) lk_Tn_196 (ro _ _ _) d_Tn_serve_101 rfl (Nat.le_of_ble_eq_true rfl) (rfl) rfl (Nat.zero_le _) (Nat.zero_le _) ?_
    refine ok_Tn_says (P := P) (nb := nb) (m := m) (s := s) (b := b) (key := 1) hs (by decide) hCI hLOK (fun f hf => by rw [tput_eq]; exact hF f hf) ?_
    refine wp_cv3 (q := 107) lk_Tn_202 (ro _ _ _) d_Tn_serve_104 rfl (Nat.le_of_ble_eq_true rfl) (rfl) rfl (Nat.zero_le _) (Nat.zero_le _) ?_
    refine ok_Tn_leave (w := w) hw em hm hb hs es ek hk ea ha ?_
    refine wp_vret d_Tn_serve_107 rfl (Nat.le_refl _) (Nat.le_refl _) ?_
    first | exact kP (hK _) rfl (by rw [go2, if_neg (fun z => lt_le hc_91 z)]) | exact kP (hK _) rfl (by rw [go2, if_pos (nlt_le hc_91)])
set_option maxHeartbeats 4000000 in
set_option maxRecDepth 100000 in
theorem sv_mid {D : xD} {N : Nat} {l : Launch} {d : Nat} {c x V : T2} {P : Nat → Int32} {w : Nat} {ln df : Nat → Option Nat} {rest : List va_E} {K : Option Value → List va_E → Prop} {nb : Nat} (h12 : nb ≤ 12) (hz : ∀ b, nb ≤ b → b < 12 → P (72 + b) = nI 0) (hw : w < 3) {m : Nat} (em : P 234 = nI m) (hm : m < 14700) {b s : Nat} (hb : b < 12) (hs : s < 6) (es : P (84 + b) = nI s) {kd a : Nat} (ek : P (156 + b) = nI kd) (hk : kd < 6) (ea : P (108 + b) = nI a) (ha : a < 6) (hCI : CI c) (hLOK : LOK D N c ln rest) (hK : ∀ x2 : T2, K none (encC D N c x2 (va_up V w (sv2 c P nb m s b kd a)) ln df ++ rest)) : Wp D N l (EI M_Tn_serve) M_Tn_serve (Rm (d + 5) 0 0) (Qm D N K 0 0) 0 0 22 [(3, .int (nI b)), (0, .ref (N + 1)), (1, .ref (N + wA w)), (2, .int (nI s))] [] (encC D N c x (va_up V w P) ln df ++ rest) := by
  by_cases h25 : kd = 2 ∨ kd = 5
  · skip
    refine wp_aload_n (q := 23) d_Tn_serve_22 rfl rfl ?_
    refine wp_get (q := 26) fl_Tn_115 d_Tn_serve_23 rfl (rdO (w := w) hw) rfl ?_
    refine wp_iload_n (q := 27) d_Tn_serve_26 rfl rfl ?_
    refine wp_aldR (q := 28) d_Tn_serve_27 rfl (rd4 (w := w) hw) (by omega) (by decide) (rowsW_at (by omega)) ?_
    refine wp_astore (q := 30) (L2 := [(4, _), (3, _), (0, _), (1, _), (2, _)]) d_Tn_serve_28 rfl (by decide) rfl ?_
    refine wp_aload_n (q := 31) d_Tn_serve_30 rfl rfl ?_
    refine wp_get (q := 34) fl_Tn_47 d_Tn_serve_31 rfl rfl rfl ?_
    refine wp_aload (q := 36) d_Tn_serve_34 rfl rfl ?_
    refine wp_get (q := 39) fl_Tn_182 d_Tn_serve_36 rfl (rdR (w := w) hw hb) rfl ?_
    rw [ek]
    refine wp_aldK (q := 40) d_Tn_serve_39 rfl (rfl) (by omega) (by decide) (rows_at (by omega)) ?_
    refine wp_astore (q := 42) (L2 := [(5, _), (4, _), (3, _), (0, _), (1, _), (2, _)]) d_Tn_serve_40 rfl (by decide) rfl ?_
    refine wp_aload (q := 44) d_Tn_serve_42 rfl rfl ?_
    refine wp_v_carries lm_Tn_185 (ro _ _ _) d_Tn_serve_44 rfl (Nat.le_of_ble_eq_true rfl) hk (rdK hk) (Nat.zero_le _) (Nat.zero_le _) ?_
    rw [show kCar kd = nI 0 from if_pos h25]
    refine wp_if_eq_t (tgt := 56) d_Tn_serve_47 (by decide) (by decide) ?_
    exact sv_end h12 hz hw em hm hb hs es ek hk ea ha hCI hLOK (fun x2 => by have h := hK x2; rw [sv2, inN, if_pos h25, letP0] at h; exact h)
  · skip
    refine wp_aload_n (q := 23) d_Tn_serve_22 rfl rfl ?_
    refine wp_get (q := 26) fl_Tn_115 d_Tn_serve_23 rfl (rdO (w := w) hw) rfl ?_
    refine wp_iload_n (q := 27) d_Tn_serve_26 rfl rfl ?_
    refine wp_aldR (q := 28) d_Tn_serve_27 rfl (rd4 (w := w) hw) (by omega) (by decide) (rowsW_at (by omega)) ?_
    refine wp_astore (q := 30) (L2 := [(4, _), (3, _), (0, _), (1, _), (2, _)]) d_Tn_serve_28 rfl (by decide) rfl ?_
    refine wp_aload_n (q := 31) d_Tn_serve_30 rfl rfl ?_
    refine wp_get (q := 34) fl_Tn_47 d_Tn_serve_31 rfl rfl rfl ?_
    refine wp_aload (q := 36) d_Tn_serve_34 rfl rfl ?_
    refine wp_get (q := 39) fl_Tn_182 d_Tn_serve_36 rfl (rdR (w := w) hw hb) rfl ?_
    rw [ek]
    refine wp_aldK (q := 40) d_Tn_serve_39 rfl (rfl) (by omega) (by decide) (rows_at (by omega)) ?_
    refine wp_astore (q := 42) (L2 := [(5, _), (4, _), (3, _), (0, _), (1, _), (2, _)]) d_Tn_serve_40 rfl (by decide) rfl ?_
    refine wp_aload (q := 44) d_Tn_serve_42 rfl rfl ?_
    refine wp_v_carries lm_Tn_185 (ro _ _ _) d_Tn_serve_44 rfl (Nat.le_of_ble_eq_true rfl) hk (rdK hk) (Nat.zero_le _) (Nat.zero_le _) ?_
    rw [show kCar kd = nI 1 from if_neg h25]
    refine wp_if_eq_f (q := 50) (tgt := 56) d_Tn_serve_47 (by decide) rfl (by decide) ?_
    refine wp_aload_n (q := 51) d_Tn_serve_50 rfl rfl ?_
    refine wp_aload_n (q := 52) d_Tn_serve_51 rfl rfl ?_
    refine wp_iload_n (q := 53) d_Tn_serve_52 rfl rfl ?_
    refine wp_cv2 (q := 56) lk_Tn_189 (ro _ _ _) d_Tn_serve_53 rfl (Nat.le_of_ble_eq_true rfl) (rfl) rfl (Nat.zero_le _) (Nat.zero_le _) ?_
    refine ok_Tn_letIn (w := w) hw hb hs es ek hk ea ha ?_
    exact sv_end (P := letP P s a b (min5 (c 5 b - P (120 + b)) (P (6 * s + a)))) h12 (fun b2 h1 h2 => by unfold letP; simp (disch := omega) only [upd_ne]; exact hz b2 h1 h2) hw (by unfold letP; simp (disch := omega) only [upd_ne]; exact em) hm hb hs (by unfold letP; simp (disch := omega) only [upd_ne]; exact es) (by unfold letP; simp (disch := omega) only [upd_ne]; exact ek) hk (by unfold letP; simp (disch := omega) only [upd_ne]; exact ea) ha hCI hLOK (fun x2 => by have h := hK x2; rw [sv2, inN, if_neg h25] at h; exact h)
set_option maxHeartbeats 4000000 in
set_option maxRecDepth 100000 in
theorem ok_Tn_serve {D : xD} {N : Nat} {l : Launch} {d : Nat} {c x V : T2} {P : Nat → Int32} {w : Nat} {ln df : Nat → Option Nat} {rest : List va_E} {K : Option Value → List va_E → Prop} {nb : Nat} (h12 : nb ≤ 12) (hz : ∀ b, nb ≤ b → b < 12 → P (72 + b) = nI 0) (hw : w < 3) {m : Nat} (em : P 234 = nI m) (hm : m < 14700) (hr0 : ∀ i, i < 36 → (0 < c 2 i ↔ ¬ c 2 i = 0)) {s : Nat} (hs : s < 6) (hW : ∀ b, b < 12 → isN (P (156 + b)) 6 ∧ isN (P (108 + b)) 6) (h9 : ∀ b, b < 12 → isN (c 9 b) 6) (hCI : CI c) (hLOK : LOK D N c ln rest) (hK : ∀ x2 : T2, K none (encC D N c x2 (va_up V w (sv c P nb m s)) ln df ++ rest)) : Ok D N l (d + 5) M_Tn_serve [.ref (N + 1), .ref (N + wA w), .int (nI s)] (encC D N c x (va_up V w P) ln df ++ rest) 0 0 K := by
  refine ok_of (L := [(0, _), (1, _), (2, _)]) (by decide) (Nat.le_of_ble_eq_true rfl) rfl ?_
  cases h1 : lf P s nb with
  | some b =>
    obtain ⟨q1, q2, q3⟩ := lf_lt h1
    have hK : ∀ x2 : T2, K none (encC D N c x2 (va_up V w (sv2 c P nb m s b (tn (P (156 + b))) (tn (P (108 + b))))) ln df ++ rest) := fun x2 => by
      have h := hK x2
      rw [sv, h1] at h
      exact h
    refine wp_aload_n (q := 1) d_Tn_serve_0 rfl rfl ?_
    refine wp_iload_n (q := 2) d_Tn_serve_1 rfl rfl ?_
    refine wp_cv1 (q := 5) lk_Tn_175 (ro _ _ _) d_Tn_serve_2 rfl (Nat.le_of_ble_eq_true rfl) (rdO (w := w) hw) rfl (Nat.zero_le _) (Nat.zero_le _) ?_
    refine ok_Wd_loadingAt (w := w) hw hs ?_
    rw [lf_12 hz 12 h12 (Nat.le_refl _), h1]
    refine wp_istore_n (q := 6) (L2 := [(3, _), (0, _), (1, _), (2, _)]) d_Tn_serve_5 rfl (by decide) rfl ?_
    refine wp_iload_n (q := 7) d_Tn_serve_6 rfl rfl ?_
    refine wp_if_ge_t (tgt := 17) d_Tn_serve_7 (by decide) (nI_pos' (by omega)) ?_
    refine wp_iload_n (q := 18) d_Tn_serve_17 rfl rfl ?_
    refine wp_if_ge_t (tgt := 22) d_Tn_serve_18 (by decide) (nI_pos' (by omega)) ?_
    exact sv_mid h12 hz hw em hm (by omega) hs q3 (hW b (by omega)).1.1 (hW b (by omega)).1.2 (hW b (by omega)).2.1 (hW b (by omega)).2.2 hCI hLOK hK
  | none =>
    refine wp_aload_n (q := 1) d_Tn_serve_0 rfl rfl ?_
    refine wp_iload_n (q := 2) d_Tn_serve_1 rfl rfl ?_
    refine wp_cv1 (q := 5) lk_Tn_175 (ro _ _ _) d_Tn_serve_2 rfl (Nat.le_of_ble_eq_true rfl) (rdO (w := w) hw) rfl (Nat.zero_le _) (Nat.zero_le _) ?_
    refine ok_Wd_loadingAt (w := w) hw hs ?_
    rw [lf_12 hz 12 h12 (Nat.le_refl _), h1]
    refine wp_istore_n (q := 6) (L2 := [(3, _), (0, _), (1, _), (2, _)]) d_Tn_serve_5 rfl (by decide) rfl ?_
    refine wp_iload_n (q := 7) d_Tn_serve_6 rfl rfl ?_
    refine wp_if_ge_f (q := 10) (tgt := 17) d_Tn_serve_7 (by decide) rfl (by show ¬ (0 : Int32) ≤ -1; decide) ?_
    refine wp_aload_n (q := 11) d_Tn_serve_10 rfl rfl ?_
    refine wp_aload_n (q := 12) d_Tn_serve_11 rfl rfl ?_
    refine wp_iload_n (q := 13) d_Tn_serve_12 rfl rfl ?_
    refine wp_cv2 (q := 16) lk_Tn_178 (ro _ _ _) d_Tn_serve_13 rfl (Nat.le_of_ble_eq_true rfl) (rfl) rfl (Nat.zero_le _) (Nat.zero_le _) ?_
    refine ok_Tn_callUp (w := w) hw hr0 hs (fun hn => ?_) (fun b a h2 h3 => ?_)
    · have hK : ∀ x2 : T2, K none (encC D N c x2 (va_up V w P) ln df ++ rest) := fun x2 => by
        have h := hK x2
        rw [sv, h1] at h
        dsimp only at h
        rw [ff_12 hz 12 h12 (Nat.le_refl _)] at hn
        rcases hn with e | e
        · rw [e] at h; exact h
        · rw [e] at h; cases q : ff P s nb <;> rw [q] at h <;> exact h
      refine wp_istore_n (q := 17) (L2 := [(3, _), (0, _), (1, _), (2, _)]) d_Tn_serve_16 rfl (by decide) rfl ?_
      refine wp_iload_n (q := 18) d_Tn_serve_17 rfl rfl ?_
      refine wp_if_ge_f (q := 21) (tgt := 22) d_Tn_serve_18 (by decide) rfl (by decide) ?_
      refine wp_vret d_Tn_serve_21 rfl (Nat.le_refl _) (Nat.le_refl _) ?_
      exact hK x
    · obtain ⟨q1, q3⟩ := ff_lt h2
      have q4 := (am_lt h3).1
      have q5 := (ff_lt ((ff_12 hz 12 h12 (Nat.le_refl _)).symm.trans h2)).1
      have hK : ∀ x2 : T2, K none (encC D N c x2 (va_up V w (sv2 c (upP c P b a) nb m s b (tn (c 9 b)) a)) ln df ++ rest) := fun x2 => by
        have h := hK x2
        rw [sv, h1] at h
        dsimp only at h
        rw [ff_12 hz 12 h12 (Nat.le_refl _)] at h2
        rw [h2, h3] at h
        exact h
      refine wp_istore_n (q := 17) (L2 := [(3, _), (0, _), (1, _), (2, _)]) d_Tn_serve_16 rfl (by decide) rfl ?_
      refine wp_iload_n (q := 18) d_Tn_serve_17 rfl rfl ?_
      refine wp_if_ge_t (tgt := 22) d_Tn_serve_18 (by decide) (nI_pos' (by omega)) ?_
      exact sv_mid (P := upP c P b a) h12 (fun b2 g1 g2 => by unfold upP; simp (disch := omega) only [upd_ne]; exact hz b2 g1 g2) hw (by unfold upP; simp (disch := omega) only [upd_ne, upd_eq]; exact em) hm (by omega) hs (by unfold upP; simp (disch := omega) only [upd_ne, upd_eq]; exact q3.2) (by unfold upP; simp (disch := omega) only [upd_ne, upd_eq]; exact (h9 b (by omega)).1) (h9 b (by omega)).2 (by unfold upP; simp (disch := omega) only [upd_ne, upd_eq]) (by omega) hCI hLOK hK
