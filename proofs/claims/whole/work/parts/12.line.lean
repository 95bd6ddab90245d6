/-- a bus comes to queue -/
def lineP (P : Nat → Int32) (b s : Nat) : Nat → Int32 := upd (upd (upd (upd (upd (upd (upd P (72 + b) (nI 1)) (84 + b) (nI s)) (96 + b) (P (228 + s))) (228 + s) (P (228 + s) + nI 1)) (144 + b) (P 234)) (120 + b) (nI 0)) (132 + b) (nI 0)
theorem d_Wd_lineUp_0 : decode M_Wd_lineUp.2.1 0 = .ok (.aload_n 0, 1) := by decide +kernel
theorem d_Wd_lineUp_1 : decode M_Wd_lineUp.2.1 1 = .ok (.getfield 23, 3) := by decide +kernel
theorem d_Wd_lineUp_4 : decode M_Wd_lineUp.2.1 4 = .ok (.iload_n 1, 1) := by decide +kernel
theorem d_Wd_lineUp_5 : decode M_Wd_lineUp.2.1 5 = .ok (.aaload, 1) := by decide +kernel
theorem d_Wd_lineUp_6 : decode M_Wd_lineUp.2.1 6 = .ok (.astore_n 3, 1) := by decide +kernel
theorem d_Wd_lineUp_7 : decode M_Wd_lineUp.2.1 7 = .ok (.aload_n 3, 1) := by decide +kernel
theorem d_Wd_lineUp_8 : decode M_Wd_lineUp.2.1 8 = .ok (.iconst 1, 1) := by decide +kernel
theorem d_Wd_lineUp_9 : decode M_Wd_lineUp.2.1 9 = .ok (.putfield 54, 3) := by decide +kernel
theorem d_Wd_lineUp_12 : decode M_Wd_lineUp.2.1 12 = .ok (.aload_n 3, 1) := by decide +kernel
theorem d_Wd_lineUp_13 : decode M_Wd_lineUp.2.1 13 = .ok (.iload_n 2, 1) := by decide +kernel
theorem d_Wd_lineUp_14 : decode M_Wd_lineUp.2.1 14 = .ok (.putfield 57, 3) := by decide +kernel
theorem d_Wd_lineUp_17 : decode M_Wd_lineUp.2.1 17 = .ok (.aload_n 3, 1) := by decide +kernel
theorem d_Wd_lineUp_18 : decode M_Wd_lineUp.2.1 18 = .ok (.aload_n 0, 1) := by decide +kernel
theorem d_Wd_lineUp_19 : decode M_Wd_lineUp.2.1 19 = .ok (.getfield 18, 3) := by decide +kernel
theorem d_Wd_lineUp_22 : decode M_Wd_lineUp.2.1 22 = .ok (.iload_n 2, 1) := by decide +kernel
theorem d_Wd_lineUp_23 : decode M_Wd_lineUp.2.1 23 = .ok (.iaload, 1) := by decide +kernel
theorem d_Wd_lineUp_24 : decode M_Wd_lineUp.2.1 24 = .ok (.putfield 60, 3) := by decide +kernel
theorem d_Wd_lineUp_27 : decode M_Wd_lineUp.2.1 27 = .ok (.aload_n 3, 1) := by decide +kernel
theorem d_Wd_lineUp_28 : decode M_Wd_lineUp.2.1 28 = .ok (.aload_n 0, 1) := by decide +kernel
theorem d_Wd_lineUp_29 : decode M_Wd_lineUp.2.1 29 = .ok (.getfield 28, 3) := by decide +kernel
theorem d_Wd_lineUp_32 : decode M_Wd_lineUp.2.1 32 = .ok (.putfield 63, 3) := by decide +kernel
theorem d_Wd_lineUp_35 : decode M_Wd_lineUp.2.1 35 = .ok (.aload_n 3, 1) := by decide +kernel
theorem d_Wd_lineUp_36 : decode M_Wd_lineUp.2.1 36 = .ok (.iconst 0, 1) := by decide +kernel
theorem d_Wd_lineUp_37 : decode M_Wd_lineUp.2.1 37 = .ok (.putfield 66, 3) := by decide +kernel
theorem d_Wd_lineUp_40 : decode M_Wd_lineUp.2.1 40 = .ok (.aload_n 3, 1) := by decide +kernel
theorem d_Wd_lineUp_41 : decode M_Wd_lineUp.2.1 41 = .ok (.iconst 0, 1) := by decide +kernel
theorem d_Wd_lineUp_42 : decode M_Wd_lineUp.2.1 42 = .ok (.putfield 69, 3) := by decide +kernel
theorem d_Wd_lineUp_45 : decode M_Wd_lineUp.2.1 45 = .ok (.aload_n 0, 1) := by decide +kernel
theorem d_Wd_lineUp_46 : decode M_Wd_lineUp.2.1 46 = .ok (.getfield 18, 3) := by decide +kernel
theorem d_Wd_lineUp_49 : decode M_Wd_lineUp.2.1 49 = .ok (.iload_n 2, 1) := by decide +kernel
theorem d_Wd_lineUp_50 : decode M_Wd_lineUp.2.1 50 = .ok (.dup2, 1) := by decide +kernel
theorem d_Wd_lineUp_51 : decode M_Wd_lineUp.2.1 51 = .ok (.iaload, 1) := by decide +kernel
theorem d_Wd_lineUp_52 : decode M_Wd_lineUp.2.1 52 = .ok (.iconst 1, 1) := by decide +kernel
theorem d_Wd_lineUp_53 : decode M_Wd_lineUp.2.1 53 = .ok (.iadd, 1) := by decide +kernel
theorem d_Wd_lineUp_54 : decode M_Wd_lineUp.2.1 54 = .ok (.iastore, 1) := by decide +kernel
theorem d_Wd_lineUp_55 : decode M_Wd_lineUp.2.1 55 = .ok (.aload_n 3, 1) := by decide +kernel
theorem d_Wd_lineUp_56 : decode M_Wd_lineUp.2.1 56 = .ok (.getfield 60, 3) := by decide +kernel
theorem d_Wd_lineUp_59 : decode M_Wd_lineUp.2.1 59 = .ok (.ireturn, 1) := by decide +kernel
set_option maxHeartbeats 4000000 in
set_option maxRecDepth 100000 in
theorem ok_Wd_lineUp {D : xD} {N : Nat} {l : Launch} {d : Nat} {c x V : T2} {P : Nat → Int32} {w b s : Nat} {ln df : Nat → Option Nat} {rest : List va_E} {K : Option Value → List va_E → Prop} (hw : w < 3) (hb : b < 12) (hs : s < 6) (hK : K (some (.int (P (228 + s)))) (encC D N c x (va_up V w (lineP P b s)) ln df ++ rest)) : Ok D N l d M_Wd_lineUp [.ref (N + wA w), .int (nI b), .int (nI s)] (encC D N c x (va_up V w P) ln df ++ rest) 0 0 K := by
  refine ok_of (L := [(0, _), (1, _), (2, _)]) (by decide) (Nat.le_of_ble_eq_true rfl) rfl ?_
  refine wp_aload_n d_Wd_lineUp_0 rfl rfl ?_
  refine wp_get fl_Wd_23 d_Wd_lineUp_1 rfl (rdO (w := w) hw) rfl ?_
  refine wp_iload_n d_Wd_lineUp_4 rfl rfl ?_
  refine wp_aldR d_Wd_lineUp_5 rfl (rd4 (w := w) hw) (by omega) (by decide) (rowsW_at (by omega)) ?_
  refine wp_astore_n (L2 := [(3, _), (0, _), (1, _), (2, _)]) d_Wd_lineUp_6 rfl (by decide) rfl ?_
  refine wp_aload_n d_Wd_lineUp_7 rfl rfl ?_
  refine wp_iconst d_Wd_lineUp_8 rfl ic_1 ?_
  refine wp_put fl_Wd_54 d_Wd_lineUp_9 rfl (rdR (w := w) hw hb) (Nat.le_of_ble_eq_true rfl) rfl rfl (fdw (w := w) hw (by omega) (ws_r0 hb)) ?_
  refine wp_aload_n d_Wd_lineUp_12 rfl rfl ?_
  refine wp_iload_n d_Wd_lineUp_13 rfl rfl ?_
  refine wp_put fl_Wd_57 d_Wd_lineUp_14 rfl (rdR (w := w) hw hb) (Nat.le_of_ble_eq_true rfl) rfl rfl (fdw (w := w) hw (by omega) (ws_r1 hb)) ?_
  refine wp_aload_n d_Wd_lineUp_17 rfl rfl ?_
  refine wp_aload_n d_Wd_lineUp_18 rfl rfl ?_
  refine wp_get fl_Wd_18 d_Wd_lineUp_19 rfl (rdO (w := w) hw) rfl ?_
  refine wp_iload_n d_Wd_lineUp_22 rfl rfl ?_
  refine wp_iald d_Wd_lineUp_23 rfl (rd3 (w := w) hw) (by omega) (by decide) ?_
  refine wp_put fl_Wd_60 d_Wd_lineUp_24 rfl (rdR (w := w) hw hb) (Nat.le_of_ble_eq_true rfl) rfl rfl (fdw (w := w) hw (by omega) (ws_r2 hb)) ?_
  refine wp_aload_n d_Wd_lineUp_27 rfl rfl ?_
  refine wp_aload_n d_Wd_lineUp_28 rfl rfl ?_
  refine wp_get fl_Wd_28 d_Wd_lineUp_29 rfl (rdO (w := w) hw) rfl ?_
  refine wp_put fl_Wd_63 d_Wd_lineUp_32 rfl (rdR (w := w) hw hb) (Nat.le_of_ble_eq_true rfl) rfl rfl (fdw (w := w) hw (by omega) (ws_r6 hb)) ?_
  refine wp_aload_n d_Wd_lineUp_35 rfl rfl ?_
  refine wp_iconst d_Wd_lineUp_36 rfl ic_0 ?_
  refine wp_put fl_Wd_66 d_Wd_lineUp_37 rfl (rdR (w := w) hw hb) (Nat.le_of_ble_eq_true rfl) rfl rfl (fdw (w := w) hw (by omega) (ws_r4 hb)) ?_
  refine wp_aload_n d_Wd_lineUp_40 rfl rfl ?_
  refine wp_iconst d_Wd_lineUp_41 rfl ic_0 ?_
  refine wp_put fl_Wd_69 d_Wd_lineUp_42 rfl (rdR (w := w) hw hb) (Nat.le_of_ble_eq_true rfl) rfl rfl (fdw (w := w) hw (by omega) (ws_r5 hb)) ?_
  refine wp_aload_n d_Wd_lineUp_45 rfl rfl ?_
  refine wp_get fl_Wd_18 d_Wd_lineUp_46 rfl (rdO (w := w) hw) rfl ?_
  refine wp_iload_n d_Wd_lineUp_49 rfl rfl ?_
  refine wp_dup2 d_Wd_lineUp_50 rfl rfl rfl ?_
  refine wp_iald d_Wd_lineUp_51 rfl (rd3 (w := w) hw) (by omega) (by decide) ?_
  refine wp_iconst d_Wd_lineUp_52 rfl ic_1 ?_
  first | refine wp_iaddN d_Wd_lineUp_53 rfl ?_ | refine wp_iadd d_Wd_lineUp_53 rfl ?_
  refine wp_iast d_Wd_lineUp_54 rfl (rd3 (w := w) hw) (by omega) (by decide) (fdw (w := w) (i := 3) hw (by decide) (ws_n (by omega))) ?_
  refine wp_aload_n d_Wd_lineUp_55 rfl rfl ?_
  refine wp_get fl_Wd_60 d_Wd_lineUp_56 rfl (rdR (w := w) hw hb) rfl ?_
  refine wp_iret d_Wd_lineUp_59 rfl (Nat.le_refl _) (Nat.le_refl _) ?_
  refine kP hK ?_ ?_
  · simp (disch := omega) only [sl_at hs, upd_ne, upd_eq]
  · unfold lineP
    simp (disch := omega) only [sl_at hs, upd_ne, upd_eq]
    funext i
    simp only [upd]
    repeat' split
    all_goals first | rfl | omega
theorem d_Rf_queuesAt_0 : decode M_Rf_queuesAt.2.1 0 = .ok (.aload_n 0, 1) := by decide +kernel
theorem d_Rf_queuesAt_1 : decode M_Rf_queuesAt.2.1 1 = .ok (.getfield 7, 3) := by decide +kernel
theorem d_Rf_queuesAt_4 : decode M_Rf_queuesAt.2.1 4 = .ok (.bipush 72, 2) := by decide +kernel
theorem d_Rf_queuesAt_6 : decode M_Rf_queuesAt.2.1 6 = .ok (.iload_n 1, 1) := by decide +kernel
theorem d_Rf_queuesAt_7 : decode M_Rf_queuesAt.2.1 7 = .ok (.iadd, 1) := by decide +kernel
theorem d_Rf_queuesAt_8 : decode M_Rf_queuesAt.2.1 8 = .ok (.iconst 1, 1) := by decide +kernel
theorem d_Rf_queuesAt_9 : decode M_Rf_queuesAt.2.1 9 = .ok (.iastore, 1) := by decide +kernel
theorem d_Rf_queuesAt_10 : decode M_Rf_queuesAt.2.1 10 = .ok (.aload_n 0, 1) := by decide +kernel
theorem d_Rf_queuesAt_11 : decode M_Rf_queuesAt.2.1 11 = .ok (.getfield 7, 3) := by decide +kernel
theorem d_Rf_queuesAt_14 : decode M_Rf_queuesAt.2.1 14 = .ok (.bipush 84, 2) := by decide +kernel
theorem d_Rf_queuesAt_16 : decode M_Rf_queuesAt.2.1 16 = .ok (.iload_n 1, 1) := by decide +kernel
theorem d_Rf_queuesAt_17 : decode M_Rf_queuesAt.2.1 17 = .ok (.iadd, 1) := by decide +kernel
theorem d_Rf_queuesAt_18 : decode M_Rf_queuesAt.2.1 18 = .ok (.iload_n 2, 1) := by decide +kernel
theorem d_Rf_queuesAt_19 : decode M_Rf_queuesAt.2.1 19 = .ok (.iastore, 1) := by decide +kernel
theorem d_Rf_queuesAt_20 : decode M_Rf_queuesAt.2.1 20 = .ok (.aload_n 0, 1) := by decide +kernel
theorem d_Rf_queuesAt_21 : decode M_Rf_queuesAt.2.1 21 = .ok (.getfield 7, 3) := by decide +kernel
theorem d_Rf_queuesAt_24 : decode M_Rf_queuesAt.2.1 24 = .ok (.bipush 96, 2) := by decide +kernel
theorem d_Rf_queuesAt_26 : decode M_Rf_queuesAt.2.1 26 = .ok (.iload_n 1, 1) := by decide +kernel
theorem d_Rf_queuesAt_27 : decode M_Rf_queuesAt.2.1 27 = .ok (.iadd, 1) := by decide +kernel
theorem d_Rf_queuesAt_28 : decode M_Rf_queuesAt.2.1 28 = .ok (.aload_n 0, 1) := by decide +kernel
theorem d_Rf_queuesAt_29 : decode M_Rf_queuesAt.2.1 29 = .ok (.getfield 7, 3) := by decide +kernel
theorem d_Rf_queuesAt_32 : decode M_Rf_queuesAt.2.1 32 = .ok (.sipush 228, 3) := by decide +kernel
theorem d_Rf_queuesAt_35 : decode M_Rf_queuesAt.2.1 35 = .ok (.iload_n 2, 1) := by decide +kernel
theorem d_Rf_queuesAt_36 : decode M_Rf_queuesAt.2.1 36 = .ok (.iadd, 1) := by decide +kernel
theorem d_Rf_queuesAt_37 : decode M_Rf_queuesAt.2.1 37 = .ok (.iaload, 1) := by decide +kernel
theorem d_Rf_queuesAt_38 : decode M_Rf_queuesAt.2.1 38 = .ok (.iastore, 1) := by decide +kernel
theorem d_Rf_queuesAt_39 : decode M_Rf_queuesAt.2.1 39 = .ok (.aload_n 0, 1) := by decide +kernel
theorem d_Rf_queuesAt_40 : decode M_Rf_queuesAt.2.1 40 = .ok (.getfield 7, 3) := by decide +kernel
theorem d_Rf_queuesAt_43 : decode M_Rf_queuesAt.2.1 43 = .ok (.sipush 228, 3) := by decide +kernel
theorem d_Rf_queuesAt_46 : decode M_Rf_queuesAt.2.1 46 = .ok (.iload_n 2, 1) := by decide +kernel
theorem d_Rf_queuesAt_47 : decode M_Rf_queuesAt.2.1 47 = .ok (.iadd, 1) := by decide +kernel
theorem d_Rf_queuesAt_48 : decode M_Rf_queuesAt.2.1 48 = .ok (.dup2, 1) := by decide +kernel
theorem d_Rf_queuesAt_49 : decode M_Rf_queuesAt.2.1 49 = .ok (.iaload, 1) := by decide +kernel
theorem d_Rf_queuesAt_50 : decode M_Rf_queuesAt.2.1 50 = .ok (.iconst 1, 1) := by decide +kernel
theorem d_Rf_queuesAt_51 : decode M_Rf_queuesAt.2.1 51 = .ok (.iadd, 1) := by decide +kernel
theorem d_Rf_queuesAt_52 : decode M_Rf_queuesAt.2.1 52 = .ok (.iastore, 1) := by decide +kernel
theorem d_Rf_queuesAt_53 : decode M_Rf_queuesAt.2.1 53 = .ok (.aload_n 0, 1) := by decide +kernel
theorem d_Rf_queuesAt_54 : decode M_Rf_queuesAt.2.1 54 = .ok (.getfield 7, 3) := by decide +kernel
theorem d_Rf_queuesAt_57 : decode M_Rf_queuesAt.2.1 57 = .ok (.sipush 144, 3) := by decide +kernel
theorem d_Rf_queuesAt_60 : decode M_Rf_queuesAt.2.1 60 = .ok (.iload_n 1, 1) := by decide +kernel
theorem d_Rf_queuesAt_61 : decode M_Rf_queuesAt.2.1 61 = .ok (.iadd, 1) := by decide +kernel
theorem d_Rf_queuesAt_62 : decode M_Rf_queuesAt.2.1 62 = .ok (.aload_n 0, 1) := by decide +kernel
theorem d_Rf_queuesAt_63 : decode M_Rf_queuesAt.2.1 63 = .ok (.getfield 7, 3) := by decide +kernel
theorem d_Rf_queuesAt_66 : decode M_Rf_queuesAt.2.1 66 = .ok (.sipush 234, 3) := by decide +kernel
theorem d_Rf_queuesAt_69 : decode M_Rf_queuesAt.2.1 69 = .ok (.iaload, 1) := by decide +kernel
theorem d_Rf_queuesAt_70 : decode M_Rf_queuesAt.2.1 70 = .ok (.iastore, 1) := by decide +kernel
theorem d_Rf_queuesAt_71 : decode M_Rf_queuesAt.2.1 71 = .ok (.aload_n 0, 1) := by decide +kernel
theorem d_Rf_queuesAt_72 : decode M_Rf_queuesAt.2.1 72 = .ok (.getfield 7, 3) := by decide +kernel
theorem d_Rf_queuesAt_75 : decode M_Rf_queuesAt.2.1 75 = .ok (.bipush 120, 2) := by decide +kernel
theorem d_Rf_queuesAt_77 : decode M_Rf_queuesAt.2.1 77 = .ok (.iload_n 1, 1) := by decide +kernel
theorem d_Rf_queuesAt_78 : decode M_Rf_queuesAt.2.1 78 = .ok (.iadd, 1) := by decide +kernel
theorem d_Rf_queuesAt_79 : decode M_Rf_queuesAt.2.1 79 = .ok (.iconst 0, 1) := by decide +kernel
theorem d_Rf_queuesAt_80 : decode M_Rf_queuesAt.2.1 80 = .ok (.iastore, 1) := by decide +kernel
theorem d_Rf_queuesAt_81 : decode M_Rf_queuesAt.2.1 81 = .ok (.aload_n 0, 1) := by decide +kernel
theorem d_Rf_queuesAt_82 : decode M_Rf_queuesAt.2.1 82 = .ok (.getfield 7, 3) := by decide +kernel
theorem d_Rf_queuesAt_85 : decode M_Rf_queuesAt.2.1 85 = .ok (.sipush 132, 3) := by decide +kernel
theorem d_Rf_queuesAt_88 : decode M_Rf_queuesAt.2.1 88 = .ok (.iload_n 1, 1) := by decide +kernel
theorem d_Rf_queuesAt_89 : decode M_Rf_queuesAt.2.1 89 = .ok (.iadd, 1) := by decide +kernel
theorem d_Rf_queuesAt_90 : decode M_Rf_queuesAt.2.1 90 = .ok (.iconst 0, 1) := by decide +kernel
theorem d_Rf_queuesAt_91 : decode M_Rf_queuesAt.2.1 91 = .ok (.iastore, 1) := by decide +kernel
theorem d_Rf_queuesAt_92 : decode M_Rf_queuesAt.2.1 92 = .ok (.return_, 1) := by decide +kernel
set_option maxHeartbeats 4000000 in
set_option maxRecDepth 100000 in
theorem ok_Rf_queuesAt {D : xD} {N : Nat} {l : Launch} {d : Nat} {c z : T2} {P Q : Nat → Int32} {rest : List va_E} {K : Option Value → List va_E → Prop} {b s : Nat} (hb : b < 12) (hs : s < 6) (hK : K none (encR D N c z (lineP P b s) Q ++ rest)) : Ok D N l d M_Rf_queuesAt [.ref (N + 0), .int (nI b), .int (nI s)] (encR D N c z P Q ++ rest) 0 0 K := by
  refine ok_of (L := [(0, _), (1, _), (2, _)]) (by decide) (Nat.le_of_ble_eq_true rfl) rfl ?_
  refine wp_aload_n d_Rf_queuesAt_0 rfl rfl ?_
  refine wp_get fl_Rf_7 d_Rf_queuesAt_1 rfl rfl rfl ?_
  refine wp_bipush d_Rf_queuesAt_4 rfl bp_72 ?_
  refine wp_iload_n d_Rf_queuesAt_6 rfl rfl ?_
  first | refine wp_iaddN d_Rf_queuesAt_7 rfl ?_ | refine wp_iadd d_Rf_queuesAt_7 rfl ?_
  refine wp_iconst d_Rf_queuesAt_8 rfl ic_1 ?_
  refine wp_iast d_Rf_queuesAt_9 rfl (rfl) (by omega) (by decide) (fr_P) ?_
  refine wp_aload_n d_Rf_queuesAt_10 rfl rfl ?_
  refine wp_get fl_Rf_7 d_Rf_queuesAt_11 rfl rfl rfl ?_
  refine wp_bipush d_Rf_queuesAt_14 rfl bp_84 ?_
  refine wp_iload_n d_Rf_queuesAt_16 rfl rfl ?_
  first | refine wp_iaddN d_Rf_queuesAt_17 rfl ?_ | refine wp_iadd d_Rf_queuesAt_17 rfl ?_
  refine wp_iload_n d_Rf_queuesAt_18 rfl rfl ?_
  refine wp_iast d_Rf_queuesAt_19 rfl (rfl) (by omega) (by decide) (fr_P) ?_
  refine wp_aload_n d_Rf_queuesAt_20 rfl rfl ?_
  refine wp_get fl_Rf_7 d_Rf_queuesAt_21 rfl rfl rfl ?_
  refine wp_bipush d_Rf_queuesAt_24 rfl bp_96 ?_
  refine wp_iload_n d_Rf_queuesAt_26 rfl rfl ?_
  first | refine wp_iaddN d_Rf_queuesAt_27 rfl ?_ | refine wp_iadd d_Rf_queuesAt_27 rfl ?_
  refine wp_aload_n d_Rf_queuesAt_28 rfl rfl ?_
  refine wp_get fl_Rf_7 d_Rf_queuesAt_29 rfl rfl rfl ?_
  refine wp_sipush d_Rf_queuesAt_32 rfl sp_228 ?_
  refine wp_iload_n d_Rf_queuesAt_35 rfl rfl ?_
  first | refine wp_iaddN d_Rf_queuesAt_36 rfl ?_ | refine wp_iadd d_Rf_queuesAt_36 rfl ?_
  refine wp_iald d_Rf_queuesAt_37 rfl (rfl) (by omega) (by decide) ?_
  refine wp_iast d_Rf_queuesAt_38 rfl (rfl) (by omega) (by decide) (fr_P) ?_
  refine wp_aload_n d_Rf_queuesAt_39 rfl rfl ?_
  refine wp_get fl_Rf_7 d_Rf_queuesAt_40 rfl rfl rfl ?_
  refine wp_sipush d_Rf_queuesAt_43 rfl sp_228 ?_
  refine wp_iload_n d_Rf_queuesAt_46 rfl rfl ?_
  first | refine wp_iaddN d_Rf_queuesAt_47 rfl ?_ | refine wp_iadd d_Rf_queuesAt_47 rfl ?_
  refine wp_dup2 d_Rf_queuesAt_48 rfl rfl rfl ?_
  refine wp_iald d_Rf_queuesAt_49 rfl (rfl) (by omega) (by decide) ?_
  refine wp_iconst d_Rf_queuesAt_50 rfl ic_1 ?_
  first | refine wp_iaddN d_Rf_queuesAt_51 rfl ?_ | refine wp_iadd d_Rf_queuesAt_51 rfl ?_
  refine wp_iast d_Rf_queuesAt_52 rfl (rfl) (by omega) (by decide) (fr_P) ?_
  refine wp_aload_n d_Rf_queuesAt_53 rfl rfl ?_
  refine wp_get fl_Rf_7 d_Rf_queuesAt_54 rfl rfl rfl ?_
  refine wp_sipush d_Rf_queuesAt_57 rfl sp_144 ?_
  refine wp_iload_n d_Rf_queuesAt_60 rfl rfl ?_
  first | refine wp_iaddN d_Rf_queuesAt_61 rfl ?_ | refine wp_iadd d_Rf_queuesAt_61 rfl ?_
  refine wp_aload_n d_Rf_queuesAt_62 rfl rfl ?_
  refine wp_get fl_Rf_7 d_Rf_queuesAt_63 rfl rfl rfl ?_
  refine wp_sipush d_Rf_queuesAt_66 rfl sp_234 ?_
  refine wp_iald d_Rf_queuesAt_69 rfl (rfl) (by omega) (by decide) ?_
  refine wp_iast d_Rf_queuesAt_70 rfl (rfl) (by omega) (by decide) (fr_P) ?_
  refine wp_aload_n d_Rf_queuesAt_71 rfl rfl ?_
  refine wp_get fl_Rf_7 d_Rf_queuesAt_72 rfl rfl rfl ?_
  refine wp_bipush d_Rf_queuesAt_75 rfl bp_120 ?_
  refine wp_iload_n d_Rf_queuesAt_77 rfl rfl ?_
  first | refine wp_iaddN d_Rf_queuesAt_78 rfl ?_ | refine wp_iadd d_Rf_queuesAt_78 rfl ?_
  refine wp_iconst d_Rf_queuesAt_79 rfl ic_0 ?_
  refine wp_iast d_Rf_queuesAt_80 rfl (rfl) (by omega) (by decide) (fr_P) ?_
  refine wp_aload_n d_Rf_queuesAt_81 rfl rfl ?_
  refine wp_get fl_Rf_7 d_Rf_queuesAt_82 rfl rfl rfl ?_
  refine wp_sipush d_Rf_queuesAt_85 rfl sp_132 ?_
  refine wp_iload_n d_Rf_queuesAt_88 rfl rfl ?_
  first | refine wp_iaddN d_Rf_queuesAt_89 rfl ?_ | refine wp_iadd d_Rf_queuesAt_89 rfl ?_
  refine wp_iconst d_Rf_queuesAt_90 rfl ic_0 ?_
  refine wp_iast d_Rf_queuesAt_91 rfl (rfl) (by omega) (by decide) (fr_P) ?_
  refine wp_vret d_Rf_queuesAt_92 rfl (Nat.le_refl _) (Nat.le_refl _) ?_
  refine kR hK rfl ?_
  unfold lineP
  simp (disch := omega) only [upd_ne, upd_eq]
