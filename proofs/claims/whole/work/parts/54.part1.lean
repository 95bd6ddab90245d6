theorem d_FG_sideIn_0 : decode M_FG_sideIn.2.1 0 = .ok (.iload_n 0, 1) := by decide +kernel
theorem d_FG_sideIn_1 : decode M_FG_sideIn.2.1 1 = .ok (.iconst 2, 1) := by decide +kernel
theorem d_FG_sideIn_2 : decode M_FG_sideIn.2.1 2 = .ok (.iload_n 1, 1) := by decide +kernel
theorem d_FG_sideIn_3 : decode M_FG_sideIn.2.1 3 = .ok (.iconst 1, 1) := by decide +kernel
theorem d_FG_sideIn_4 : decode M_FG_sideIn.2.1 4 = .ok (.isub, 1) := by decide +kernel
theorem d_FG_sideIn_5 : decode M_FG_sideIn.2.1 5 = .ok (.iload_n 2, 1) := by decide +kernel
theorem d_FG_sideIn_6 : decode M_FG_sideIn.2.1 6 = .ok (.isub, 1) := by decide +kernel
theorem d_FG_sideIn_7 : decode M_FG_sideIn.2.1 7 = .ok (.imul, 1) := by decide +kernel
theorem d_FG_sideIn_8 : decode M_FG_sideIn.2.1 8 = .ok (.ishr, 1) := by decide +kernel
theorem d_FG_sideIn_9 : decode M_FG_sideIn.2.1 9 = .ok (.iconst 3, 1) := by decide +kernel
theorem d_FG_sideIn_10 : decode M_FG_sideIn.2.1 10 = .ok (.iand, 1) := by decide +kernel
theorem d_FG_sideIn_11 : decode M_FG_sideIn.2.1 11 = .ok (.ireturn, 1) := by decide +kernel
set_option maxHeartbeats 4000000 in
set_option maxRecDepth 100000 in
theorem ok_FG_sideIn {D : xD} {N : Nat} {l : Launch} {d : Nat} {g : List va_E} {K : Option Value → List va_E → Prop} {p R r : Nat} (hp : p < 4096) (hR : R ≤ 6) (hr : r < R) (hK : K (some (.int (nI (pdg p R r)))) g) : Ok D N l d M_FG_sideIn [.int (nI p), .int (nI R), .int (nI r)] g 0 0 K := by
  refine ok_of (L := [(0, _), (1, _), (2, _)]) (by decide) (Nat.le_of_ble_eq_true rfl) rfl ?_
  refine wp_iload_n (q := 1) d_FG_sideIn_0 rfl rfl ?_
  refine wp_iconst (q := 2) d_FG_sideIn_1 rfl ic_2 ?_
  refine wp_iload_n (q := 3) d_FG_sideIn_2 rfl rfl ?_
  refine wp_iconst (q := 4) d_FG_sideIn_3 rfl ic_1 ?_
  refine wp_isubN (q := 5) d_FG_sideIn_4 rfl (by omega) ?_
  refine wp_iload_n (q := 6) d_FG_sideIn_5 rfl rfl ?_
  refine wp_isubN (q := 7) d_FG_sideIn_6 rfl (by omega) ?_
  first | refine wp_imulN (q := 8) d_FG_sideIn_7 rfl ?_ | refine wp_imul (q := 8) d_FG_sideIn_7 rfl ?_
  refine wp_ishr (q := 9) d_FG_sideIn_8 rfl ?_
  refine wp_iconst (q := 10) d_FG_sideIn_9 rfl ic_3 ?_
  refine wp_iand (q := 11) d_FG_sideIn_10 rfl ?_
  rw [sh_dig (by omega) hp]
  refine wp_iret d_FG_sideIn_11 rfl (Nat.le_refl _) (Nat.le_refl _) ?_
  exact hK
theorem d_FG_isQuiet_0 : decode M_FG_isQuiet.2.1 0 = .ok (.iconst 0, 1) := by decide +kernel
theorem d_FG_isQuiet_1 : decode M_FG_isQuiet.2.1 1 = .ok (.istore 4, 2) := by decide +kernel
theorem d_FG_isQuiet_3 : decode M_FG_isQuiet.2.1 3 = .ok (.iload 4, 2) := by decide +kernel
theorem d_FG_isQuiet_5 : decode M_FG_isQuiet.2.1 5 = .ok (.iload_n 3, 1) := by decide +kernel
theorem d_FG_isQuiet_6 : decode M_FG_isQuiet.2.1 6 = .ok (.if_icmp .ge 36, 3) := by decide +kernel
theorem d_FG_isQuiet_9 : decode M_FG_isQuiet.2.1 9 = .ok (.aload_n 0, 1) := by decide +kernel
theorem d_FG_isQuiet_10 : decode M_FG_isQuiet.2.1 10 = .ok (.getfield 38, 3) := by decide +kernel
theorem d_FG_isQuiet_13 : decode M_FG_isQuiet.2.1 13 = .ok (.iload_n 1, 1) := by decide +kernel
theorem d_FG_isQuiet_14 : decode M_FG_isQuiet.2.1 14 = .ok (.aaload, 1) := by decide +kernel
theorem d_FG_isQuiet_15 : decode M_FG_isQuiet.2.1 15 = .ok (.iload 4, 2) := by decide +kernel
theorem d_FG_isQuiet_17 : decode M_FG_isQuiet.2.1 17 = .ok (.iaload, 1) := by decide +kernel
theorem d_FG_isQuiet_18 : decode M_FG_isQuiet.2.1 18 = .ok (.aload_n 0, 1) := by decide +kernel
theorem d_FG_isQuiet_19 : decode M_FG_isQuiet.2.1 19 = .ok (.getfield 275, 3) := by decide +kernel
theorem d_FG_isQuiet_22 : decode M_FG_isQuiet.2.1 22 = .ok (.isub, 1) := by decide +kernel
theorem d_FG_isQuiet_23 : decode M_FG_isQuiet.2.1 23 = .ok (.aload_n 0, 1) := by decide +kernel
theorem d_FG_isQuiet_24 : decode M_FG_isQuiet.2.1 24 = .ok (.getfield 38, 3) := by decide +kernel
theorem d_FG_isQuiet_27 : decode M_FG_isQuiet.2.1 27 = .ok (.iload_n 1, 1) := by decide +kernel
theorem d_FG_isQuiet_28 : decode M_FG_isQuiet.2.1 28 = .ok (.aaload, 1) := by decide +kernel
theorem d_FG_isQuiet_29 : decode M_FG_isQuiet.2.1 29 = .ok (.iload_n 2, 1) := by decide +kernel
theorem d_FG_isQuiet_30 : decode M_FG_isQuiet.2.1 30 = .ok (.iaload, 1) := by decide +kernel
theorem d_FG_isQuiet_31 : decode M_FG_isQuiet.2.1 31 = .ok (.if_icmp .le 5, 3) := by decide +kernel
theorem d_FG_isQuiet_34 : decode M_FG_isQuiet.2.1 34 = .ok (.iconst 0, 1) := by decide +kernel
theorem d_FG_isQuiet_35 : decode M_FG_isQuiet.2.1 35 = .ok (.ireturn, 1) := by decide +kernel
theorem d_FG_isQuiet_36 : decode M_FG_isQuiet.2.1 36 = .ok (.iinc 4 1, 3) := by decide +kernel
theorem d_FG_isQuiet_39 : decode M_FG_isQuiet.2.1 39 = .ok (.goto (-36), 3) := by decide +kernel
theorem d_FG_isQuiet_42 : decode M_FG_isQuiet.2.1 42 = .ok (.iconst 1, 1) := by decide +kernel
theorem d_FG_isQuiet_43 : decode M_FG_isQuiet.2.1 43 = .ok (.ireturn, 1) := by decide +kernel
set_option maxHeartbeats 4000000 in
set_option maxRecDepth 100000 in
theorem ok_FG_isQuiet {D : xD} {N : Nat} {l : Launch} {d : Nat} {c x V : T2} {ln df : Nat → Option Nat} {rest : List va_E} {K : Option Value → List va_E → Prop} {r b S : Nat} (hr : r < 6) (hb : b < 4) (hS : S ≤ 4) (h1 : qtB c S r b → K (some (.int (nI 1))) (encC D N c x V ln df ++ rest)) (h0 : ¬ qtB c S r b → K (some (.int (nI 0))) (encC D N c x V ln df ++ rest)) : Ok D N l d M_FG_isQuiet [.ref (N + 0), .int (nI r), .int (nI b), .int (nI S)] (encC D N c x V ln df ++ rest) 0 0 K := by
  have lp : ∀ k : Nat, k ≤ S → (∀ j, j < k → ¬ c 11 (4 * r + b) < c 11 (4 * r + j) - c 32 3) → Wp D N l (EI M_FG_isQuiet) M_FG_isQuiet (Rm d 0 0) (Qm D N K 0 0) 0 0 3 [(4, .int (nI k)), (0, .ref (N + 0)), (1, .int (nI r)), (2, .int (nI b)), (3, .int (nI S))] [] (encC D N c x V ln df ++ rest) := by
    refine up_loop ?_ ?_
    · intro hq
      refine wp_iload (q := 5) d_FG_isQuiet_3 rfl rfl ?_
      refine wp_iload_n (q := 6) d_FG_isQuiet_5 rfl rfl ?_
      refine wp_icmp_ge_t (tgt := 42) d_FG_isQuiet_6 (by decide) (nI_le (Nat.le_refl _) (by omega)) ?_
      refine wp_iconst (q := 43) d_FG_isQuiet_42 rfl ic_1 ?_
      refine wp_zret d_FG_isQuiet_43 rfl (rfl) (Nat.le_refl _) (Nat.le_refl _) ?_
      exact h1 hq
    · intro k hk ih hq
      refine wp_iload (q := 5) d_FG_isQuiet_3 rfl rfl ?_
      refine wp_iload_n (q := 6) d_FG_isQuiet_5 rfl rfl ?_
      refine wp_icmp_ge_f (q := 9) (tgt := 42) d_FG_isQuiet_6 (by decide) rfl (nI_ge hk (by omega)) ?_
      refine wp_aload_n (q := 10) d_FG_isQuiet_9 rfl rfl ?_
      refine wp_get (q := 13) fl_FG_38 d_FG_isQuiet_10 rfl rfl rfl ?_
      refine wp_iload_n (q := 14) d_FG_isQuiet_13 rfl rfl ?_
      refine wp_aldA (q := 15) d_FG_isQuiet_14 rfl (rfl) (by omega) (by decide) (rows_at (by omega)) ?_
      refine wp_iload (q := 17) d_FG_isQuiet_15 rfl rfl ?_
      refine wp_iald (q := 18) d_FG_isQuiet_17 rfl (rd_gain (by omega)) (by omega) (by decide) ?_
      rw [sl_at (show k < 4 by omega)]
      refine wp_aload_n (q := 19) d_FG_isQuiet_18 rfl rfl ?_
      refine wp_get (q := 22) fl_FG_275 d_FG_isQuiet_19 rfl rfl rfl ?_
      refine wp_isub (q := 23) d_FG_isQuiet_22 rfl ?_
      refine wp_aload_n (q := 24) d_FG_isQuiet_23 rfl rfl ?_
      refine wp_get (q := 27) fl_FG_38 d_FG_isQuiet_24 rfl rfl rfl ?_
      refine wp_iload_n (q := 28) d_FG_isQuiet_27 rfl rfl ?_
      refine wp_aldA (q := 29) d_FG_isQuiet_28 rfl (rfl) (by omega) (by decide) (rows_at (by omega)) ?_
      refine wp_iload_n (q := 30) d_FG_isQuiet_29 rfl rfl ?_
      refine wp_iald (q := 31) d_FG_isQuiet_30 rfl (rd_gain (by omega)) (by omega) (by decide) ?_
      rw [sl_at (show b < 4 by omega)]
      refine wp_icmp_le (q := 34) (tgt := 36) d_FG_isQuiet_31 (by decide) rfl (fun hc_31 => ?_) (fun hc_31 => ?_)
      · refine wp_iinc (q := 39) (L2 := [(4, _), (0, _), (1, _), (2, _), (3, _)]) d_FG_isQuiet_36 rfl rfl (iinc_1) (by decide) rfl ?_
        refine wp_goto (tgt := 3) d_FG_isQuiet_39 (by decide) ?_
        exact ih (fun j hj => (Nat.lt_or_ge j k).elim (hq j) (fun q => by rw [show j = k by omega]; exact le_nlt hc_31))
      · refine wp_iconst (q := 35) d_FG_isQuiet_34 rfl ic_0 ?_
        refine wp_zret d_FG_isQuiet_35 rfl (rfl) (Nat.le_refl _) (Nat.le_refl _) ?_
        exact h0 (fun g => g k hk (nle_lt hc_31))
  refine ok_of (L := [(0, _), (1, _), (2, _), (3, _)]) (by decide) (Nat.le_of_ble_eq_true rfl) rfl ?_
  refine wp_iconst (q := 1) d_FG_isQuiet_0 rfl ic_0 ?_
  refine wp_istore (q := 3) (L2 := [(4, _), (0, _), (1, _), (2, _), (3, _)]) d_FG_isQuiet_1 rfl (by decide) rfl ?_
  exact lp 0 (Nat.zero_le _) (fun j hj => absurd hj (Nat.not_lt_zero _))
theorem d_FG_quietGain_0 : decode M_FG_quietGain.2.1 0 = .ok (.iconst 0, 1) := by decide +kernel
theorem d_FG_quietGain_1 : decode M_FG_quietGain.2.1 1 = .ok (.istore 5, 2) := by decide +kernel
theorem d_FG_quietGain_3 : decode M_FG_quietGain.2.1 3 = .ok (.iconst 0, 1) := by decide +kernel
theorem d_FG_quietGain_4 : decode M_FG_quietGain.2.1 4 = .ok (.istore 6, 2) := by decide +kernel
theorem d_FG_quietGain_6 : decode M_FG_quietGain.2.1 6 = .ok (.iconst 0, 1) := by decide +kernel
theorem d_FG_quietGain_7 : decode M_FG_quietGain.2.1 7 = .ok (.istore 7, 2) := by decide +kernel
theorem d_FG_quietGain_9 : decode M_FG_quietGain.2.1 9 = .ok (.iload 7, 2) := by decide +kernel
theorem d_FG_quietGain_11 : decode M_FG_quietGain.2.1 11 = .ok (.iload_n 2, 1) := by decide +kernel
theorem d_FG_quietGain_12 : decode M_FG_quietGain.2.1 12 = .ok (.if_icmp .ge 81, 3) := by decide +kernel
theorem d_FG_quietGain_15 : decode M_FG_quietGain.2.1 15 = .ok (.iload_n 1, 1) := by decide +kernel
theorem d_FG_quietGain_16 : decode M_FG_quietGain.2.1 16 = .ok (.iload_n 2, 1) := by decide +kernel
theorem d_FG_quietGain_17 : decode M_FG_quietGain.2.1 17 = .ok (.iload 7, 2) := by decide +kernel
theorem d_FG_quietGain_19 : decode M_FG_quietGain.2.1 19 = .ok (.invokestatic 281, 3) := by decide +kernel
theorem d_FG_quietGain_22 : decode M_FG_quietGain.2.1 22 = .ok (.istore 8, 2) := by decide +kernel
theorem d_FG_quietGain_24 : decode M_FG_quietGain.2.1 24 = .ok (.iload 8, 2) := by decide +kernel
theorem d_FG_quietGain_26 : decode M_FG_quietGain.2.1 26 = .ok (.iload_n 3, 1) := by decide +kernel
theorem d_FG_quietGain_27 : decode M_FG_quietGain.2.1 27 = .ok (.if_icmp .ge 15, 3) := by decide +kernel
theorem d_FG_quietGain_30 : decode M_FG_quietGain.2.1 30 = .ok (.aload_n 0, 1) := by decide +kernel
theorem d_FG_quietGain_31 : decode M_FG_quietGain.2.1 31 = .ok (.iload 7, 2) := by decide +kernel
theorem d_FG_quietGain_33 : decode M_FG_quietGain.2.1 33 = .ok (.iload 8, 2) := by decide +kernel
theorem d_FG_quietGain_35 : decode M_FG_quietGain.2.1 35 = .ok (.iload_n 3, 1) := by decide +kernel
theorem d_FG_quietGain_36 : decode M_FG_quietGain.2.1 36 = .ok (.invokevirtual 316, 3) := by decide +kernel
theorem d_FG_quietGain_39 : decode M_FG_quietGain.2.1 39 = .ok (.ifCond .ne 5, 3) := by decide +kernel
theorem d_FG_quietGain_42 : decode M_FG_quietGain.2.1 42 = .ok (.iconst (-1), 1) := by decide +kernel
theorem d_FG_quietGain_43 : decode M_FG_quietGain.2.1 43 = .ok (.ireturn, 1) := by decide +kernel
theorem d_FG_quietGain_44 : decode M_FG_quietGain.2.1 44 = .ok (.iload 6, 2) := by decide +kernel
theorem d_FG_quietGain_46 : decode M_FG_quietGain.2.1 46 = .ok (.iconst 1, 1) := by decide +kernel
theorem d_FG_quietGain_47 : decode M_FG_quietGain.2.1 47 = .ok (.iconst 4, 1) := by decide +kernel
theorem d_FG_quietGain_48 : decode M_FG_quietGain.2.1 48 = .ok (.iload 8, 2) := by decide +kernel
theorem d_FG_quietGain_50 : decode M_FG_quietGain.2.1 50 = .ok (.imul, 1) := by decide +kernel
theorem d_FG_quietGain_51 : decode M_FG_quietGain.2.1 51 = .ok (.ishl, 1) := by decide +kernel
theorem d_FG_quietGain_52 : decode M_FG_quietGain.2.1 52 = .ok (.iadd, 1) := by decide +kernel
theorem d_FG_quietGain_53 : decode M_FG_quietGain.2.1 53 = .ok (.istore 6, 2) := by decide +kernel
theorem d_FG_quietGain_55 : decode M_FG_quietGain.2.1 55 = .ok (.iload 6, 2) := by decide +kernel
theorem d_FG_quietGain_57 : decode M_FG_quietGain.2.1 57 = .ok (.iconst 4, 1) := by decide +kernel
theorem d_FG_quietGain_58 : decode M_FG_quietGain.2.1 58 = .ok (.iload 8, 2) := by decide +kernel
theorem d_FG_quietGain_60 : decode M_FG_quietGain.2.1 60 = .ok (.imul, 1) := by decide +kernel
theorem d_FG_quietGain_61 : decode M_FG_quietGain.2.1 61 = .ok (.ishr, 1) := by decide +kernel
theorem d_FG_quietGain_62 : decode M_FG_quietGain.2.1 62 = .ok (.bipush 15, 2) := by decide +kernel
theorem d_FG_quietGain_64 : decode M_FG_quietGain.2.1 64 = .ok (.iand, 1) := by decide +kernel
theorem d_FG_quietGain_65 : decode M_FG_quietGain.2.1 65 = .ok (.iload 4, 2) := by decide +kernel
theorem d_FG_quietGain_67 : decode M_FG_quietGain.2.1 67 = .ok (.if_icmp .le 5, 3) := by decide +kernel
theorem d_FG_quietGain_70 : decode M_FG_quietGain.2.1 70 = .ok (.iconst (-1), 1) := by decide +kernel
theorem d_FG_quietGain_71 : decode M_FG_quietGain.2.1 71 = .ok (.ireturn, 1) := by decide +kernel
theorem d_FG_quietGain_72 : decode M_FG_quietGain.2.1 72 = .ok (.iload 5, 2) := by decide +kernel
theorem d_FG_quietGain_74 : decode M_FG_quietGain.2.1 74 = .ok (.aload_n 0, 1) := by decide +kernel
theorem d_FG_quietGain_75 : decode M_FG_quietGain.2.1 75 = .ok (.getfield 38, 3) := by decide +kernel
theorem d_FG_quietGain_78 : decode M_FG_quietGain.2.1 78 = .ok (.iload 7, 2) := by decide +kernel
theorem d_FG_quietGain_80 : decode M_FG_quietGain.2.1 80 = .ok (.aaload, 1) := by decide +kernel
theorem d_FG_quietGain_81 : decode M_FG_quietGain.2.1 81 = .ok (.iload 8, 2) := by decide +kernel
theorem d_FG_quietGain_83 : decode M_FG_quietGain.2.1 83 = .ok (.iaload, 1) := by decide +kernel
theorem d_FG_quietGain_84 : decode M_FG_quietGain.2.1 84 = .ok (.iadd, 1) := by decide +kernel
theorem d_FG_quietGain_85 : decode M_FG_quietGain.2.1 85 = .ok (.istore 5, 2) := by decide +kernel
theorem d_FG_quietGain_87 : decode M_FG_quietGain.2.1 87 = .ok (.iinc 7 1, 3) := by decide +kernel
theorem d_FG_quietGain_90 : decode M_FG_quietGain.2.1 90 = .ok (.goto (-81), 3) := by decide +kernel
theorem d_FG_quietGain_93 : decode M_FG_quietGain.2.1 93 = .ok (.iload 5, 2) := by decide +kernel
theorem d_FG_quietGain_95 : decode M_FG_quietGain.2.1 95 = .ok (.ireturn, 1) := by decide +kernel
set_option maxHeartbeats 4000000 in
set_option maxRecDepth 100000 in
theorem ok_FG_quietGain {D : xD} {N : Nat} {l : Launch} {d : Nat} {c x V : T2} {ln df : Nat → Option Nat} {rest : List va_E} {K : Option Value → List va_E → Prop} {p R S M : Nat} (hp : p < 4096) (hR6 : R ≤ 6) (hS4 : S ≤ 4) (hM6 : M ≤ 6) (h1 : okA c S M (pdg p R) R → K (some (.int (smA c (pdg p R) R))) (encC D N c x V ln df ++ rest)) (h0 : ¬ okA c S M (pdg p R) R → K (some (.int (-1))) (encC D N c x V ln df ++ rest)) : Ok D N l (d + 1) M_FG_quietGain [.ref (N + 0), .int (nI p), .int (nI R), .int (nI S), .int (nI M)] (encC D N c x V ln df ++ rest) 0 0 K := by
  have lp : ∀ r : Nat, r ≤ R → okA c S M (pdg p R) r → Wp D N l (EI M_FG_quietGain) M_FG_quietGain (Rm (d + 1) 0 0) (Qm D N K 0 0) 0 0 9 [(7, .int (nI r)), (6, .int (nI (hasN (pdg p R) r))), (5, .int (smA c (pdg p R) r)), (0, .ref (N + 0)), (1, .int (nI p)), (2, .int (nI R)), (3, .int (nI S)), (4, .int (nI M))] [] (encC D N c x V ln df ++ rest) := by
    refine up_loop ?_ ?_
    · intro hq
      refine wp_iload (q := 11) d_FG_quietGain_9 rfl rfl ?_
      refine wp_iload_n (q := 12) d_FG_quietGain_11 rfl rfl ?_
      refine wp_icmp_ge_t (tgt := 93) d_FG_quietGain_12 (by decide) (nI_le (Nat.le_refl _) (by omega)) ?_
      refine wp_iload (q := 95) d_FG_quietGain_93 rfl rfl ?_
      refine wp_iret d_FG_quietGain_95 rfl (Nat.le_refl _) (Nat.le_refl _) ?_
      exact h1 hq
    · intro r hr ih hq
      have hd4 : pdg p R r < 4 := pdg_lt p R r
      refine wp_iload (q := 11) d_FG_quietGain_9 rfl rfl ?_
      refine wp_iload_n (q := 12) d_FG_quietGain_11 rfl rfl ?_
      refine wp_icmp_ge_f (q := 15) (tgt := 93) d_FG_quietGain_12 (by decide) rfl (nI_ge hr (by omega)) ?_
      refine wp_iload_n (q := 16) d_FG_quietGain_15 rfl rfl ?_
      refine wp_iload_n (q := 17) d_FG_quietGain_16 rfl rfl ?_
      refine wp_iload (q := 19) d_FG_quietGain_17 rfl rfl ?_
      refine wp_cs3 (q := 22) lk_FG_281 (ro _ _ _) d_FG_quietGain_19 rfl (Nat.le_of_ble_eq_true rfl) (Nat.zero_le _) (Nat.zero_le _) ?_
      refine ok_FG_sideIn hp hR6 hr ?_
      refine wp_istore (q := 24) (L2 := [(8, _), (7, _), (6, _), (5, _), (0, _), (1, _), (2, _), (3, _), (4, _)]) d_FG_quietGain_22 rfl (by decide) rfl ?_
      refine wp_iload (q := 26) d_FG_quietGain_24 rfl rfl ?_
      refine wp_iload_n (q := 27) d_FG_quietGain_26 rfl rfl ?_
      refine wp_icmp_ge (q := 30) (tgt := 42) d_FG_quietGain_27 (by decide) rfl (fun hc_27 => ?_) (fun hc_27 => ?_)
      · refine wp_iconst (q := 43) d_FG_quietGain_42 rfl ic_m1 ?_
        refine wp_iret d_FG_quietGain_43 rfl (Nat.le_refl _) (Nat.le_refl _) ?_
        exact h0 (fun g => lt_le (nI_lt (g r hr).1 (by omega)) hc_27)
      · refine wp_aload_n (q := 31) d_FG_quietGain_30 rfl rfl ?_
        refine wp_iload (q := 33) d_FG_quietGain_31 rfl rfl ?_
        refine wp_iload (q := 35) d_FG_quietGain_33 rfl rfl ?_
        refine wp_iload_n (q := 36) d_FG_quietGain_35 rfl rfl ?_
        refine wp_cv3 (q := 39) lk_FG_316 (ro _ _ _) d_FG_quietGain_36 rfl (Nat.le_of_ble_eq_true rfl) (rfl) rfl (Nat.zero_le _) (Nat.zero_le _) ?_
        refine ok_FG_isQuiet (by omega) hd4 hS4 (fun hqt => ?_) (fun hqt => ?_)
        · refine wp_if_ne_t (tgt := 44) d_FG_quietGain_39 (by decide) (by decide) ?_
          refine wp_iload (q := 46) d_FG_quietGain_44 rfl rfl ?_
          refine wp_iconst (q := 47) d_FG_quietGain_46 rfl ic_1 ?_
          refine wp_iconst (q := 48) d_FG_quietGain_47 rfl ic_4 ?_
          refine wp_iload (q := 50) d_FG_quietGain_48 rfl rfl ?_
          first | refine wp_imulN (q := 51) d_FG_quietGain_50 rfl ?_ | refine wp_imul (q := 51) d_FG_quietGain_50 rfl ?_
          refine wp_ishl (q := 52) d_FG_quietGain_51 rfl ?_
          rw [sh_16 _ hd4]
          first | refine wp_iaddN (q := 53) d_FG_quietGain_52 rfl ?_ | refine wp_iadd (q := 53) d_FG_quietGain_52 rfl ?_
          rw [← has_s hd4]
          refine wp_istore (q := 55) (L2 := [(6, _), (8, _), (7, _), (5, _), (0, _), (1, _), (2, _), (3, _), (4, _)]) d_FG_quietGain_53 rfl (by decide) rfl ?_
          refine wp_iload (q := 57) d_FG_quietGain_55 rfl rfl ?_
          refine wp_iconst (q := 58) d_FG_quietGain_57 rfl ic_4 ?_
          refine wp_iload (q := 60) d_FG_quietGain_58 rfl rfl ?_
          first | refine wp_imulN (q := 61) d_FG_quietGain_60 rfl ?_ | refine wp_imul (q := 61) d_FG_quietGain_60 rfl ?_
          refine wp_ishr (q := 62) d_FG_quietGain_61 rfl ?_
          refine wp_bipush (q := 64) d_FG_quietGain_62 rfl bp_15 ?_
          refine wp_iand (q := 65) d_FG_quietGain_64 rfl ?_
          rw [hs_at hd4 (by omega)]
          refine wp_iload (q := 67) d_FG_quietGain_65 rfl rfl ?_
          refine wp_icmp_le (q := 70) (tgt := 72) d_FG_quietGain_67 (by decide) rfl (fun hc_67 => ?_) (fun hc_67 => ?_)
          · refine wp_iload (q := 74) d_FG_quietGain_72 rfl rfl ?_
            refine wp_aload_n (q := 75) d_FG_quietGain_74 rfl rfl ?_
            refine wp_get (q := 78) fl_FG_38 d_FG_quietGain_75 rfl rfl rfl ?_
            refine wp_iload (q := 80) d_FG_quietGain_78 rfl rfl ?_
            refine wp_aldA (q := 81) d_FG_quietGain_80 rfl (rfl) (by omega) (by decide) (rows_at (by omega)) ?_
            refine wp_iload (q := 83) d_FG_quietGain_81 rfl rfl ?_
            refine wp_iald (q := 84) d_FG_quietGain_83 rfl (rd_gain (by omega)) (by omega) (by decide) ?_
            rw [sl_at (show pdg p R r < 4 from hd4)]
            first | refine wp_iaddN (q := 85) d_FG_quietGain_84 rfl ?_ | refine wp_iadd (q := 85) d_FG_quietGain_84 rfl ?_
            refine wp_istore (q := 87) (L2 := [(5, _), (6, _), (8, _), (7, _), (0, _), (1, _), (2, _), (3, _), (4, _)]) d_FG_quietGain_85 rfl (by decide) rfl ?_
            refine wp_iinc (q := 90) (L2 := [(7, _), (5, _), (6, _), (8, _), (0, _), (1, _), (2, _), (3, _), (4, _)]) d_FG_quietGain_87 rfl rfl (iinc_1) (by decide) rfl ?_
            refine wp_goto (tgt := 9) d_FG_quietGain_90 (by decide) ?_
            refine wp_sub [0, 2, 1, 4, 5, 6, 7, 8] rfl ?_
            exact ih (fun j hj => (Nat.lt_or_ge j r).elim (hq j) (fun q => by rw [show j = r by omega]; exact ⟨Nat.lt_of_not_le (fun g => hc_27 (nI_le g (by omega))), hqt, (nI_leI (by have := cntA_le (pdg p R) (pdg p R r) (r + 1); omega) (by omega)).mp hc_67⟩))
          · refine wp_iconst (q := 71) d_FG_quietGain_70 rfl ic_m1 ?_
            refine wp_iret d_FG_quietGain_71 rfl (Nat.le_refl _) (Nat.le_refl _) ?_
            exact h0 (fun g => hc_67 (nI_le (g r hr).2.2 (by omega)))
        · refine wp_if_ne_f (q := 42) (tgt := 44) d_FG_quietGain_39 (by decide) rfl (by decide) ?_
          refine wp_iconst (q := 43) d_FG_quietGain_42 rfl ic_m1 ?_
          refine wp_iret d_FG_quietGain_43 rfl (Nat.le_refl _) (Nat.le_refl _) ?_
          exact h0 (fun g => hqt (g r hr).2.1)
  refine ok_of (L := [(0, _), (1, _), (2, _), (3, _), (4, _)]) (by decide) (Nat.le_of_ble_eq_true rfl) rfl ?_
  refine wp_iconst (q := 1) d_FG_quietGain_0 rfl ic_0 ?_
  refine wp_istore (q := 3) (L2 := [(5, _), (0, _), (1, _), (2, _), (3, _), (4, _)]) d_FG_quietGain_1 rfl (by decide) rfl ?_
  refine wp_iconst (q := 4) d_FG_quietGain_3 rfl ic_0 ?_
  refine wp_istore (q := 6) (L2 := [(6, _), (5, _), (0, _), (1, _), (2, _), (3, _), (4, _)]) d_FG_quietGain_4 rfl (by decide) rfl ?_
  refine wp_iconst (q := 7) d_FG_quietGain_6 rfl ic_0 ?_
  refine wp_istore (q := 9) (L2 := [(7, _), (6, _), (5, _), (0, _), (1, _), (2, _), (3, _), (4, _)]) d_FG_quietGain_7 rfl (by decide) rfl ?_
  exact lp 0 (Nat.zero_le _) (fun j hj => absurd hj (Nat.not_lt_zero _))
theorem d_FG_part_0 : decode M_FG_part.2.1 0 = .ok (.iload_n 1, 1) := by decide +kernel
theorem d_FG_part_1 : decode M_FG_part.2.1 1 = .ok (.iconst 1, 1) := by decide +kernel
theorem d_FG_part_2 : decode M_FG_part.2.1 2 = .ok (.bipush 6, 2) := by decide +kernel
theorem d_FG_part_4 : decode M_FG_part.2.1 4 = .ok (.invokestatic 61, 3) := by decide +kernel
theorem d_FG_part_7 : decode M_FG_part.2.1 7 = .ok (.ifCond .eq 22, 3) := by decide +kernel
theorem d_FG_part_10 : decode M_FG_part.2.1 10 = .ok (.iload_n 2, 1) := by decide +kernel
theorem d_FG_part_11 : decode M_FG_part.2.1 11 = .ok (.iconst 1, 1) := by decide +kernel
theorem d_FG_part_12 : decode M_FG_part.2.1 12 = .ok (.iconst 4, 1) := by decide +kernel
theorem d_FG_part_13 : decode M_FG_part.2.1 13 = .ok (.invokestatic 61, 3) := by decide +kernel
theorem d_FG_part_16 : decode M_FG_part.2.1 16 = .ok (.ifCond .eq 13, 3) := by decide +kernel
theorem d_FG_part_19 : decode M_FG_part.2.1 19 = .ok (.iload_n 3, 1) := by decide +kernel
theorem d_FG_part_20 : decode M_FG_part.2.1 20 = .ok (.iconst 1, 1) := by decide +kernel
theorem d_FG_part_21 : decode M_FG_part.2.1 21 = .ok (.bipush 6, 2) := by decide +kernel
theorem d_FG_part_23 : decode M_FG_part.2.1 23 = .ok (.invokestatic 61, 3) := by decide +kernel
theorem d_FG_part_26 : decode M_FG_part.2.1 26 = .ok (.ifCond .ne 6, 3) := by decide +kernel
theorem d_FG_part_29 : decode M_FG_part.2.1 29 = .ok (.bipush (-2), 2) := by decide +kernel
theorem d_FG_part_31 : decode M_FG_part.2.1 31 = .ok (.ireturn, 1) := by decide +kernel
theorem d_FG_part_32 : decode M_FG_part.2.1 32 = .ok (.iload 4, 2) := by decide +kernel
theorem d_FG_part_34 : decode M_FG_part.2.1 34 = .ok (.bipush (-2), 2) := by decide +kernel
theorem d_FG_part_36 : decode M_FG_part.2.1 36 = .ok (.iload_n 1, 1) := by decide +kernel
theorem d_FG_part_37 : decode M_FG_part.2.1 37 = .ok (.iconst 1, 1) := by decide +kernel
theorem d_FG_part_38 : decode M_FG_part.2.1 38 = .ok (.isub, 1) := by decide +kernel
theorem d_FG_part_39 : decode M_FG_part.2.1 39 = .ok (.invokestatic 61, 3) := by decide +kernel
theorem d_FG_part_42 : decode M_FG_part.2.1 42 = .ok (.ifCond .ne 6, 3) := by decide +kernel
theorem d_FG_part_45 : decode M_FG_part.2.1 45 = .ok (.bipush (-5), 2) := by decide +kernel
theorem d_FG_part_47 : decode M_FG_part.2.1 47 = .ok (.ireturn, 1) := by decide +kernel
theorem d_FG_part_48 : decode M_FG_part.2.1 48 = .ok (.iconst 0, 1) := by decide +kernel
theorem d_FG_part_49 : decode M_FG_part.2.1 49 = .ok (.istore 5, 2) := by decide +kernel
theorem d_FG_part_51 : decode M_FG_part.2.1 51 = .ok (.iconst (-1), 1) := by decide +kernel
theorem d_FG_part_52 : decode M_FG_part.2.1 52 = .ok (.istore 6, 2) := by decide +kernel
theorem d_FG_part_54 : decode M_FG_part.2.1 54 = .ok (.iconst 0, 1) := by decide +kernel
theorem d_FG_part_55 : decode M_FG_part.2.1 55 = .ok (.istore 7, 2) := by decide +kernel
theorem d_FG_part_57 : decode M_FG_part.2.1 57 = .ok (.iconst 0, 1) := by decide +kernel
theorem d_FG_part_58 : decode M_FG_part.2.1 58 = .ok (.istore 8, 2) := by decide +kernel
theorem d_FG_part_60 : decode M_FG_part.2.1 60 = .ok (.iload 8, 2) := by decide +kernel
theorem d_FG_part_62 : decode M_FG_part.2.1 62 = .ok (.iconst 1, 1) := by decide +kernel
theorem d_FG_part_63 : decode M_FG_part.2.1 63 = .ok (.iconst 2, 1) := by decide +kernel
theorem d_FG_part_64 : decode M_FG_part.2.1 64 = .ok (.iload_n 1, 1) := by decide +kernel
theorem d_FG_part_65 : decode M_FG_part.2.1 65 = .ok (.imul, 1) := by decide +kernel
theorem d_FG_part_66 : decode M_FG_part.2.1 66 = .ok (.ishl, 1) := by decide +kernel
theorem d_FG_part_67 : decode M_FG_part.2.1 67 = .ok (.if_icmp .ge 46, 3) := by decide +kernel
theorem d_FG_part_70 : decode M_FG_part.2.1 70 = .ok (.aload_n 0, 1) := by decide +kernel
theorem d_FG_part_71 : decode M_FG_part.2.1 71 = .ok (.iload 8, 2) := by decide +kernel
theorem d_FG_part_73 : decode M_FG_part.2.1 73 = .ok (.iload_n 1, 1) := by decide +kernel
theorem d_FG_part_74 : decode M_FG_part.2.1 74 = .ok (.iload_n 2, 1) := by decide +kernel
theorem d_FG_part_75 : decode M_FG_part.2.1 75 = .ok (.iload_n 3, 1) := by decide +kernel
theorem d_FG_part_76 : decode M_FG_part.2.1 76 = .ok (.invokevirtual 278, 3) := by decide +kernel
theorem d_FG_part_79 : decode M_FG_part.2.1 79 = .ok (.istore 9, 2) := by decide +kernel
theorem d_FG_part_81 : decode M_FG_part.2.1 81 = .ok (.iload 9, 2) := by decide +kernel
theorem d_FG_part_83 : decode M_FG_part.2.1 83 = .ok (.ifCond .ge 6, 3) := by decide +kernel
theorem d_FG_part_86 : decode M_FG_part.2.1 86 = .ok (.goto 21, 3) := by decide +kernel
theorem d_FG_part_89 : decode M_FG_part.2.1 89 = .ok (.iinc 5 1, 3) := by decide +kernel
theorem d_FG_part_92 : decode M_FG_part.2.1 92 = .ok (.iload 9, 2) := by decide +kernel
theorem d_FG_part_94 : decode M_FG_part.2.1 94 = .ok (.iload 6, 2) := by decide +kernel
theorem d_FG_part_96 : decode M_FG_part.2.1 96 = .ok (.if_icmp .le 11, 3) := by decide +kernel
theorem d_FG_part_99 : decode M_FG_part.2.1 99 = .ok (.iload 9, 2) := by decide +kernel
theorem d_FG_part_101 : decode M_FG_part.2.1 101 = .ok (.istore 6, 2) := by decide +kernel
theorem d_FG_part_103 : decode M_FG_part.2.1 103 = .ok (.iload 8, 2) := by decide +kernel
theorem d_FG_part_105 : decode M_FG_part.2.1 105 = .ok (.istore 7, 2) := by decide +kernel
theorem d_FG_part_107 : decode M_FG_part.2.1 107 = .ok (.iinc 8 1, 3) := by decide +kernel
theorem d_FG_part_110 : decode M_FG_part.2.1 110 = .ok (.goto (-50), 3) := by decide +kernel
theorem d_FG_part_113 : decode M_FG_part.2.1 113 = .ok (.iload 4, 2) := by decide +kernel
theorem d_FG_part_115 : decode M_FG_part.2.1 115 = .ok (.bipush (-2), 2) := by decide +kernel
theorem d_FG_part_117 : decode M_FG_part.2.1 117 = .ok (.if_icmp .ne 6, 3) := by decide +kernel
theorem d_FG_part_120 : decode M_FG_part.2.1 120 = .ok (.iload 5, 2) := by decide +kernel
theorem d_FG_part_122 : decode M_FG_part.2.1 122 = .ok (.ireturn, 1) := by decide +kernel
theorem d_FG_part_123 : decode M_FG_part.2.1 123 = .ok (.iload 5, 2) := by decide +kernel
theorem d_FG_part_125 : decode M_FG_part.2.1 125 = .ok (.ifCond .ne 6, 3) := by decide +kernel
theorem d_FG_part_128 : decode M_FG_part.2.1 128 = .ok (.bipush (-3), 2) := by decide +kernel
theorem d_FG_part_130 : decode M_FG_part.2.1 130 = .ok (.ireturn, 1) := by decide +kernel
theorem d_FG_part_131 : decode M_FG_part.2.1 131 = .ok (.iload 4, 2) := by decide +kernel
theorem d_FG_part_133 : decode M_FG_part.2.1 133 = .ok (.iconst (-1), 1) := by decide +kernel
theorem d_FG_part_134 : decode M_FG_part.2.1 134 = .ok (.if_icmp .ne 8, 3) := by decide +kernel
theorem d_FG_part_137 : decode M_FG_part.2.1 137 = .ok (.iload 6, 2) := by decide +kernel
theorem d_FG_part_139 : decode M_FG_part.2.1 139 = .ok (.goto 11, 3) := by decide +kernel
theorem d_FG_part_142 : decode M_FG_part.2.1 142 = .ok (.iload 7, 2) := by decide +kernel
theorem d_FG_part_144 : decode M_FG_part.2.1 144 = .ok (.iload_n 1, 1) := by decide +kernel
theorem d_FG_part_145 : decode M_FG_part.2.1 145 = .ok (.iload 4, 2) := by decide +kernel
theorem d_FG_part_147 : decode M_FG_part.2.1 147 = .ok (.invokestatic 281, 3) := by decide +kernel
theorem d_FG_part_150 : decode M_FG_part.2.1 150 = .ok (.ireturn, 1) := by decide +kernel
theorem sh_4 : ∀ R, R ≤ 6 → nI 1 <<< (nI (2 * R) &&& 31) = nI (4 ^ R) := by decide +kernel
theorem pow4 : ∀ R, R ≤ 6 → 4 ^ R ≤ 4096 := by decide
theorem powS : ∀ R, R ≤ 6 → ∀ S, S ≤ 4 → S ^ R ≤ 4096 := by decide +kernel
set_option maxHeartbeats 4000000 in
set_option maxRecDepth 100000 in
theorem pt_FG_part {D : xD} {N : Nat} {l : Launch} {d : Nat} {c x V : T2} {ln df : Nat → Option Nat} {rest : List va_E} {K : Option Value → List va_E → Prop} {R S M : Nat} {i : Int32} (hR6 : R ≤ 6) (hS1 : 1 ≤ S) (hS4 : S ≤ 4) (hM6 : M ≤ 6) (hG : GI c) (hi : ¬ i = -2 → ¬ i = -1 → ∃ i1, i1 < R ∧ i = nI i1) (hK : K (some (.int (prt c R S M i))) (encC D N c x V ln df ++ rest)) : ∀ p : Nat, p ≤ 4 ^ R → ∀ bp, bp < 4 ^ R → (∀ r, r < R → pdg bp R r = sdg S (rN c R S M (psN S R p)).2.2 R r) → Wp D N l (EI M_FG_part) M_FG_part (Rm (d + 2) 0 0) (Qm D N K 0 0) 0 0 60 [(8, .int (nI p)), (7, .int (nI bp)), (6, .int (rN c R S M (psN S R p)).2.1), (5, .int (nI (rN c R S M (psN S R p)).1)), (0, .ref (N + 0)), (1, .int (nI R)), (2, .int (nI S)), (3, .int (nI M)), (4, .int i)] [] (encC D N c x V ln df ++ rest) := by
  have h4 := pow4 R hR6
  have hSR := powS R hR6 S hS4
  refine up_loop ?_ ?_
  · intro bp hbl hbp
    refine wp_iload (q := 62) d_FG_part_60 rfl rfl ?_
    refine wp_iconst (q := 63) d_FG_part_62 rfl ic_1 ?_
    refine wp_iconst (q := 64) d_FG_part_63 rfl ic_2 ?_
    refine wp_iload_n (q := 65) d_FG_part_64 rfl rfl ?_
    first | refine wp_imulN (q := 66) d_FG_part_65 rfl ?_ | refine wp_imul (q := 66) d_FG_part_65 rfl ?_
    refine wp_ishl (q := 67) d_FG_part_66 rfl ?_
    rw [sh_4 _ hR6]
    refine wp_icmp_ge_t (tgt := 113) d_FG_part_67 (by decide) (nI_le (Nat.le_refl _) (by omega)) ?_
    refine wp_iload (q := 115) d_FG_part_113 rfl rfl ?_
    refine wp_bipush (q := 117) d_FG_part_115 rfl bp_m2 ?_
    refine wp_icmp_ne (q := 120) (tgt := 123) d_FG_part_117 (by decide) rfl (fun hc_117 => ?_) (fun hc_117 => ?_)
    · refine wp_iload (q := 125) d_FG_part_123 rfl rfl ?_
      refine wp_if_ne (q := 128) (tgt := 131) d_FG_part_125 (by decide) rfl (fun hc_125 => ?_) (fun hc_125 => ?_)
      · refine wp_iload (q := 133) d_FG_part_131 rfl rfl ?_
        refine wp_iconst (q := 134) d_FG_part_133 rfl ic_m1 ?_
        refine wp_icmp_ne (q := 137) (tgt := 142) d_FG_part_134 (by decide) rfl (fun hc_134 => ?_) (fun hc_134 => ?_)
        · refine wp_iload (q := 144) d_FG_part_142 rfl rfl ?_
          refine wp_iload_n (q := 145) d_FG_part_144 rfl rfl ?_
          refine wp_iload (q := 147) d_FG_part_145 rfl rfl ?_
          refine wp_cs3 (q := 150) lk_FG_281 (ro _ _ _) d_FG_part_147 rfl (Nat.le_of_ble_eq_true rfl) (Nat.zero_le _) (Nat.zero_le _) ?_
          obtain ⟨i1, hi1, rfl⟩ := hi hc_117 hc_134
          refine ok_FG_sideIn (by omega) hR6 hi1 ?_
          rw [hbp i1 hi1]
          refine wp_iret d_FG_part_150 rfl (Nat.le_refl _) (Nat.le_refl _) ?_
          unfold prt at hK
          rw [psN_full] at *
          have hz : ¬ (rN c R S M (S ^ R)).1 = 0 := fun g => hc_125 (by rw [g]; exact nI_0)
          rw [if_neg hc_117, if_neg hz, if_neg hc_134, tnt (show i1 < 6 by omega)] at hK
          exact hK
        · refine wp_iload (q := 139) d_FG_part_137 rfl rfl ?_
          refine wp_goto (tgt := 150) d_FG_part_139 (by decide) ?_
          refine wp_iret d_FG_part_150 rfl (Nat.le_refl _) (Nat.le_refl _) ?_
          unfold prt at hK
          rw [psN_full] at *
          have hz : ¬ (rN c R S M (S ^ R)).1 = 0 := fun g => hc_125 (by rw [g]; exact nI_0)
          rw [if_neg hc_117, if_neg hz, if_pos hc_134] at hK
          exact hK
      · refine wp_bipush (q := 130) d_FG_part_128 rfl bp_m3 ?_
        refine wp_iret d_FG_part_130 rfl (Nat.le_refl _) (Nat.le_refl _) ?_
        unfold prt at hK
        rw [psN_full] at *
        rw [if_neg hc_117, if_pos (by have := rN_le (c := c) (R := R) (S := S) (M := M) (S ^ R); exact (nI_eq (by omega) (by decide)).mp (hc_125.trans nI_0.symm))] at hK
        exact hK
    · refine wp_iload (q := 122) d_FG_part_120 rfl rfl ?_
      refine wp_iret d_FG_part_122 rfl (Nat.le_refl _) (Nat.le_refl _) ?_
      unfold prt at hK
      rw [psN_full] at *
      rw [if_pos hc_117] at hK
      exact hK
  · intro p hp ih bp hbl hbp
    have hsucc := psN_succ hS4 R p hp
    by_cases hok : okA c S M (pdg p R) R
    · have hv : vdB S R p = true := vd_pdg.mpr (fun r hr => (hok r hr).1)
      have hdig := dig_eq (R := R) (p := p) hS1 hv
      rw [if_pos hv] at hsucc
      have hok2 : okA c S M (sdg S (psN S R p) R) R := okA_congr (fun r hr => (hdig r hr).symm) hok
      have hsm : smA c (sdg S (psN S R p) R) R = smA c (pdg p R) R := smA_congr R hdig
      have hpos : 0 ≤ smA c (pdg p R) R := by
        obtain ⟨q, hq, e⟩ := (smA_N (a := (pdg p R)) hG (fun r => pdg_lt p R r) R hR6).ex
        rw [e]; exact nI_pos' (by omega)
      by_cases hb : (rN c R S M (psN S R p)).2.1 < smA c (pdg p R) R
      · have eN : rN c R S M (psN S R (p + 1)) = ((rN c R S M (psN S R p)).1 + 1, smA c (sdg S (psN S R p) R) R, psN S R p) := by rw [hsucc]; exact rN_y hok2 (by rw [hsm]; exact hb)
        refine wp_iload (q := 62) d_FG_part_60 rfl rfl ?_
        refine wp_iconst (q := 63) d_FG_part_62 rfl ic_1 ?_
        refine wp_iconst (q := 64) d_FG_part_63 rfl ic_2 ?_
        refine wp_iload_n (q := 65) d_FG_part_64 rfl rfl ?_
        first | refine wp_imulN (q := 66) d_FG_part_65 rfl ?_ | refine wp_imul (q := 66) d_FG_part_65 rfl ?_
        refine wp_ishl (q := 67) d_FG_part_66 rfl ?_
        rw [sh_4 _ hR6]
        refine wp_icmp_ge_f (q := 70) (tgt := 113) d_FG_part_67 (by decide) rfl (nI_ge hp (by omega)) ?_
        refine wp_aload_n (q := 71) d_FG_part_70 rfl rfl ?_
        refine wp_iload (q := 73) d_FG_part_71 rfl rfl ?_
        refine wp_iload_n (q := 74) d_FG_part_73 rfl rfl ?_
        refine wp_iload_n (q := 75) d_FG_part_74 rfl rfl ?_
        refine wp_iload_n (q := 76) d_FG_part_75 rfl rfl ?_
        refine wp_cv4 (q := 79) lk_FG_278 (ro _ _ _) d_FG_part_76 rfl (Nat.le_of_ble_eq_true rfl) (rfl) rfl (Nat.zero_le _) (Nat.zero_le _) ?_
        refine ok_FG_quietGain (by omega) hR6 hS4 hM6 (fun _ => ?_) (fun g => absurd hok g)
        refine wp_istore (q := 81) (L2 := [(9, _), (8, _), (7, _), (6, _), (5, _), (0, _), (1, _), (2, _), (3, _), (4, _)]) d_FG_part_79 rfl (by decide) rfl ?_
        refine wp_iload (q := 83) d_FG_part_81 rfl rfl ?_
        refine wp_if_ge_t (tgt := 89) d_FG_part_83 (by decide) (hpos) ?_
        refine wp_iinc (q := 92) (L2 := [(5, _), (9, _), (8, _), (7, _), (6, _), (0, _), (1, _), (2, _), (3, _), (4, _)]) d_FG_part_89 rfl rfl (iinc_1) (by decide) rfl ?_
        refine wp_iload (q := 94) d_FG_part_92 rfl rfl ?_
        refine wp_iload (q := 96) d_FG_part_94 rfl rfl ?_
        refine wp_icmp_le_f (q := 99) (tgt := 107) d_FG_part_96 (by decide) rfl (fun g => lt_le hb g) ?_
        refine wp_iload (q := 101) d_FG_part_99 rfl rfl ?_
        refine wp_istore (q := 103) (L2 := [(6, _), (5, _), (9, _), (8, _), (7, _), (0, _), (1, _), (2, _), (3, _), (4, _)]) d_FG_part_101 rfl (by decide) rfl ?_
        refine wp_iload (q := 105) d_FG_part_103 rfl rfl ?_
        refine wp_istore (q := 107) (L2 := [(7, _), (6, _), (5, _), (9, _), (8, _), (0, _), (1, _), (2, _), (3, _), (4, _)]) d_FG_part_105 rfl (by decide) rfl ?_
        refine wp_iinc (q := 110) (L2 := [(8, _), (7, _), (6, _), (5, _), (9, _), (0, _), (1, _), (2, _), (3, _), (4, _)]) d_FG_part_107 rfl rfl (iinc_1) (by decide) rfl ?_
        refine wp_goto (tgt := 60) d_FG_part_110 (by decide) ?_
        refine wp_sub [0, 1, 2, 3, 5, 6, 7, 8, 9] rfl ?_
        have h := ih p hp (by rw [eN]; exact fun r hr => (hdig r hr).symm)
        rw [eN] at h
        rw [hsm] at h
        exact h
      · have eN : rN c R S M (psN S R (p + 1)) = ((rN c R S M (psN S R p)).1 + 1, (rN c R S M (psN S R p)).2) := by rw [hsucc]; exact rN_z hok2 (by rw [hsm]; exact hb)
        refine wp_iload (q := 62) d_FG_part_60 rfl rfl ?_
        refine wp_iconst (q := 63) d_FG_part_62 rfl ic_1 ?_
        refine wp_iconst (q := 64) d_FG_part_63 rfl ic_2 ?_
        refine wp_iload_n (q := 65) d_FG_part_64 rfl rfl ?_
        first | refine wp_imulN (q := 66) d_FG_part_65 rfl ?_ | refine wp_imul (q := 66) d_FG_part_65 rfl ?_
        refine wp_ishl (q := 67) d_FG_part_66 rfl ?_
        rw [sh_4 _ hR6]
        refine wp_icmp_ge_f (q := 70) (tgt := 113) d_FG_part_67 (by decide) rfl (nI_ge hp (by omega)) ?_
        refine wp_aload_n (q := 71) d_FG_part_70 rfl rfl ?_
        refine wp_iload (q := 73) d_FG_part_71 rfl rfl ?_
        refine wp_iload_n (q := 74) d_FG_part_73 rfl rfl ?_
        refine wp_iload_n (q := 75) d_FG_part_74 rfl rfl ?_
        refine wp_iload_n (q := 76) d_FG_part_75 rfl rfl ?_
        refine wp_cv4 (q := 79) lk_FG_278 (ro _ _ _) d_FG_part_76 rfl (Nat.le_of_ble_eq_true rfl) (rfl) rfl (Nat.zero_le _) (Nat.zero_le _) ?_
        refine ok_FG_quietGain (by omega) hR6 hS4 hM6 (fun _ => ?_) (fun g => absurd hok g)
        refine wp_istore (q := 81) (L2 := [(9, _), (8, _), (7, _), (6, _), (5, _), (0, _), (1, _), (2, _), (3, _), (4, _)]) d_FG_part_79 rfl (by decide) rfl ?_
        refine wp_iload (q := 83) d_FG_part_81 rfl rfl ?_
        refine wp_if_ge_t (tgt := 89) d_FG_part_83 (by decide) (hpos) ?_
        refine wp_iinc (q := 92) (L2 := [(5, _), (9, _), (8, _), (7, _), (6, _), (0, _), (1, _), (2, _), (3, _), (4, _)]) d_FG_part_89 rfl rfl (iinc_1) (by decide) rfl ?_
        refine wp_iload (q := 94) d_FG_part_92 rfl rfl ?_
        refine wp_iload (q := 96) d_FG_part_94 rfl rfl ?_
        refine wp_icmp_le_t (tgt := 107) d_FG_part_96 (by decide) (nlt_le hb) ?_
        refine wp_iinc (q := 110) (L2 := [(8, _), (5, _), (9, _), (7, _), (6, _), (0, _), (1, _), (2, _), (3, _), (4, _)]) d_FG_part_107 rfl rfl (iinc_1) (by decide) rfl ?_
        refine wp_goto (tgt := 60) d_FG_part_110 (by decide) ?_
        refine wp_sub [0, 3, 4, 1, 5, 6, 7, 8, 9] rfl ?_
        have h := ih bp hbl (by rw [eN]; exact hbp)
        rw [eN] at h
        exact h
    · have eN : rN c R S M (psN S R (p + 1)) = (rN c R S M (psN S R p)) := by
        by_cases hv : vdB S R p = true
        · rw [hsucc, if_pos hv]
          exact rN_n (fun g => hok (okA_congr (dig_eq hS1 hv) g))
        · rw [hsucc, if_neg hv, Nat.add_zero]
      refine wp_iload (q := 62) d_FG_part_60 rfl rfl ?_
      refine wp_iconst (q := 63) d_FG_part_62 rfl ic_1 ?_
      refine wp_iconst (q := 64) d_FG_part_63 rfl ic_2 ?_
      refine wp_iload_n (q := 65) d_FG_part_64 rfl rfl ?_
      first | refine wp_imulN (q := 66) d_FG_part_65 rfl ?_ | refine wp_imul (q := 66) d_FG_part_65 rfl ?_
      refine wp_ishl (q := 67) d_FG_part_66 rfl ?_
      rw [sh_4 _ hR6]
      refine wp_icmp_ge_f (q := 70) (tgt := 113) d_FG_part_67 (by decide) rfl (nI_ge hp (by omega)) ?_
      refine wp_aload_n (q := 71) d_FG_part_70 rfl rfl ?_
      refine wp_iload (q := 73) d_FG_part_71 rfl rfl ?_
      refine wp_iload_n (q := 74) d_FG_part_73 rfl rfl ?_
      refine wp_iload_n (q := 75) d_FG_part_74 rfl rfl ?_
      refine wp_iload_n (q := 76) d_FG_part_75 rfl rfl ?_
      refine wp_cv4 (q := 79) lk_FG_278 (ro _ _ _) d_FG_part_76 rfl (Nat.le_of_ble_eq_true rfl) (rfl) rfl (Nat.zero_le _) (Nat.zero_le _) ?_
      refine ok_FG_quietGain (by omega) hR6 hS4 hM6 (fun g => absurd g hok) (fun _ => ?_)
      refine wp_istore (q := 81) (L2 := [(9, _), (8, _), (7, _), (6, _), (5, _), (0, _), (1, _), (2, _), (3, _), (4, _)]) d_FG_part_79 rfl (by decide) rfl ?_
      refine wp_iload (q := 83) d_FG_part_81 rfl rfl ?_
      refine wp_if_ge_f (q := 86) (tgt := 89) d_FG_part_83 (by decide) rfl (by decide) ?_
      refine wp_goto (tgt := 107) d_FG_part_86 (by decide) ?_
      refine wp_iinc (q := 110) (L2 := [(8, _), (9, _), (7, _), (6, _), (5, _), (0, _), (1, _), (2, _), (3, _), (4, _)]) d_FG_part_107 rfl rfl (iinc_1) (by decide) rfl ?_
      refine wp_goto (tgt := 60) d_FG_part_110 (by decide) ?_
      refine wp_sub [0, 2, 3, 4, 5, 6, 7, 8, 9] rfl ?_
      have h := ih bp hbl (by rw [eN]; exact hbp)
      rw [eN] at h
      exact h
theorem i_rng {i : Int32} {R : Nat} (hR : 1 ≤ R) (hR6 : R ≤ 6) (h1 : -2 ≤ i) (h2 : i ≤ nI R - nI 1) : ¬ i = -2 → ¬ i = -1 → ∃ i1, i1 < R ∧ i = nI i1 := by
  intro e2 e1
  have e : nI R - nI 1 = nI (R - 1) := by
    have := isN_sub (x := nI R) (y := nI 1) (by rw [tnt (show R < 7 by omega)]) (by decide) (by rw [tnt (show R < 7 by omega), tnt (show 1 < 7 by decide)]; exact hR)
    rw [this, tnt (show R < 7 by omega), tnt (show 1 < 7 by decide)]
  rw [e] at h2
  have h0 : nI 0 ≤ i := by
    rw [Int32.le_iff_toInt_le] at h1 ⊢
    have a2 : (-2 : Int32).toInt = -2 := by decide
    have a1 : (-1 : Int32).toInt = -1 := by decide
    have a0 : (nI 0).toInt = 0 := by decide
    have n2 : i.toInt ≠ -2 := fun g => e2 (Int32.toInt_inj.mp (g.trans a2.symm))
    have n1 : i.toInt ≠ -1 := fun g => e1 (Int32.toInt_inj.mp (g.trans a1.symm))
    omega
  obtain ⟨i1, g1, g2⟩ := nI_btw (by omega) h0 h2
  exact ⟨i1, by omega, g2⟩
set_option maxHeartbeats 4000000 in
set_option maxRecDepth 100000 in
theorem ok_FG_part {D : xD} {N : Nat} {l : Launch} {d : Nat} {c x V : T2} {P : Nat → Int32} {ln df : Nat → Option Nat} {rest : List va_E} {K : Option Value → List va_E → Prop} {r s m i : Int32} (hG : GI c) (hK : K (some (.int (sp_part c r s m i))) (encC D N c x (va_up V 0 P) ln df ++ rest)) : Ok D N l (d + 2) M_FG_part [.ref (N + 0), .int r, .int s, .int m, .int i] (encC D N c x (va_up V 0 P) ln df ++ rest) 0 0 K := by
  refine ok_of (L := [(0, _), (1, _), (2, _), (3, _), (4, _)]) (by decide) (Nat.le_of_ble_eq_true rfl) rfl ?_
  refine wp_iload_n (q := 1) d_FG_part_0 rfl rfl ?_
  refine wp_iconst (q := 2) d_FG_part_1 rfl ic_1 ?_
  refine wp_bipush (q := 4) d_FG_part_2 rfl bp_6 ?_
  refine wp_cs3 (q := 7) lk_FG_61 (ro _ _ _) d_FG_part_4 rfl (Nat.le_of_ble_eq_true rfl) (Nat.zero_le _) (Nat.zero_le _) ?_
  refine ok_FG_within (fun hra hrb => ?_) (fun hrn => ?_)
  · obtain ⟨r1, hr1, hr2, rfl⟩ := nI_btw1 (by decide) hra hrb
    refine wp_if_eq_f (q := 10) (tgt := 29) d_FG_part_7 (by decide) rfl (by decide) ?_
    refine wp_iload_n (q := 11) d_FG_part_10 rfl rfl ?_
    refine wp_iconst (q := 12) d_FG_part_11 rfl ic_1 ?_
    refine wp_iconst (q := 13) d_FG_part_12 rfl ic_4 ?_
    refine wp_cs3 (q := 16) lk_FG_61 (ro _ _ _) d_FG_part_13 rfl (Nat.le_of_ble_eq_true rfl) (Nat.zero_le _) (Nat.zero_le _) ?_
    refine ok_FG_within (fun hsa hsb => ?_) (fun hsn => ?_)
    · obtain ⟨s1, hs1, hs2, rfl⟩ := nI_btw1 (by decide) hsa hsb
      refine wp_if_eq_f (q := 19) (tgt := 29) d_FG_part_16 (by decide) rfl (by decide) ?_
      refine wp_iload_n (q := 20) d_FG_part_19 rfl rfl ?_
      refine wp_iconst (q := 21) d_FG_part_20 rfl ic_1 ?_
      refine wp_bipush (q := 23) d_FG_part_21 rfl bp_6 ?_
      refine wp_cs3 (q := 26) lk_FG_61 (ro _ _ _) d_FG_part_23 rfl (Nat.le_of_ble_eq_true rfl) (Nat.zero_le _) (Nat.zero_le _) ?_
      refine ok_FG_within (fun hma hmb => ?_) (fun hmn => ?_)
      · obtain ⟨m1, hm1, hm2, rfl⟩ := nI_btw1 (by decide) hma hmb
        refine wp_if_ne_t (tgt := 32) d_FG_part_26 (by decide) (by decide) ?_
        refine wp_iload (q := 34) d_FG_part_32 rfl rfl ?_
        refine wp_bipush (q := 36) d_FG_part_34 rfl bp_m2 ?_
        refine wp_iload_n (q := 37) d_FG_part_36 rfl rfl ?_
        refine wp_iconst (q := 38) d_FG_part_37 rfl ic_1 ?_
        refine wp_isub (q := 39) d_FG_part_38 rfl ?_
        refine wp_cs3 (q := 42) lk_FG_61 (ro _ _ _) d_FG_part_39 rfl (Nat.le_of_ble_eq_true rfl) (Nat.zero_le _) (Nat.zero_le _) ?_
        refine ok_FG_within (fun hia hib => ?_) (fun hin => ?_)
        · refine wp_if_ne_t (tgt := 48) d_FG_part_42 (by decide) (by decide) ?_
          refine wp_iconst (q := 49) d_FG_part_48 rfl ic_0 ?_
          refine wp_istore (q := 51) (L2 := [(5, _), (0, _), (1, _), (2, _), (3, _), (4, _)]) d_FG_part_49 rfl (by decide) rfl ?_
          refine wp_iconst (q := 52) d_FG_part_51 rfl ic_m1 ?_
          refine wp_istore (q := 54) (L2 := [(6, _), (5, _), (0, _), (1, _), (2, _), (3, _), (4, _)]) d_FG_part_52 rfl (by decide) rfl ?_
          refine wp_iconst (q := 55) d_FG_part_54 rfl ic_0 ?_
          refine wp_istore (q := 57) (L2 := [(7, _), (6, _), (5, _), (0, _), (1, _), (2, _), (3, _), (4, _)]) d_FG_part_55 rfl (by decide) rfl ?_
          refine wp_iconst (q := 58) d_FG_part_57 rfl ic_0 ?_
          refine wp_istore (q := 60) (L2 := [(8, _), (7, _), (6, _), (5, _), (0, _), (1, _), (2, _), (3, _), (4, _)]) d_FG_part_58 rfl (by decide) rfl ?_
          simp only [sp_part, inn, btw, hra, hrb, tnl hr2, hsa, hsb, tnl hs2, hma, hmb, tnl hm2, hia, hib, not_true_eq_false, not_false_eq_true, or_false, false_or, or_true, true_or, and_true, true_and, and_false, false_and, or_self, and_self, if_true, if_false, ite_true, ite_false, eq_self] at hK
          have h0 := pt_FG_part (l := l) (d := d) hr2 hs1 hs2 hm2 hG (i_rng hr1 hr2 hia hib) hK 0 (Nat.zero_le _) 0 (Nat.pow_pos (by decide)) (fun r hr => by rw [psN_0]; unfold pdg sdg rN; rw [Nat.zero_div, Nat.zero_div, Nat.zero_mod, Nat.zero_mod])
          rw [psN_0] at h0
          exact h0
        · refine wp_if_ne_f (q := 45) (tgt := 48) d_FG_part_42 (by decide) rfl (by decide) ?_
          refine wp_bipush (q := 47) d_FG_part_45 rfl bp_m5 ?_
          refine wp_iret d_FG_part_47 rfl (Nat.le_refl _) (Nat.le_refl _) ?_
          simp only [sp_part, inn, inb, inm, btw, hra, hrb, tnl hr2, hsa, hsb, tnl hs2, hma, hmb, tnl hm2, hin, not_true_eq_false, not_false_eq_true, or_false, false_or, or_true, true_or, and_true, true_and, and_false, false_and, or_self, and_self, if_true, if_false, ite_true, ite_false, eq_self] at hK
          first | exact hK | (simp (disch := omega) only [tput_eq, tput2, tput_ne, upd_eq, upd_ne, ne_eq, va_upeq, va_upne, va_up2, not_true_eq_false, not_false_eq_true, or_false, false_or, or_true, true_or, and_true, true_and, and_false, false_and, or_self, and_self, if_true, if_false, ite_true, ite_false, eq_self] at hK ⊢; exact hK) | (simp (disch := omega) only [tput_eq, tput2, tput_ne, upd_eq, upd_ne, ne_eq, va_upeq, va_upne, va_up2, not_true_eq_false, not_false_eq_true, or_false, false_or, or_true, true_or, and_true, true_and, and_false, false_and, or_self, and_self, if_true, if_false, ite_true, ite_false, eq_self]; exact hK) | (simp (disch := omega) only [tput_eq, tput2, tput_ne, upd_eq, upd_ne, ne_eq, va_upeq, va_upne, va_up2, not_true_eq_false, not_false_eq_true, or_false, false_or, or_true, true_or, and_true, true_and, and_false, false_and, or_self, and_self, if_true, if_false, ite_true, ite_false, eq_self] at hK; exact hK)
      · refine wp_if_ne_f (q := 29) (tgt := 32) d_FG_part_26 (by decide) rfl (by decide) ?_
        refine wp_bipush (q := 31) d_FG_part_29 rfl bp_m2 ?_
        refine wp_iret d_FG_part_31 rfl (Nat.le_refl _) (Nat.le_refl _) ?_
        simp only [sp_part, inn, inb, inm, btw, hra, hrb, tnl hr2, hsa, hsb, tnl hs2, hmn, not_true_eq_false, not_false_eq_true, or_false, false_or, or_true, true_or, and_true, true_and, and_false, false_and, or_self, and_self, if_true, if_false, ite_true, ite_false, eq_self] at hK
        first | exact hK | (simp (disch := omega) only [tput_eq, tput2, tput_ne, upd_eq, upd_ne, ne_eq, va_upeq, va_upne, va_up2, not_true_eq_false, not_false_eq_true, or_false, false_or, or_true, true_or, and_true, true_and, and_false, false_and, or_self, and_self, if_true, if_false, ite_true, ite_false, eq_self] at hK ⊢; exact hK) | (simp (disch := omega) only [tput_eq, tput2, tput_ne, upd_eq, upd_ne, ne_eq, va_upeq, va_upne, va_up2, not_true_eq_false, not_false_eq_true, or_false, false_or, or_true, true_or, and_true, true_and, and_false, false_and, or_self, and_self, if_true, if_false, ite_true, ite_false, eq_self]; exact hK) | (simp (disch := omega) only [tput_eq, tput2, tput_ne, upd_eq, upd_ne, ne_eq, va_upeq, va_upne, va_up2, not_true_eq_false, not_false_eq_true, or_false, false_or, or_true, true_or, and_true, true_and, and_false, false_and, or_self, and_self, if_true, if_false, ite_true, ite_false, eq_self] at hK; exact hK)
    · refine wp_if_eq_t (tgt := 29) d_FG_part_16 (by decide) (by decide) ?_
      refine wp_bipush (q := 31) d_FG_part_29 rfl bp_m2 ?_
      refine wp_iret d_FG_part_31 rfl (Nat.le_refl _) (Nat.le_refl _) ?_
      simp only [sp_part, inn, inb, inm, btw, hra, hrb, tnl hr2, hsn, not_true_eq_false, not_false_eq_true, or_false, false_or, or_true, true_or, and_true, true_and, and_false, false_and, or_self, and_self, if_true, if_false, ite_true, ite_false, eq_self] at hK
      first | exact hK | (simp (disch := omega) only [tput_eq, tput2, tput_ne, upd_eq, upd_ne, ne_eq, va_upeq, va_upne, va_up2, not_true_eq_false, not_false_eq_true, or_false, false_or, or_true, true_or, and_true, true_and, and_false, false_and, or_self, and_self, if_true, if_false, ite_true, ite_false, eq_self] at hK ⊢; exact hK) | (simp (disch := omega) only [tput_eq, tput2, tput_ne, upd_eq, upd_ne, ne_eq, va_upeq, va_upne, va_up2, not_true_eq_false, not_false_eq_true, or_false, false_or, or_true, true_or, and_true, true_and, and_false, false_and, or_self, and_self, if_true, if_false, ite_true, ite_false, eq_self]; exact hK) | (simp (disch := omega) only [tput_eq, tput2, tput_ne, upd_eq, upd_ne, ne_eq, va_upeq, va_upne, va_up2, not_true_eq_false, not_false_eq_true, or_false, false_or, or_true, true_or, and_true, true_and, and_false, false_and, or_self, and_self, if_true, if_false, ite_true, ite_false, eq_self] at hK; exact hK)
  · refine wp_if_eq_t (tgt := 29) d_FG_part_7 (by decide) (by decide) ?_
    refine wp_bipush (q := 31) d_FG_part_29 rfl bp_m2 ?_
    refine wp_iret d_FG_part_31 rfl (Nat.le_refl _) (Nat.le_refl _) ?_
    simp only [sp_part, inn, inb, inm, btw, hrn, not_true_eq_false, not_false_eq_true, or_false, false_or, or_true, true_or, and_true, true_and, and_false, false_and, or_self, and_self, if_true, if_false, ite_true, ite_false, eq_self] at hK
    first | exact hK | (simp (disch := omega) only [tput_eq, tput2, tput_ne, upd_eq, upd_ne, ne_eq, va_upeq, va_upne, va_up2, not_true_eq_false, not_false_eq_true, or_false, false_or, or_true, true_or, and_true, true_and, and_false, false_and, or_self, and_self, if_true, if_false, ite_true, ite_false, eq_self] at hK ⊢; exact hK) | (simp (disch := omega) only [tput_eq, tput2, tput_ne, upd_eq, upd_ne, ne_eq, va_upeq, va_upne, va_up2, not_true_eq_false, not_false_eq_true, or_false, false_or, or_true, true_or, and_true, true_and, and_false, false_and, or_self, and_self, if_true, if_false, ite_true, ite_false, eq_self]; exact hK) | (simp (disch := omega) only [tput_eq, tput2, tput_ne, upd_eq, upd_ne, ne_eq, va_upeq, va_upne, va_up2, not_true_eq_false, not_false_eq_true, or_false, false_or, or_true, true_or, and_true, true_and, and_false, false_and, or_self, and_self, if_true, if_false, ite_true, ite_false, eq_self] at hK; exact hK)
