def svN (c : T2) (P : Nat → Int32) (nb m : Nat) : Nat → (Nat → Int32)
  | 0 => P
  | s + 1 => sv c (svN c P nb m s) nb m s
def mvB (R : Nat → Int32) (b : Nat) : Nat → Int32 := mv1 R b (tn (R (156 + b))) (tn (R (84 + b))) (tn (R (108 + b)))
def mvN (P : Nat → Int32) : Nat → (Nat → Int32)
  | 0 => P
  | b + 1 => mvB (mvN P b) b
def stB (c : T2) (R : Nat → Int32) (nb m b : Nat) : Nat → Int32 := stl R b (R (168 + b) - R (180 + b) - c 7 b) (lawv c R nb m (tn (R (84 + b))) b 2)
def stN (c : T2) (P : Nat → Int32) (nb m : Nat) : Nat → (Nat → Int32)
  | 0 => P
  | b + 1 => stB c (stN c P nb m b) nb m b
def smN (P : Nat → Int32) : Nat → Int32
  | 0 => nI 0
  | k + 1 => smN P k + P k
def wtP (P : Nat → Int32) : Nat → Int32 := upd P 238 (P 238 + smN P 36)
def pas1 (c : T2) (P : Nat → Int32) (nb m : Nat) : Nat → Int32 := wtP (mvN (svN c (cmN c P m 36) nb m 6) nb)
def passP (c : T2) (P : Nat → Int32) (nb m : Nat) : Nat → Int32 := upd (if m % 1440 = 1439 then stN c (pas1 c P nb m) nb m nb else pas1 c P nb m) 234 (nI (m + 1))
theorem WI.svs {c : T2} {P : Nat → Int32} {nb m : Nat} (h : WI P nb m) (hT : TI c) (h12 : nb ≤ 12) : ∀ s, s ≤ 6 → WI (svN c P nb m s) nb m
  | 0, _ => h
  | s + 1, hs => (WI.svs h hT h12 s (by omega)).svv hT h12 (by omega)
theorem WI.mvs {P : Nat → Int32} {nb m : Nat} (h : WI P nb m) (h12 : nb ≤ 12) : ∀ b, b ≤ nb → WI (mvN P b) nb m
  | 0, _ => h
  | b + 1, hb => by
    have hb2 := WI.mvs h h12 b (by omega)
    have hc := hb2.2.1 b (by omega)
    exact hb2.mv (by omega) h12 hc.1.2 hc.2.1.2
theorem WI.sts {c : T2} {P : Nat → Int32} {nb m : Nat} (h : WI P nb m) (h12 : nb ≤ 12) : ∀ b, b ≤ nb → WI (stN c P nb m b) nb m
  | 0, _ => h
  | b + 1, hb => (WI.sts h h12 b (by omega)).stlv (by omega)
theorem WI.wt {P : Nat → Int32} {nb m : Nat} (h : WI P nb m) : WI (wtP P) nb m := h.put (by unfold crit; omega)
theorem WI.p1 {c : T2} {P : Nat → Int32} {nb m : Nat} (h : WI P nb m) (hT : TI c) (h12 : nb ≤ 12) : WI (pas1 c P nb m) nb m := (((h.cm 36 (Nat.le_refl _)).svs hT h12 6 (Nat.le_refl _)).mvs h12 nb (Nat.le_refl _)).wt
theorem d_Rf_sum_0 : decode M_Rf_sum.2.1 0 = .ok (.iconst 0, 1) := by decide +kernel
theorem d_Rf_sum_1 : decode M_Rf_sum.2.1 1 = .ok (.istore_n 3, 1) := by decide +kernel
theorem d_Rf_sum_2 : decode M_Rf_sum.2.1 2 = .ok (.iconst 0, 1) := by decide +kernel
theorem d_Rf_sum_3 : decode M_Rf_sum.2.1 3 = .ok (.istore 4, 2) := by decide +kernel
theorem d_Rf_sum_5 : decode M_Rf_sum.2.1 5 = .ok (.iload 4, 2) := by decide +kernel
theorem d_Rf_sum_7 : decode M_Rf_sum.2.1 7 = .ok (.iload_n 2, 1) := by decide +kernel
theorem d_Rf_sum_8 : decode M_Rf_sum.2.1 8 = .ok (.if_icmp .ge 21, 3) := by decide +kernel
theorem d_Rf_sum_11 : decode M_Rf_sum.2.1 11 = .ok (.iload_n 3, 1) := by decide +kernel
theorem d_Rf_sum_12 : decode M_Rf_sum.2.1 12 = .ok (.aload_n 0, 1) := by decide +kernel
theorem d_Rf_sum_13 : decode M_Rf_sum.2.1 13 = .ok (.getfield 7, 3) := by decide +kernel
theorem d_Rf_sum_16 : decode M_Rf_sum.2.1 16 = .ok (.iload_n 1, 1) := by decide +kernel
theorem d_Rf_sum_17 : decode M_Rf_sum.2.1 17 = .ok (.iload 4, 2) := by decide +kernel
theorem d_Rf_sum_19 : decode M_Rf_sum.2.1 19 = .ok (.iadd, 1) := by decide +kernel
theorem d_Rf_sum_20 : decode M_Rf_sum.2.1 20 = .ok (.iaload, 1) := by decide +kernel
theorem d_Rf_sum_21 : decode M_Rf_sum.2.1 21 = .ok (.iadd, 1) := by decide +kernel
theorem d_Rf_sum_22 : decode M_Rf_sum.2.1 22 = .ok (.istore_n 3, 1) := by decide +kernel
theorem d_Rf_sum_23 : decode M_Rf_sum.2.1 23 = .ok (.iinc 4 1, 3) := by decide +kernel
theorem d_Rf_sum_26 : decode M_Rf_sum.2.1 26 = .ok (.goto (-21), 3) := by decide +kernel
theorem d_Rf_sum_29 : decode M_Rf_sum.2.1 29 = .ok (.iload_n 3, 1) := by decide +kernel
theorem d_Rf_sum_30 : decode M_Rf_sum.2.1 30 = .ok (.ireturn, 1) := by decide +kernel
set_option maxHeartbeats 4000000 in
set_option maxRecDepth 100000 in
theorem ok_Rf_sum {D : xD} {N : Nat} {l : Launch} {d : Nat} {c z : T2} {P Q : Nat → Int32} {rest : List va_E} {K : Option Value → List va_E → Prop} (hK : K (some (.int (smN P 36))) (encR D N c z P Q ++ rest)) : Ok D N l d M_Rf_sum [.ref (N + 0), .int (nI 0), .int (nI 36)] (encR D N c z P Q ++ rest) 0 0 K := by
  have lp : ∀ k : Nat, k ≤ 36 → Wp D N l (EI M_Rf_sum) M_Rf_sum (Rm d 0 0) (Qm D N K 0 0) 0 0 5 [(4, .int (nI k)), (3, .int (smN P k)), (0, .ref (N + 0)), (1, .int (nI 0)), (2, .int (nI 36))] [] (encR D N c z P Q ++ rest) := by
    refine up_loop ?_ ?_
    · skip
      refine wp_iload (q := 7) d_Rf_sum_5 rfl rfl ?_
      refine wp_iload_n (q := 8) d_Rf_sum_7 rfl rfl ?_
      refine wp_icmp_ge_t (tgt := 29) d_Rf_sum_8 (by decide) (nI_le (Nat.le_refl _) (by decide)) ?_
      refine wp_iload_n (q := 30) d_Rf_sum_29 rfl rfl ?_
      refine wp_iret d_Rf_sum_30 rfl (Nat.le_refl _) (Nat.le_refl _) ?_
      exact hK
    · intro k hk ih
      refine wp_iload (q := 7) d_Rf_sum_5 rfl rfl ?_
      refine wp_iload_n (q := 8) d_Rf_sum_7 rfl rfl ?_
      refine wp_icmp_ge_f (q := 11) (tgt := 29) d_Rf_sum_8 (by decide) rfl (nI_ge hk (by decide)) ?_
      refine wp_iload_n (q := 12) d_Rf_sum_11 rfl rfl ?_
      refine wp_aload_n (q := 13) d_Rf_sum_12 rfl rfl ?_
      refine wp_get (q := 16) fl_Rf_7 d_Rf_sum_13 rfl rfl rfl ?_
      refine wp_iload_n (q := 17) d_Rf_sum_16 rfl rfl ?_
      refine wp_iload (q := 19) d_Rf_sum_17 rfl rfl ?_
      first | refine wp_iaddN (q := 20) d_Rf_sum_19 rfl ?_ | refine wp_iadd (q := 20) d_Rf_sum_19 rfl ?_
      rw [Nat.zero_add]
      refine wp_iald (q := 21) d_Rf_sum_20 rfl (rfl) (by omega) (by decide) ?_
      refine wp_iadd (q := 22) d_Rf_sum_21 rfl ?_
      refine wp_istore_n (q := 23) (L2 := [(3, _), (4, _), (0, _), (1, _), (2, _)]) d_Rf_sum_22 rfl (by decide) rfl ?_
      refine wp_iinc (q := 26) (L2 := [(4, _), (3, _), (0, _), (1, _), (2, _)]) d_Rf_sum_23 rfl rfl (iinc_1) (by decide) rfl ?_
      refine wp_goto (tgt := 5) d_Rf_sum_26 (by decide) ?_
      rw [smN] at ih; exact ih
  refine ok_of (L := [(0, _), (1, _), (2, _)]) (by decide) (Nat.le_of_ble_eq_true rfl) rfl ?_
  refine wp_iconst (q := 1) d_Rf_sum_0 rfl ic_0 ?_
  refine wp_istore_n (q := 2) (L2 := [(3, _), (0, _), (1, _), (2, _)]) d_Rf_sum_1 rfl (by decide) rfl ?_
  refine wp_iconst (q := 3) d_Rf_sum_2 rfl ic_0 ?_
  refine wp_istore (q := 5) (L2 := [(4, _), (3, _), (0, _), (1, _), (2, _)]) d_Rf_sum_3 rfl (by decide) rfl ?_
  exact lp 0 (Nat.zero_le _)
theorem d_Rf_goes_0 : decode M_Rf_goes.2.1 0 = .ok (.aload_n 0, 1) := by decide +kernel
theorem d_Rf_goes_1 : decode M_Rf_goes.2.1 1 = .ok (.invokevirtual 244, 3) := by decide +kernel
theorem d_Rf_goes_4 : decode M_Rf_goes.2.1 4 = .ok (.iconst 0, 1) := by decide +kernel
theorem d_Rf_goes_5 : decode M_Rf_goes.2.1 5 = .ok (.istore_n 1, 1) := by decide +kernel
theorem d_Rf_goes_6 : decode M_Rf_goes.2.1 6 = .ok (.iload_n 1, 1) := by decide +kernel
theorem d_Rf_goes_7 : decode M_Rf_goes.2.1 7 = .ok (.bipush 6, 2) := by decide +kernel
theorem d_Rf_goes_9 : decode M_Rf_goes.2.1 9 = .ok (.if_icmp .ge 14, 3) := by decide +kernel
theorem d_Rf_goes_12 : decode M_Rf_goes.2.1 12 = .ok (.aload_n 0, 1) := by decide +kernel
theorem d_Rf_goes_13 : decode M_Rf_goes.2.1 13 = .ok (.iload_n 1, 1) := by decide +kernel
theorem d_Rf_goes_14 : decode M_Rf_goes.2.1 14 = .ok (.invokevirtual 247, 3) := by decide +kernel
theorem d_Rf_goes_17 : decode M_Rf_goes.2.1 17 = .ok (.iinc 1 1, 3) := by decide +kernel
theorem d_Rf_goes_20 : decode M_Rf_goes.2.1 20 = .ok (.goto (-14), 3) := by decide +kernel
theorem d_Rf_goes_23 : decode M_Rf_goes.2.1 23 = .ok (.iconst 0, 1) := by decide +kernel
theorem d_Rf_goes_24 : decode M_Rf_goes.2.1 24 = .ok (.istore_n 1, 1) := by decide +kernel
theorem d_Rf_goes_25 : decode M_Rf_goes.2.1 25 = .ok (.iload_n 1, 1) := by decide +kernel
theorem d_Rf_goes_26 : decode M_Rf_goes.2.1 26 = .ok (.aload_n 0, 1) := by decide +kernel
theorem d_Rf_goes_27 : decode M_Rf_goes.2.1 27 = .ok (.getfield 155, 3) := by decide +kernel
theorem d_Rf_goes_30 : decode M_Rf_goes.2.1 30 = .ok (.if_icmp .ge 14, 3) := by decide +kernel
theorem d_Rf_goes_33 : decode M_Rf_goes.2.1 33 = .ok (.aload_n 0, 1) := by decide +kernel
theorem d_Rf_goes_34 : decode M_Rf_goes.2.1 34 = .ok (.iload_n 1, 1) := by decide +kernel
theorem d_Rf_goes_35 : decode M_Rf_goes.2.1 35 = .ok (.invokevirtual 251, 3) := by decide +kernel
theorem d_Rf_goes_38 : decode M_Rf_goes.2.1 38 = .ok (.iinc 1 1, 3) := by decide +kernel
theorem d_Rf_goes_41 : decode M_Rf_goes.2.1 41 = .ok (.goto (-16), 3) := by decide +kernel
theorem d_Rf_goes_44 : decode M_Rf_goes.2.1 44 = .ok (.aload_n 0, 1) := by decide +kernel
theorem d_Rf_goes_45 : decode M_Rf_goes.2.1 45 = .ok (.getfield 7, 3) := by decide +kernel
theorem d_Rf_goes_48 : decode M_Rf_goes.2.1 48 = .ok (.sipush 238, 3) := by decide +kernel
theorem d_Rf_goes_51 : decode M_Rf_goes.2.1 51 = .ok (.dup2, 1) := by decide +kernel
theorem d_Rf_goes_52 : decode M_Rf_goes.2.1 52 = .ok (.iaload, 1) := by decide +kernel
theorem d_Rf_goes_53 : decode M_Rf_goes.2.1 53 = .ok (.aload_n 0, 1) := by decide +kernel
theorem d_Rf_goes_54 : decode M_Rf_goes.2.1 54 = .ok (.iconst 0, 1) := by decide +kernel
theorem d_Rf_goes_55 : decode M_Rf_goes.2.1 55 = .ok (.bipush 36, 2) := by decide +kernel
theorem d_Rf_goes_57 : decode M_Rf_goes.2.1 57 = .ok (.invokevirtual 254, 3) := by decide +kernel
theorem d_Rf_goes_60 : decode M_Rf_goes.2.1 60 = .ok (.iadd, 1) := by decide +kernel
theorem d_Rf_goes_61 : decode M_Rf_goes.2.1 61 = .ok (.iastore, 1) := by decide +kernel
theorem d_Rf_goes_62 : decode M_Rf_goes.2.1 62 = .ok (.iconst 0, 1) := by decide +kernel
theorem d_Rf_goes_63 : decode M_Rf_goes.2.1 63 = .ok (.istore_n 1, 1) := by decide +kernel
theorem d_Rf_goes_64 : decode M_Rf_goes.2.1 64 = .ok (.iload_n 1, 1) := by decide +kernel
theorem d_Rf_goes_65 : decode M_Rf_goes.2.1 65 = .ok (.aload_n 0, 1) := by decide +kernel
theorem d_Rf_goes_66 : decode M_Rf_goes.2.1 66 = .ok (.getfield 155, 3) := by decide +kernel
theorem d_Rf_goes_69 : decode M_Rf_goes.2.1 69 = .ok (.if_icmp .ge 32, 3) := by decide +kernel
theorem d_Rf_goes_72 : decode M_Rf_goes.2.1 72 = .ok (.aload_n 0, 1) := by decide +kernel
theorem d_Rf_goes_73 : decode M_Rf_goes.2.1 73 = .ok (.getfield 7, 3) := by decide +kernel
theorem d_Rf_goes_76 : decode M_Rf_goes.2.1 76 = .ok (.sipush 234, 3) := by decide +kernel
theorem d_Rf_goes_79 : decode M_Rf_goes.2.1 79 = .ok (.iaload, 1) := by decide +kernel
theorem d_Rf_goes_80 : decode M_Rf_goes.2.1 80 = .ok (.sipush 1440, 3) := by decide +kernel
theorem d_Rf_goes_83 : decode M_Rf_goes.2.1 83 = .ok (.irem, 1) := by decide +kernel
theorem d_Rf_goes_84 : decode M_Rf_goes.2.1 84 = .ok (.sipush 1439, 3) := by decide +kernel
theorem d_Rf_goes_87 : decode M_Rf_goes.2.1 87 = .ok (.if_icmp .ne 14, 3) := by decide +kernel
theorem d_Rf_goes_90 : decode M_Rf_goes.2.1 90 = .ok (.aload_n 0, 1) := by decide +kernel
theorem d_Rf_goes_91 : decode M_Rf_goes.2.1 91 = .ok (.iload_n 1, 1) := by decide +kernel
theorem d_Rf_goes_92 : decode M_Rf_goes.2.1 92 = .ok (.invokevirtual 257, 3) := by decide +kernel
theorem d_Rf_goes_95 : decode M_Rf_goes.2.1 95 = .ok (.iinc 1 1, 3) := by decide +kernel
theorem d_Rf_goes_98 : decode M_Rf_goes.2.1 98 = .ok (.goto (-34), 3) := by decide +kernel
theorem d_Rf_goes_101 : decode M_Rf_goes.2.1 101 = .ok (.aload_n 0, 1) := by decide +kernel
theorem d_Rf_goes_102 : decode M_Rf_goes.2.1 102 = .ok (.getfield 7, 3) := by decide +kernel
theorem d_Rf_goes_105 : decode M_Rf_goes.2.1 105 = .ok (.sipush 234, 3) := by decide +kernel
theorem d_Rf_goes_108 : decode M_Rf_goes.2.1 108 = .ok (.dup2, 1) := by decide +kernel
theorem d_Rf_goes_109 : decode M_Rf_goes.2.1 109 = .ok (.iaload, 1) := by decide +kernel
theorem d_Rf_goes_110 : decode M_Rf_goes.2.1 110 = .ok (.iconst 1, 1) := by decide +kernel
theorem d_Rf_goes_111 : decode M_Rf_goes.2.1 111 = .ok (.iadd, 1) := by decide +kernel
theorem d_Rf_goes_112 : decode M_Rf_goes.2.1 112 = .ok (.iastore, 1) := by decide +kernel
theorem d_Rf_goes_113 : decode M_Rf_goes.2.1 113 = .ok (.return_, 1) := by decide +kernel
set_option maxHeartbeats 4000000 in
set_option maxRecDepth 100000 in
theorem ok_Rf_goes {D : xD} {N : Nat} {l : Launch} {d : Nat} {c z : T2} {P Q : Nat → Int32} {rest : List va_E} {K : Option Value → List va_E → Prop} {nb : Nat} (hnb : c 32 1 = nI nb) (h12 : nb ≤ 12) {m : Nat} (hm : m < 14700) (hWI : WI P nb m) (hT : TI c) (hCI : CI c) (hcr : ∀ k, k < 36 → isN (P k) 600) (hpt : ∀ k, k < 36 → isN (P (36 + k)) 100) (hK : K none (encR D N c z (passP c P nb m) Q ++ rest)) : Ok D N l (d + 6) M_Rf_goes [.ref (N + 0)] (encR D N c z P Q ++ rest) 0 0 K := by
  have w1 := hWI.cm (c := c) (m2 := m) 36 (Nat.le_refl _)
  have w2 := w1.svs hT h12 6 (Nat.le_refl _)
  have w3 := hWI.p1 hT h12
  refine ok_of (L := [(0, _)]) (by decide) (Nat.le_of_ble_eq_true rfl) rfl ?_
  by_cases hd : m % 1440 = 1439
  · skip
    have lp3 : ∀ b : Nat, b ≤ nb → Wp D N l (EI M_Rf_goes) M_Rf_goes (Rm (d + 6) 0 0) (Qm D N K 0 0) 0 0 64 [(1, .int (nI b)), (0, .ref (N + 0))] [] (encR D N c z (stN c (pas1 c P nb m) nb m b) Q ++ rest) := by
      refine up_loop ?_ ?_
      · skip
        refine wp_iload_n (q := 65) d_Rf_goes_64 rfl rfl ?_
        refine wp_aload_n (q := 66) d_Rf_goes_65 rfl rfl ?_
        refine wp_get (q := 69) fl_Rf_155 d_Rf_goes_66 rfl rfl rfl ?_
        refine wp_icmp_ge_t (tgt := 101) d_Rf_goes_69 (by decide) (by rw [hnb]; exact nI_le (Nat.le_refl _) (by omega)) ?_
        refine wp_aload_n (q := 102) d_Rf_goes_101 rfl rfl ?_
        refine wp_get (q := 105) fl_Rf_7 d_Rf_goes_102 rfl rfl rfl ?_
        refine wp_sipush (q := 108) d_Rf_goes_105 rfl sp_234 ?_
        refine wp_dup2 (q := 109) d_Rf_goes_108 rfl rfl rfl ?_
        refine wp_iald (q := 110) d_Rf_goes_109 rfl (rfl) (by omega) (by decide) ?_
        rw [(w3.sts (c := c) h12 nb (Nat.le_refl _)).1]
        refine wp_iconst (q := 111) d_Rf_goes_110 rfl ic_1 ?_
        first | refine wp_iaddN (q := 112) d_Rf_goes_111 rfl ?_ | refine wp_iadd (q := 112) d_Rf_goes_111 rfl ?_
        refine wp_iast (q := 113) d_Rf_goes_112 rfl (rfl) (by omega) (by decide) (fr_P) ?_
        refine wp_vret d_Rf_goes_113 rfl (Nat.le_refl _) (Nat.le_refl _) ?_
        rw [passP, if_pos hd] at hK; exact hK
      · intro b hb ih
        refine wp_iload_n (q := 65) d_Rf_goes_64 rfl rfl ?_
        refine wp_aload_n (q := 66) d_Rf_goes_65 rfl rfl ?_
        refine wp_get (q := 69) fl_Rf_155 d_Rf_goes_66 rfl rfl rfl ?_
        refine wp_icmp_ge_f (q := 72) (tgt := 101) d_Rf_goes_69 (by decide) rfl (by rw [hnb]; exact nI_ge hb (by omega)) ?_
        refine wp_aload_n (q := 73) d_Rf_goes_72 rfl rfl ?_
        refine wp_get (q := 76) fl_Rf_7 d_Rf_goes_73 rfl rfl rfl ?_
        refine wp_sipush (q := 79) d_Rf_goes_76 rfl sp_234 ?_
        refine wp_iald (q := 80) d_Rf_goes_79 rfl (rfl) (by omega) (by decide) ?_
        have wb := w3.sts (c := c) h12 b (by omega)
        have cb := wb.2.1 b (by omega)
        rw [wb.1]
        refine wp_sipush (q := 83) d_Rf_goes_80 rfl sp_1440 ?_
        refine wp_iremN (q := 84) d_Rf_goes_83 rfl (by omega) (by decide) (by decide) ?_
        refine wp_sipush (q := 87) d_Rf_goes_84 rfl sp_1439 ?_
        refine wp_icmp_ne_f (q := 90) (tgt := 101) d_Rf_goes_87 (by decide) rfl (by rw [hd]) ?_
        refine wp_aload_n (q := 91) d_Rf_goes_90 rfl rfl ?_
        refine wp_iload_n (q := 92) d_Rf_goes_91 rfl rfl ?_
        refine wp_cv1 (q := 95) lk_Rf_257 (ro _ _ _) d_Rf_goes_92 rfl (Nat.le_of_ble_eq_true rfl) (rfl) rfl (Nat.zero_le _) (Nat.zero_le _) ?_
        refine ok_Rf_settles hnb h12 wb.1 hm (by omega) cb.1.2 cb.1.1 hCI ?_
        refine wp_iinc (q := 98) (L2 := [(1, _), (0, _)]) d_Rf_goes_95 rfl rfl (iinc_1) (by decide) rfl ?_
        refine wp_goto (tgt := 64) d_Rf_goes_98 (by decide) ?_
        exact ih
    have lp2 : ∀ b : Nat, b ≤ nb → Wp D N l (EI M_Rf_goes) M_Rf_goes (Rm (d + 6) 0 0) (Qm D N K 0 0) 0 0 25 [(1, .int (nI b)), (0, .ref (N + 0))] [] (encR D N c z (mvN (svN c (cmN c P m 36) nb m 6) b) Q ++ rest) := by
      refine up_loop ?_ ?_
      · skip
        refine wp_iload_n (q := 26) d_Rf_goes_25 rfl rfl ?_
        refine wp_aload_n (q := 27) d_Rf_goes_26 rfl rfl ?_
        refine wp_get (q := 30) fl_Rf_155 d_Rf_goes_27 rfl rfl rfl ?_
        refine wp_icmp_ge_t (tgt := 44) d_Rf_goes_30 (by decide) (by rw [hnb]; exact nI_le (Nat.le_refl _) (by omega)) ?_
        refine wp_aload_n (q := 45) d_Rf_goes_44 rfl rfl ?_
        refine wp_get (q := 48) fl_Rf_7 d_Rf_goes_45 rfl rfl rfl ?_
        refine wp_sipush (q := 51) d_Rf_goes_48 rfl sp_238 ?_
        refine wp_dup2 (q := 52) d_Rf_goes_51 rfl rfl rfl ?_
        refine wp_iald (q := 53) d_Rf_goes_52 rfl (rfl) (by omega) (by decide) ?_
        refine wp_aload_n (q := 54) d_Rf_goes_53 rfl rfl ?_
        refine wp_iconst (q := 55) d_Rf_goes_54 rfl ic_0 ?_
        refine wp_bipush (q := 57) d_Rf_goes_55 rfl bp_36 ?_
        refine wp_cv2 (q := 60) lk_Rf_254 (ro _ _ _) d_Rf_goes_57 rfl (Nat.le_of_ble_eq_true rfl) (rfl) rfl (Nat.zero_le _) (Nat.zero_le _) ?_
        refine ok_Rf_sum ?_
        refine wp_iadd (q := 61) d_Rf_goes_60 rfl ?_
        refine wp_iast (q := 62) d_Rf_goes_61 rfl (rfl) (by omega) (by decide) (fr_P) ?_
        refine wp_iconst (q := 63) d_Rf_goes_62 rfl ic_0 ?_
        refine wp_istore_n (q := 64) (L2 := [(1, _), (0, _)]) d_Rf_goes_63 rfl (by decide) rfl ?_
        exact lp3 0 (Nat.zero_le _)
      · intro b hb ih
        refine wp_iload_n (q := 26) d_Rf_goes_25 rfl rfl ?_
        refine wp_aload_n (q := 27) d_Rf_goes_26 rfl rfl ?_
        refine wp_get (q := 30) fl_Rf_155 d_Rf_goes_27 rfl rfl rfl ?_
        refine wp_icmp_ge_f (q := 33) (tgt := 44) d_Rf_goes_30 (by decide) rfl (by rw [hnb]; exact nI_ge hb (by omega)) ?_
        have wb := w2.mvs h12 b (by omega)
        have cb := wb.2.1 b (by omega)
        refine wp_aload_n (q := 34) d_Rf_goes_33 rfl rfl ?_
        refine wp_iload_n (q := 35) d_Rf_goes_34 rfl rfl ?_
        refine wp_cv1 (q := 38) lk_Rf_251 (ro _ _ _) d_Rf_goes_35 rfl (Nat.le_of_ble_eq_true rfl) (rfl) rfl (Nat.zero_le _) (Nat.zero_le _) ?_
        refine ok_Rf_goesBus (by omega) cb.2.2.1.1 cb.2.2.1.2 cb.1.1 cb.1.2 cb.2.1.1 cb.2.1.2 ?_
        refine wp_iinc (q := 41) (L2 := [(1, _), (0, _)]) d_Rf_goes_38 rfl rfl (iinc_1) (by decide) rfl ?_
        refine wp_goto (tgt := 25) d_Rf_goes_41 (by decide) ?_
        exact ih
    have lp1 : ∀ s : Nat, s ≤ 6 → Wp D N l (EI M_Rf_goes) M_Rf_goes (Rm (d + 6) 0 0) (Qm D N K 0 0) 0 0 6 [(1, .int (nI s)), (0, .ref (N + 0))] [] (encR D N c z (svN c (cmN c P m 36) nb m s) Q ++ rest) := by
      refine up_loop ?_ ?_
      · skip
        refine wp_iload_n (q := 7) d_Rf_goes_6 rfl rfl ?_
        refine wp_bipush (q := 9) d_Rf_goes_7 rfl bp_6 ?_
        refine wp_icmp_ge_t (tgt := 23) d_Rf_goes_9 (by decide) (nI_le (Nat.le_refl _) (by decide)) ?_
        refine wp_iconst (q := 24) d_Rf_goes_23 rfl ic_0 ?_
        refine wp_istore_n (q := 25) (L2 := [(1, _), (0, _)]) d_Rf_goes_24 rfl (by decide) rfl ?_
        exact lp2 0 (Nat.zero_le _)
      · intro s hs ih
        refine wp_iload_n (q := 7) d_Rf_goes_6 rfl rfl ?_
        refine wp_bipush (q := 9) d_Rf_goes_7 rfl bp_6 ?_
        refine wp_icmp_ge_f (q := 12) (tgt := 23) d_Rf_goes_9 (by decide) rfl (nI_ge hs (by decide)) ?_
        have ws := w1.svs hT h12 s (by omega)
        refine wp_aload_n (q := 13) d_Rf_goes_12 rfl rfl ?_
        refine wp_iload_n (q := 14) d_Rf_goes_13 rfl rfl ?_
        refine wp_cv1 (q := 17) lk_Rf_247 (ro _ _ _) d_Rf_goes_14 rfl (Nat.le_of_ble_eq_true rfl) (rfl) rfl (Nat.zero_le _) (Nat.zero_le _) ?_
        refine ok_Rf_loads hnb h12 ws.1 hm hs (fun b hb => ⟨(ws.2.1 b hb).2.2.1, (ws.2.1 b hb).2.1⟩) hT.2.2 hCI ?_
        refine wp_iinc (q := 20) (L2 := [(1, _), (0, _)]) d_Rf_goes_17 rfl rfl (iinc_1) (by decide) rfl ?_
        refine wp_goto (tgt := 6) d_Rf_goes_20 (by decide) ?_
        exact ih
    refine wp_aload_n (q := 1) d_Rf_goes_0 rfl rfl ?_
    refine wp_cv0 (q := 4) lk_Rf_244 (ro _ _ _) d_Rf_goes_1 rfl (Nat.le_of_ble_eq_true rfl) (rfl) rfl (Nat.zero_le _) (Nat.zero_le _) ?_
    refine ok_Rf_come hWI.1 hm hcr hpt (fun k hk => (hT.1 k hk).2) ?_
    refine wp_iconst (q := 5) d_Rf_goes_4 rfl ic_0 ?_
    refine wp_istore_n (q := 6) (L2 := [(1, _), (0, _)]) d_Rf_goes_5 rfl (by decide) rfl ?_
    exact lp1 0 (Nat.zero_le _)
  · skip
    have lp2 : ∀ b : Nat, b ≤ nb → Wp D N l (EI M_Rf_goes) M_Rf_goes (Rm (d + 6) 0 0) (Qm D N K 0 0) 0 0 25 [(1, .int (nI b)), (0, .ref (N + 0))] [] (encR D N c z (mvN (svN c (cmN c P m 36) nb m 6) b) Q ++ rest) := by
      refine up_loop ?_ ?_
      · skip
        refine wp_iload_n (q := 26) d_Rf_goes_25 rfl rfl ?_
        refine wp_aload_n (q := 27) d_Rf_goes_26 rfl rfl ?_
        refine wp_get (q := 30) fl_Rf_155 d_Rf_goes_27 rfl rfl rfl ?_
        refine wp_icmp_ge_t (tgt := 44) d_Rf_goes_30 (by decide) (by rw [hnb]; exact nI_le (Nat.le_refl _) (by omega)) ?_
        refine wp_aload_n (q := 45) d_Rf_goes_44 rfl rfl ?_
        refine wp_get (q := 48) fl_Rf_7 d_Rf_goes_45 rfl rfl rfl ?_
        refine wp_sipush (q := 51) d_Rf_goes_48 rfl sp_238 ?_
        refine wp_dup2 (q := 52) d_Rf_goes_51 rfl rfl rfl ?_
        refine wp_iald (q := 53) d_Rf_goes_52 rfl (rfl) (by omega) (by decide) ?_
        refine wp_aload_n (q := 54) d_Rf_goes_53 rfl rfl ?_
        refine wp_iconst (q := 55) d_Rf_goes_54 rfl ic_0 ?_
        refine wp_bipush (q := 57) d_Rf_goes_55 rfl bp_36 ?_
        refine wp_cv2 (q := 60) lk_Rf_254 (ro _ _ _) d_Rf_goes_57 rfl (Nat.le_of_ble_eq_true rfl) (rfl) rfl (Nat.zero_le _) (Nat.zero_le _) ?_
        refine ok_Rf_sum ?_
        refine wp_iadd (q := 61) d_Rf_goes_60 rfl ?_
        refine wp_iast (q := 62) d_Rf_goes_61 rfl (rfl) (by omega) (by decide) (fr_P) ?_
        change Wp D N l (EI M_Rf_goes) M_Rf_goes (Rm (d + 6) 0 0) (Qm D N K 0 0) 0 0 62 _ _ (encR D N c z (pas1 c P nb m) Q ++ rest)
        refine wp_iconst (q := 63) d_Rf_goes_62 rfl ic_0 ?_
        refine wp_istore_n (q := 64) (L2 := [(1, _), (0, _)]) d_Rf_goes_63 rfl (by decide) rfl ?_
        refine wp_iload_n (q := 65) d_Rf_goes_64 rfl rfl ?_
        refine wp_aload_n (q := 66) d_Rf_goes_65 rfl rfl ?_
        refine wp_get (q := 69) fl_Rf_155 d_Rf_goes_66 rfl rfl rfl ?_
        refine wp_icmp_ge (q := 72) (tgt := 101) d_Rf_goes_69 (by decide) rfl (fun hc_69 => ?_) (fun hc_69 => ?_)
        · refine wp_aload_n (q := 102) d_Rf_goes_101 rfl rfl ?_
          refine wp_get (q := 105) fl_Rf_7 d_Rf_goes_102 rfl rfl rfl ?_
          refine wp_sipush (q := 108) d_Rf_goes_105 rfl sp_234 ?_
          refine wp_dup2 (q := 109) d_Rf_goes_108 rfl rfl rfl ?_
          refine wp_iald (q := 110) d_Rf_goes_109 rfl (rfl) (by omega) (by decide) ?_
          rw [w3.1]
          refine wp_iconst (q := 111) d_Rf_goes_110 rfl ic_1 ?_
          first | refine wp_iaddN (q := 112) d_Rf_goes_111 rfl ?_ | refine wp_iadd (q := 112) d_Rf_goes_111 rfl ?_
          refine wp_iast (q := 113) d_Rf_goes_112 rfl (rfl) (by omega) (by decide) (fr_P) ?_
          refine wp_vret d_Rf_goes_113 rfl (Nat.le_refl _) (Nat.le_refl _) ?_
          rw [passP, if_neg hd] at hK; exact hK
        · refine wp_aload_n (q := 73) d_Rf_goes_72 rfl rfl ?_
          refine wp_get (q := 76) fl_Rf_7 d_Rf_goes_73 rfl rfl rfl ?_
          refine wp_sipush (q := 79) d_Rf_goes_76 rfl sp_234 ?_
          refine wp_iald (q := 80) d_Rf_goes_79 rfl (rfl) (by omega) (by decide) ?_
          rw [w3.1]
          refine wp_sipush (q := 83) d_Rf_goes_80 rfl sp_1440 ?_
          refine wp_iremN (q := 84) d_Rf_goes_83 rfl (by omega) (by decide) (by decide) ?_
          refine wp_sipush (q := 87) d_Rf_goes_84 rfl sp_1439 ?_
          refine wp_icmp_ne_t (tgt := 101) d_Rf_goes_87 (by decide) (fun z => hd ((nI_eq (by omega) (by decide)).mp z)) ?_
          refine wp_aload_n (q := 102) d_Rf_goes_101 rfl rfl ?_
          refine wp_get (q := 105) fl_Rf_7 d_Rf_goes_102 rfl rfl rfl ?_
          refine wp_sipush (q := 108) d_Rf_goes_105 rfl sp_234 ?_
          refine wp_dup2 (q := 109) d_Rf_goes_108 rfl rfl rfl ?_
          refine wp_iald (q := 110) d_Rf_goes_109 rfl (rfl) (by omega) (by decide) ?_
          rw [w3.1]
          refine wp_iconst (q := 111) d_Rf_goes_110 rfl ic_1 ?_
          first | refine wp_iaddN (q := 112) d_Rf_goes_111 rfl ?_ | refine wp_iadd (q := 112) d_Rf_goes_111 rfl ?_
          refine wp_iast (q := 113) d_Rf_goes_112 rfl (rfl) (by omega) (by decide) (fr_P) ?_
          refine wp_vret d_Rf_goes_113 rfl (Nat.le_refl _) (Nat.le_refl _) ?_
          rw [passP, if_neg hd] at hK; exact hK
      · intro b hb ih
        refine wp_iload_n (q := 26) d_Rf_goes_25 rfl rfl ?_
        refine wp_aload_n (q := 27) d_Rf_goes_26 rfl rfl ?_
        refine wp_get (q := 30) fl_Rf_155 d_Rf_goes_27 rfl rfl rfl ?_
        refine wp_icmp_ge_f (q := 33) (tgt := 44) d_Rf_goes_30 (by decide) rfl (by rw [hnb]; exact nI_ge hb (by omega)) ?_
        have wb := w2.mvs h12 b (by omega)
        have cb := wb.2.1 b (by omega)
        refine wp_aload_n (q := 34) d_Rf_goes_33 rfl rfl ?_
        refine wp_iload_n (q := 35) d_Rf_goes_34 rfl rfl ?_
        refine wp_cv1 (q := 38) lk_Rf_251 (ro _ _ _) d_Rf_goes_35 rfl (Nat.le_of_ble_eq_true rfl) (rfl) rfl (Nat.zero_le _) (Nat.zero_le _) ?_
        refine ok_Rf_goesBus (by omega) cb.2.2.1.1 cb.2.2.1.2 cb.1.1 cb.1.2 cb.2.1.1 cb.2.1.2 ?_
        refine wp_iinc (q := 41) (L2 := [(1, _), (0, _)]) d_Rf_goes_38 rfl rfl (iinc_1) (by decide) rfl ?_
        refine wp_goto (tgt := 25) d_Rf_goes_41 (by decide) ?_
        exact ih
    have lp1 : ∀ s : Nat, s ≤ 6 → Wp D N l (EI M_Rf_goes) M_Rf_goes (Rm (d + 6) 0 0) (Qm D N K 0 0) 0 0 6 [(1, .int (nI s)), (0, .ref (N + 0))] [] (encR D N c z (svN c (cmN c P m 36) nb m s) Q ++ rest) := by
      refine up_loop ?_ ?_
      · skip
        refine wp_iload_n (q := 7) d_Rf_goes_6 rfl rfl ?_
        refine wp_bipush (q := 9) d_Rf_goes_7 rfl bp_6 ?_
        refine wp_icmp_ge_t (tgt := 23) d_Rf_goes_9 (by decide) (nI_le (Nat.le_refl _) (by decide)) ?_
        refine wp_iconst (q := 24) d_Rf_goes_23 rfl ic_0 ?_
        refine wp_istore_n (q := 25) (L2 := [(1, _), (0, _)]) d_Rf_goes_24 rfl (by decide) rfl ?_
        exact lp2 0 (Nat.zero_le _)
      · intro s hs ih
        refine wp_iload_n (q := 7) d_Rf_goes_6 rfl rfl ?_
        refine wp_bipush (q := 9) d_Rf_goes_7 rfl bp_6 ?_
        refine wp_icmp_ge_f (q := 12) (tgt := 23) d_Rf_goes_9 (by decide) rfl (nI_ge hs (by decide)) ?_
        have ws := w1.svs hT h12 s (by omega)
        refine wp_aload_n (q := 13) d_Rf_goes_12 rfl rfl ?_
        refine wp_iload_n (q := 14) d_Rf_goes_13 rfl rfl ?_
        refine wp_cv1 (q := 17) lk_Rf_247 (ro _ _ _) d_Rf_goes_14 rfl (Nat.le_of_ble_eq_true rfl) (rfl) rfl (Nat.zero_le _) (Nat.zero_le _) ?_
        refine ok_Rf_loads hnb h12 ws.1 hm hs (fun b hb => ⟨(ws.2.1 b hb).2.2.1, (ws.2.1 b hb).2.1⟩) hT.2.2 hCI ?_
        refine wp_iinc (q := 20) (L2 := [(1, _), (0, _)]) d_Rf_goes_17 rfl rfl (iinc_1) (by decide) rfl ?_
        refine wp_goto (tgt := 6) d_Rf_goes_20 (by decide) ?_
        exact ih
    refine wp_aload_n (q := 1) d_Rf_goes_0 rfl rfl ?_
    refine wp_cv0 (q := 4) lk_Rf_244 (ro _ _ _) d_Rf_goes_1 rfl (Nat.le_of_ble_eq_true rfl) (rfl) rfl (Nat.zero_le _) (Nat.zero_le _) ?_
    refine ok_Rf_come hWI.1 hm hcr hpt (fun k hk => (hT.1 k hk).2) ?_
    refine wp_iconst (q := 5) d_Rf_goes_4 rfl ic_0 ?_
    refine wp_istore_n (q := 6) (L2 := [(1, _), (0, _)]) d_Rf_goes_5 rfl (by decide) rfl ?_
    exact lp1 0 (Nat.zero_le _)
theorem d_Tn_pass_0 : decode M_Tn_pass.2.1 0 = .ok (.aload_n 0, 1) := by decide +kernel
theorem d_Tn_pass_1 : decode M_Tn_pass.2.1 1 = .ok (.aload_n 1, 1) := by decide +kernel
theorem d_Tn_pass_2 : decode M_Tn_pass.2.1 2 = .ok (.invokevirtual 152, 3) := by decide +kernel
theorem d_Tn_pass_5 : decode M_Tn_pass.2.1 5 = .ok (.iconst 0, 1) := by decide +kernel
theorem d_Tn_pass_6 : decode M_Tn_pass.2.1 6 = .ok (.istore_n 2, 1) := by decide +kernel
theorem d_Tn_pass_7 : decode M_Tn_pass.2.1 7 = .ok (.iload_n 2, 1) := by decide +kernel
theorem d_Tn_pass_8 : decode M_Tn_pass.2.1 8 = .ok (.bipush 6, 2) := by decide +kernel
theorem d_Tn_pass_10 : decode M_Tn_pass.2.1 10 = .ok (.if_icmp .ge 15, 3) := by decide +kernel
theorem d_Tn_pass_13 : decode M_Tn_pass.2.1 13 = .ok (.aload_n 0, 1) := by decide +kernel
theorem d_Tn_pass_14 : decode M_Tn_pass.2.1 14 = .ok (.aload_n 1, 1) := by decide +kernel
theorem d_Tn_pass_15 : decode M_Tn_pass.2.1 15 = .ok (.iload_n 2, 1) := by decide +kernel
theorem d_Tn_pass_16 : decode M_Tn_pass.2.1 16 = .ok (.invokevirtual 156, 3) := by decide +kernel
theorem d_Tn_pass_19 : decode M_Tn_pass.2.1 19 = .ok (.iinc 2 1, 3) := by decide +kernel
theorem d_Tn_pass_22 : decode M_Tn_pass.2.1 22 = .ok (.goto (-15), 3) := by decide +kernel
theorem d_Tn_pass_25 : decode M_Tn_pass.2.1 25 = .ok (.iconst 0, 1) := by decide +kernel
theorem d_Tn_pass_26 : decode M_Tn_pass.2.1 26 = .ok (.istore_n 2, 1) := by decide +kernel
theorem d_Tn_pass_27 : decode M_Tn_pass.2.1 27 = .ok (.iload_n 2, 1) := by decide +kernel
theorem d_Tn_pass_28 : decode M_Tn_pass.2.1 28 = .ok (.aload_n 0, 1) := by decide +kernel
theorem d_Tn_pass_29 : decode M_Tn_pass.2.1 29 = .ok (.getfield 77, 3) := by decide +kernel
theorem d_Tn_pass_32 : decode M_Tn_pass.2.1 32 = .ok (.if_icmp .ge 15, 3) := by decide +kernel
theorem d_Tn_pass_35 : decode M_Tn_pass.2.1 35 = .ok (.aload_n 0, 1) := by decide +kernel
theorem d_Tn_pass_36 : decode M_Tn_pass.2.1 36 = .ok (.aload_n 1, 1) := by decide +kernel
theorem d_Tn_pass_37 : decode M_Tn_pass.2.1 37 = .ok (.iload_n 2, 1) := by decide +kernel
theorem d_Tn_pass_38 : decode M_Tn_pass.2.1 38 = .ok (.invokevirtual 160, 3) := by decide +kernel
theorem d_Tn_pass_41 : decode M_Tn_pass.2.1 41 = .ok (.iinc 2 1, 3) := by decide +kernel
theorem d_Tn_pass_44 : decode M_Tn_pass.2.1 44 = .ok (.goto (-17), 3) := by decide +kernel
theorem d_Tn_pass_47 : decode M_Tn_pass.2.1 47 = .ok (.iconst 0, 1) := by decide +kernel
theorem d_Tn_pass_48 : decode M_Tn_pass.2.1 48 = .ok (.istore_n 2, 1) := by decide +kernel
theorem d_Tn_pass_49 : decode M_Tn_pass.2.1 49 = .ok (.iload_n 2, 1) := by decide +kernel
theorem d_Tn_pass_50 : decode M_Tn_pass.2.1 50 = .ok (.bipush 36, 2) := by decide +kernel
theorem d_Tn_pass_52 : decode M_Tn_pass.2.1 52 = .ok (.if_icmp .ge 24, 3) := by decide +kernel
theorem d_Tn_pass_55 : decode M_Tn_pass.2.1 55 = .ok (.aload_n 1, 1) := by decide +kernel
theorem d_Tn_pass_56 : decode M_Tn_pass.2.1 56 = .ok (.dup, 1) := by decide +kernel
theorem d_Tn_pass_57 : decode M_Tn_pass.2.1 57 = .ok (.getfield 163, 3) := by decide +kernel
theorem d_Tn_pass_60 : decode M_Tn_pass.2.1 60 = .ok (.aload_n 1, 1) := by decide +kernel
theorem d_Tn_pass_61 : decode M_Tn_pass.2.1 61 = .ok (.getfield 149, 3) := by decide +kernel
theorem d_Tn_pass_64 : decode M_Tn_pass.2.1 64 = .ok (.iload_n 2, 1) := by decide +kernel
theorem d_Tn_pass_65 : decode M_Tn_pass.2.1 65 = .ok (.iaload, 1) := by decide +kernel
theorem d_Tn_pass_66 : decode M_Tn_pass.2.1 66 = .ok (.iadd, 1) := by decide +kernel
theorem d_Tn_pass_67 : decode M_Tn_pass.2.1 67 = .ok (.putfield 163, 3) := by decide +kernel
theorem d_Tn_pass_70 : decode M_Tn_pass.2.1 70 = .ok (.iinc 2 1, 3) := by decide +kernel
theorem d_Tn_pass_73 : decode M_Tn_pass.2.1 73 = .ok (.goto (-24), 3) := by decide +kernel
theorem d_Tn_pass_76 : decode M_Tn_pass.2.1 76 = .ok (.aload_n 1, 1) := by decide +kernel
theorem d_Tn_pass_77 : decode M_Tn_pass.2.1 77 = .ok (.getfield 121, 3) := by decide +kernel
theorem d_Tn_pass_80 : decode M_Tn_pass.2.1 80 = .ok (.sipush 1440, 3) := by decide +kernel
theorem d_Tn_pass_83 : decode M_Tn_pass.2.1 83 = .ok (.irem, 1) := by decide +kernel
theorem d_Tn_pass_84 : decode M_Tn_pass.2.1 84 = .ok (.sipush 1439, 3) := by decide +kernel
theorem d_Tn_pass_87 : decode M_Tn_pass.2.1 87 = .ok (.if_icmp .ne 25, 3) := by decide +kernel
theorem d_Tn_pass_90 : decode M_Tn_pass.2.1 90 = .ok (.iconst 0, 1) := by decide +kernel
theorem d_Tn_pass_91 : decode M_Tn_pass.2.1 91 = .ok (.istore_n 2, 1) := by decide +kernel
theorem d_Tn_pass_92 : decode M_Tn_pass.2.1 92 = .ok (.iload_n 2, 1) := by decide +kernel
theorem d_Tn_pass_93 : decode M_Tn_pass.2.1 93 = .ok (.aload_n 0, 1) := by decide +kernel
theorem d_Tn_pass_94 : decode M_Tn_pass.2.1 94 = .ok (.getfield 77, 3) := by decide +kernel
theorem d_Tn_pass_97 : decode M_Tn_pass.2.1 97 = .ok (.if_icmp .ge 15, 3) := by decide +kernel
theorem d_Tn_pass_100 : decode M_Tn_pass.2.1 100 = .ok (.aload_n 0, 1) := by decide +kernel
theorem d_Tn_pass_101 : decode M_Tn_pass.2.1 101 = .ok (.aload_n 1, 1) := by decide +kernel
theorem d_Tn_pass_102 : decode M_Tn_pass.2.1 102 = .ok (.iload_n 2, 1) := by decide +kernel
theorem d_Tn_pass_103 : decode M_Tn_pass.2.1 103 = .ok (.invokevirtual 166, 3) := by decide +kernel
theorem d_Tn_pass_106 : decode M_Tn_pass.2.1 106 = .ok (.iinc 2 1, 3) := by decide +kernel
theorem d_Tn_pass_109 : decode M_Tn_pass.2.1 109 = .ok (.goto (-17), 3) := by decide +kernel
theorem d_Tn_pass_112 : decode M_Tn_pass.2.1 112 = .ok (.aload_n 1, 1) := by decide +kernel
theorem d_Tn_pass_113 : decode M_Tn_pass.2.1 113 = .ok (.dup, 1) := by decide +kernel
theorem d_Tn_pass_114 : decode M_Tn_pass.2.1 114 = .ok (.getfield 121, 3) := by decide +kernel
theorem d_Tn_pass_117 : decode M_Tn_pass.2.1 117 = .ok (.iconst 1, 1) := by decide +kernel
theorem d_Tn_pass_118 : decode M_Tn_pass.2.1 118 = .ok (.iadd, 1) := by decide +kernel
theorem d_Tn_pass_119 : decode M_Tn_pass.2.1 119 = .ok (.putfield 121, 3) := by decide +kernel
theorem d_Tn_pass_122 : decode M_Tn_pass.2.1 122 = .ok (.return_, 1) := by decide +kernel
theorem sm_step {P : Nat → Int32} {i : Nat} (hi : i < 36) : upd (upd P 238 (P 238 + smN P i)) 238 ((upd P 238 (P 238 + smN P i)) 238 + P i) = upd P 238 (P 238 + smN P (i + 1)) := by
  rw [upd_eq, smN, Int32.add_assoc]
  funext j; simp only [upd]; split <;> rfl
theorem hr0_of {c : T2} (hT : TI c) : ∀ i, i < 36 → (0 < c 2 i ↔ ¬ c 2 i = 0) := by
  intro i hi
  obtain ⟨e, h⟩ := (hT.1 i hi).1
  rw [e]
  generalize tn (c 2 i) = u at h
  rw [← nI_0, nI_ltI (by decide) (by omega), nI_eq (by omega) (by decide)]
  omega
set_option maxHeartbeats 4000000 in
set_option maxRecDepth 100000 in
theorem ok_Tn_pass {D : xD} {N : Nat} {l : Launch} {d : Nat} {c x V : T2} {P : Nat → Int32} {w : Nat} {ln df : Nat → Option Nat} {rest : List va_E} {K : Option Value → List va_E → Prop} {nb : Nat} (hnb : c 32 1 = nI nb) (h12 : nb ≤ 12) (hw : w < 3) {m : Nat} (hm : m < 14700) (hWI : WI P nb m) (hT : TI c) (hCI : CI c) (hLOK : LOK D N c ln rest) (hcr : ∀ k, k < 36 → isN (P k) 600) (hpt : ∀ k, k < 36 → isN (P (36 + k)) 100) (hK : ∀ x2 : T2, K none (encC D N c x2 (va_up V w (passP c P nb m)) ln df ++ rest)) : Ok D N l (d + 6) M_Tn_pass [.ref (N + 1), .ref (N + wA w)] (encC D N c x (va_up V w P) ln df ++ rest) 0 0 K := by
  have w1 := hWI.cm (c := c) (m2 := m) 36 (Nat.le_refl _)
  have w2 := w1.svs hT h12 6 (Nat.le_refl _)
  have w3 := hWI.p1 hT h12
  refine ok_of (L := [(0, _), (1, _)]) (by decide) (Nat.le_of_ble_eq_true rfl) rfl ?_
  by_cases hd : m % 1440 = 1439
  · skip
    have lp4 : ∀ b : Nat, b ≤ nb → ∀ x : T2, Wp D N l (EI M_Tn_pass) M_Tn_pass (Rm (d + 6) 0 0) (Qm D N K 0 0) 0 0 92 [(2, .int (nI b)), (0, .ref (N + 1)), (1, .ref (N + wA w))] [] (encC D N c x (va_up V w (stN c (pas1 c P nb m) nb m b)) ln df ++ rest) := by
      refine up_loop ?_ ?_
      · intro x
        refine wp_iload_n (q := 93) d_Tn_pass_92 rfl rfl ?_
        refine wp_aload_n (q := 94) d_Tn_pass_93 rfl rfl ?_
        refine wp_get (q := 97) fl_Tn_77 d_Tn_pass_94 rfl rfl rfl ?_
        refine wp_icmp_ge_t (tgt := 112) d_Tn_pass_97 (by decide) (by rw [hnb]; exact nI_le (Nat.le_refl _) (by omega)) ?_
        refine wp_aload_n (q := 113) d_Tn_pass_112 rfl rfl ?_
        refine wp_dup (q := 114) d_Tn_pass_113 rfl rfl ?_
        refine wp_get (q := 117) fl_Tn_121 d_Tn_pass_114 rfl (rdO (w := w) hw) rfl ?_
        rw [(w3.sts (c := c) h12 nb (Nat.le_refl _)).1]
        refine wp_iconst (q := 118) d_Tn_pass_117 rfl ic_1 ?_
        first | refine wp_iaddN (q := 119) d_Tn_pass_118 rfl ?_ | refine wp_iadd (q := 119) d_Tn_pass_118 rfl ?_
        refine wp_put (q := 122) fl_Tn_121 d_Tn_pass_119 rfl (rdO (w := w) hw) (Nat.le_of_ble_eq_true rfl) rfl rfl (fdw (w := w) (i := 0) hw (by decide) ws_o0) ?_
        refine wp_vret d_Tn_pass_122 rfl (Nat.le_refl _) (Nat.le_refl _) ?_
        exact kP (hK _) rfl (by rw [passP, if_pos hd])
      · intro b hb ih x
        refine wp_iload_n (q := 93) d_Tn_pass_92 rfl rfl ?_
        refine wp_aload_n (q := 94) d_Tn_pass_93 rfl rfl ?_
        refine wp_get (q := 97) fl_Tn_77 d_Tn_pass_94 rfl rfl rfl ?_
        refine wp_icmp_ge_f (q := 100) (tgt := 112) d_Tn_pass_97 (by decide) rfl (by rw [hnb]; exact nI_ge hb (by omega)) ?_
        have wb := w3.sts (c := c) h12 b (by omega)
        have cb := wb.2.1 b (by omega)
        refine wp_aload_n (q := 101) d_Tn_pass_100 rfl rfl ?_
        refine wp_aload_n (q := 102) d_Tn_pass_101 rfl rfl ?_
        refine wp_iload_n (q := 103) d_Tn_pass_102 rfl rfl ?_
        refine wp_cv2 (q := 106) lk_Tn_166 (ro _ _ _) d_Tn_pass_103 rfl (Nat.le_of_ble_eq_true rfl) (rfl) rfl (Nat.zero_le _) (Nat.zero_le _) ?_
        refine ok_Tn_settle (w := w) h12 wb.2.2 hw wb.1 hm (by omega) cb.1.2 cb.1.1 hCI hLOK ?_
        intro x2
        refine wp_iinc (q := 109) (L2 := [(2, _), (0, _), (1, _)]) d_Tn_pass_106 rfl rfl (iinc_1) (by decide) rfl ?_
        refine wp_goto (tgt := 92) d_Tn_pass_109 (by decide) ?_
        exact ih x2
    have lp3 : ∀ i : Nat, i ≤ 36 → ∀ x : T2, Wp D N l (EI M_Tn_pass) M_Tn_pass (Rm (d + 6) 0 0) (Qm D N K 0 0) 0 0 49 [(2, .int (nI i)), (0, .ref (N + 1)), (1, .ref (N + wA w))] [] (encC D N c x (va_up V w (upd (mvN (svN c (cmN c P m 36) nb m 6) nb) 238 ((mvN (svN c (cmN c P m 36) nb m 6) nb) 238 + smN (mvN (svN c (cmN c P m 36) nb m 6) nb) i))) ln df ++ rest) := by
      refine up_loop ?_ ?_
      · intro x
        refine wp_iload_n (q := 50) d_Tn_pass_49 rfl rfl ?_
        refine wp_bipush (q := 52) d_Tn_pass_50 rfl bp_36 ?_
        refine wp_icmp_ge_t (tgt := 76) d_Tn_pass_52 (by decide) (nI_le (Nat.le_refl _) (by decide)) ?_
        change Wp D N l (EI M_Tn_pass) M_Tn_pass (Rm (d + 6) 0 0) (Qm D N K 0 0) 0 0 76 _ _ (encC D N c x (va_up V w (pas1 c P nb m)) ln df ++ rest)
        refine wp_aload_n (q := 77) d_Tn_pass_76 rfl rfl ?_
        refine wp_get (q := 80) fl_Tn_121 d_Tn_pass_77 rfl (rdO (w := w) hw) rfl ?_
        rw [w3.1]
        refine wp_sipush (q := 83) d_Tn_pass_80 rfl sp_1440 ?_
        refine wp_iremN (q := 84) d_Tn_pass_83 rfl (by omega) (by decide) (by decide) ?_
        refine wp_sipush (q := 87) d_Tn_pass_84 rfl sp_1439 ?_
        refine wp_icmp_ne_f (q := 90) (tgt := 112) d_Tn_pass_87 (by decide) rfl (by rw [hd]) ?_
        refine wp_iconst (q := 91) d_Tn_pass_90 rfl ic_0 ?_
        refine wp_istore_n (q := 92) (L2 := [(2, _), (0, _), (1, _)]) d_Tn_pass_91 rfl (by decide) rfl ?_
        exact lp4 0 (Nat.zero_le _) x
      · intro i hi ih x
        refine wp_iload_n (q := 50) d_Tn_pass_49 rfl rfl ?_
        refine wp_bipush (q := 52) d_Tn_pass_50 rfl bp_36 ?_
        refine wp_icmp_ge_f (q := 55) (tgt := 76) d_Tn_pass_52 (by decide) rfl (nI_ge hi (by decide)) ?_
        refine wp_aload_n (q := 56) d_Tn_pass_55 rfl rfl ?_
        refine wp_dup (q := 57) d_Tn_pass_56 rfl rfl ?_
        refine wp_get (q := 60) fl_Tn_163 d_Tn_pass_57 rfl (rdO (w := w) hw) rfl ?_
        refine wp_aload_n (q := 61) d_Tn_pass_60 rfl rfl ?_
        refine wp_get (q := 64) fl_Tn_149 d_Tn_pass_61 rfl (rdO (w := w) hw) rfl ?_
        refine wp_iload_n (q := 65) d_Tn_pass_64 rfl rfl ?_
        refine wp_iald (q := 66) d_Tn_pass_65 rfl (rd1 (w := w) hw) (by omega) (by decide) ?_
        rw [sl_at (show i < 36 by omega), Nat.zero_add, show (upd (mvN (svN c (cmN c P m 36) nb m 6) nb) 238 (mvN (svN c (cmN c P m 36) nb m 6) nb 238 + smN (mvN (svN c (cmN c P m 36) nb m 6) nb) i)) i = mvN (svN c (cmN c P m 36) nb m 6) nb i from upd_ne _ _ (by omega)]
        refine wp_iadd (q := 67) d_Tn_pass_66 rfl ?_
        refine wp_put (q := 70) fl_Tn_163 d_Tn_pass_67 rfl (rdO (w := w) hw) (Nat.le_of_ble_eq_true rfl) rfl rfl (fdw (w := w) (i := 0) hw (by decide) ws_o4) ?_
        refine wp_iinc (q := 73) (L2 := [(2, _), (0, _), (1, _)]) d_Tn_pass_70 rfl rfl (iinc_1) (by decide) rfl ?_
        refine wp_goto (tgt := 49) d_Tn_pass_73 (by decide) ?_
        exact wpC (ih x) (sm_step hi).symm
    have lp2 : ∀ b : Nat, b ≤ nb → ∀ x : T2, Wp D N l (EI M_Tn_pass) M_Tn_pass (Rm (d + 6) 0 0) (Qm D N K 0 0) 0 0 27 [(2, .int (nI b)), (0, .ref (N + 1)), (1, .ref (N + wA w))] [] (encC D N c x (va_up V w (mvN (svN c (cmN c P m 36) nb m 6) b)) ln df ++ rest) := by
      refine up_loop ?_ ?_
      · intro x
        refine wp_iload_n (q := 28) d_Tn_pass_27 rfl rfl ?_
        refine wp_aload_n (q := 29) d_Tn_pass_28 rfl rfl ?_
        refine wp_get (q := 32) fl_Tn_77 d_Tn_pass_29 rfl rfl rfl ?_
        refine wp_icmp_ge_t (tgt := 47) d_Tn_pass_32 (by decide) (by rw [hnb]; exact nI_le (Nat.le_refl _) (by omega)) ?_
        refine wp_iconst (q := 48) d_Tn_pass_47 rfl ic_0 ?_
        refine wp_istore_n (q := 49) (L2 := [(2, _), (0, _), (1, _)]) d_Tn_pass_48 rfl (by decide) rfl ?_
        exact wpC (lp3 0 (Nat.zero_le _) x) (by rw [smN, add_0]; exact upd_id rfl)
      · intro b hb ih x
        refine wp_iload_n (q := 28) d_Tn_pass_27 rfl rfl ?_
        refine wp_aload_n (q := 29) d_Tn_pass_28 rfl rfl ?_
        refine wp_get (q := 32) fl_Tn_77 d_Tn_pass_29 rfl rfl rfl ?_
        refine wp_icmp_ge_f (q := 35) (tgt := 47) d_Tn_pass_32 (by decide) rfl (by rw [hnb]; exact nI_ge hb (by omega)) ?_
        have wb := w2.mvs h12 b (by omega)
        have cb := wb.2.1 b (by omega)
        refine wp_aload_n (q := 36) d_Tn_pass_35 rfl rfl ?_
        refine wp_aload_n (q := 37) d_Tn_pass_36 rfl rfl ?_
        refine wp_iload_n (q := 38) d_Tn_pass_37 rfl rfl ?_
        refine wp_cv2 (q := 41) lk_Tn_160 (ro _ _ _) d_Tn_pass_38 rfl (Nat.le_of_ble_eq_true rfl) (rfl) rfl (Nat.zero_le _) (Nat.zero_le _) ?_
        refine ok_Tn_move (w := w) hw (by omega) cb.2.2.1.1 cb.2.2.1.2 cb.1.1 cb.1.2 cb.2.1.1 cb.2.1.2 (fun e3 hz0 => ?_) ?_
        · obtain ⟨q, hq, e⟩ := cb.2.2.2 (Or.inl e3)
          rw [e, pk_sub (by omega : 1 ≤ q + 1), Nat.add_sub_cancel] at hz0 ⊢
          have : ¬ 0 < q := fun z => hz0 (by rw [← nI_0]; exact nI_lt z (by omega))
          rw [show q = 0 by omega]; exact nI_0
        refine wp_iinc (q := 44) (L2 := [(2, _), (0, _), (1, _)]) d_Tn_pass_41 rfl rfl (iinc_1) (by decide) rfl ?_
        refine wp_goto (tgt := 27) d_Tn_pass_44 (by decide) ?_
        exact ih x
    have lp1 : ∀ s : Nat, s ≤ 6 → ∀ x : T2, Wp D N l (EI M_Tn_pass) M_Tn_pass (Rm (d + 6) 0 0) (Qm D N K 0 0) 0 0 7 [(2, .int (nI s)), (0, .ref (N + 1)), (1, .ref (N + wA w))] [] (encC D N c x (va_up V w (svN c (cmN c P m 36) nb m s)) ln df ++ rest) := by
      refine up_loop ?_ ?_
      · intro x
        refine wp_iload_n (q := 8) d_Tn_pass_7 rfl rfl ?_
        refine wp_bipush (q := 10) d_Tn_pass_8 rfl bp_6 ?_
        refine wp_icmp_ge_t (tgt := 25) d_Tn_pass_10 (by decide) (nI_le (Nat.le_refl _) (by decide)) ?_
        refine wp_iconst (q := 26) d_Tn_pass_25 rfl ic_0 ?_
        refine wp_istore_n (q := 27) (L2 := [(2, _), (0, _), (1, _)]) d_Tn_pass_26 rfl (by decide) rfl ?_
        exact lp2 0 (Nat.zero_le _) x
      · intro s hs ih x
        refine wp_iload_n (q := 8) d_Tn_pass_7 rfl rfl ?_
        refine wp_bipush (q := 10) d_Tn_pass_8 rfl bp_6 ?_
        refine wp_icmp_ge_f (q := 13) (tgt := 25) d_Tn_pass_10 (by decide) rfl (nI_ge hs (by decide)) ?_
        have ws := w1.svs hT h12 s (by omega)
        refine wp_aload_n (q := 14) d_Tn_pass_13 rfl rfl ?_
        refine wp_aload_n (q := 15) d_Tn_pass_14 rfl rfl ?_
        refine wp_iload_n (q := 16) d_Tn_pass_15 rfl rfl ?_
        refine wp_cv2 (q := 19) lk_Tn_156 (ro _ _ _) d_Tn_pass_16 rfl (Nat.le_of_ble_eq_true rfl) (rfl) rfl (Nat.zero_le _) (Nat.zero_le _) ?_
        refine ok_Tn_serve (w := w) h12 ws.2.2 hw ws.1 hm (hr0_of hT) hs (fun b hb => ⟨(ws.2.1 b hb).2.2.1, (ws.2.1 b hb).2.1⟩) hT.2.2 hCI hLOK ?_
        intro x2
        refine wp_iinc (q := 22) (L2 := [(2, _), (0, _), (1, _)]) d_Tn_pass_19 rfl rfl (iinc_1) (by decide) rfl ?_
        refine wp_goto (tgt := 7) d_Tn_pass_22 (by decide) ?_
        exact ih x2
    refine wp_aload_n (q := 1) d_Tn_pass_0 rfl rfl ?_
    refine wp_aload_n (q := 2) d_Tn_pass_1 rfl rfl ?_
    refine wp_cv1 (q := 5) lk_Tn_152 (ro _ _ _) d_Tn_pass_2 rfl (Nat.le_of_ble_eq_true rfl) (rfl) rfl (Nat.zero_le _) (Nat.zero_le _) ?_
    refine ok_Tn_comeAndWalk (w := w) hw hWI.1 hm hcr hpt (fun k hk => (hT.1 k hk).2) ?_
    refine wp_iconst (q := 6) d_Tn_pass_5 rfl ic_0 ?_
    refine wp_istore_n (q := 7) (L2 := [(2, _), (0, _), (1, _)]) d_Tn_pass_6 rfl (by decide) rfl ?_
    exact lp1 0 (Nat.zero_le _) x
  · skip
    have lp3 : ∀ i : Nat, i ≤ 36 → ∀ x : T2, Wp D N l (EI M_Tn_pass) M_Tn_pass (Rm (d + 6) 0 0) (Qm D N K 0 0) 0 0 49 [(2, .int (nI i)), (0, .ref (N + 1)), (1, .ref (N + wA w))] [] (encC D N c x (va_up V w (upd (mvN (svN c (cmN c P m 36) nb m 6) nb) 238 ((mvN (svN c (cmN c P m 36) nb m 6) nb) 238 + smN (mvN (svN c (cmN c P m 36) nb m 6) nb) i))) ln df ++ rest) := by
      refine up_loop ?_ ?_
      · intro x
        refine wp_iload_n (q := 50) d_Tn_pass_49 rfl rfl ?_
        refine wp_bipush (q := 52) d_Tn_pass_50 rfl bp_36 ?_
        refine wp_icmp_ge_t (tgt := 76) d_Tn_pass_52 (by decide) (nI_le (Nat.le_refl _) (by decide)) ?_
        change Wp D N l (EI M_Tn_pass) M_Tn_pass (Rm (d + 6) 0 0) (Qm D N K 0 0) 0 0 76 _ _ (encC D N c x (va_up V w (pas1 c P nb m)) ln df ++ rest)
        refine wp_aload_n (q := 77) d_Tn_pass_76 rfl rfl ?_
        refine wp_get (q := 80) fl_Tn_121 d_Tn_pass_77 rfl (rdO (w := w) hw) rfl ?_
        rw [w3.1]
        refine wp_sipush (q := 83) d_Tn_pass_80 rfl sp_1440 ?_
        refine wp_iremN (q := 84) d_Tn_pass_83 rfl (by omega) (by decide) (by decide) ?_
        refine wp_sipush (q := 87) d_Tn_pass_84 rfl sp_1439 ?_
        refine wp_icmp_ne_t (tgt := 112) d_Tn_pass_87 (by decide) (fun z => hd ((nI_eq (by omega) (by decide)).mp z)) ?_
        refine wp_aload_n (q := 113) d_Tn_pass_112 rfl rfl ?_
        refine wp_dup (q := 114) d_Tn_pass_113 rfl rfl ?_
        refine wp_get (q := 117) fl_Tn_121 d_Tn_pass_114 rfl (rdO (w := w) hw) rfl ?_
        rw [w3.1]
        refine wp_iconst (q := 118) d_Tn_pass_117 rfl ic_1 ?_
        first | refine wp_iaddN (q := 119) d_Tn_pass_118 rfl ?_ | refine wp_iadd (q := 119) d_Tn_pass_118 rfl ?_
        refine wp_put (q := 122) fl_Tn_121 d_Tn_pass_119 rfl (rdO (w := w) hw) (Nat.le_of_ble_eq_true rfl) rfl rfl (fdw (w := w) (i := 0) hw (by decide) ws_o0) ?_
        refine wp_vret d_Tn_pass_122 rfl (Nat.le_refl _) (Nat.le_refl _) ?_
        exact kP (hK _) rfl (by rw [passP, if_neg hd])
      · intro i hi ih x
        refine wp_iload_n (q := 50) d_Tn_pass_49 rfl rfl ?_
        refine wp_bipush (q := 52) d_Tn_pass_50 rfl bp_36 ?_
        refine wp_icmp_ge_f (q := 55) (tgt := 76) d_Tn_pass_52 (by decide) rfl (nI_ge hi (by decide)) ?_
        refine wp_aload_n (q := 56) d_Tn_pass_55 rfl rfl ?_
        refine wp_dup (q := 57) d_Tn_pass_56 rfl rfl ?_
        refine wp_get (q := 60) fl_Tn_163 d_Tn_pass_57 rfl (rdO (w := w) hw) rfl ?_
        refine wp_aload_n (q := 61) d_Tn_pass_60 rfl rfl ?_
        refine wp_get (q := 64) fl_Tn_149 d_Tn_pass_61 rfl (rdO (w := w) hw) rfl ?_
        refine wp_iload_n (q := 65) d_Tn_pass_64 rfl rfl ?_
        refine wp_iald (q := 66) d_Tn_pass_65 rfl (rd1 (w := w) hw) (by omega) (by decide) ?_
        rw [sl_at (show i < 36 by omega), Nat.zero_add, show (upd (mvN (svN c (cmN c P m 36) nb m 6) nb) 238 (mvN (svN c (cmN c P m 36) nb m 6) nb 238 + smN (mvN (svN c (cmN c P m 36) nb m 6) nb) i)) i = mvN (svN c (cmN c P m 36) nb m 6) nb i from upd_ne _ _ (by omega)]
        refine wp_iadd (q := 67) d_Tn_pass_66 rfl ?_
        refine wp_put (q := 70) fl_Tn_163 d_Tn_pass_67 rfl (rdO (w := w) hw) (Nat.le_of_ble_eq_true rfl) rfl rfl (fdw (w := w) (i := 0) hw (by decide) ws_o4) ?_
        refine wp_iinc (q := 73) (L2 := [(2, _), (0, _), (1, _)]) d_Tn_pass_70 rfl rfl (iinc_1) (by decide) rfl ?_
        refine wp_goto (tgt := 49) d_Tn_pass_73 (by decide) ?_
        exact wpC (ih x) (sm_step hi).symm
    have lp2 : ∀ b : Nat, b ≤ nb → ∀ x : T2, Wp D N l (EI M_Tn_pass) M_Tn_pass (Rm (d + 6) 0 0) (Qm D N K 0 0) 0 0 27 [(2, .int (nI b)), (0, .ref (N + 1)), (1, .ref (N + wA w))] [] (encC D N c x (va_up V w (mvN (svN c (cmN c P m 36) nb m 6) b)) ln df ++ rest) := by
      refine up_loop ?_ ?_
      · intro x
        refine wp_iload_n (q := 28) d_Tn_pass_27 rfl rfl ?_
        refine wp_aload_n (q := 29) d_Tn_pass_28 rfl rfl ?_
        refine wp_get (q := 32) fl_Tn_77 d_Tn_pass_29 rfl rfl rfl ?_
        refine wp_icmp_ge_t (tgt := 47) d_Tn_pass_32 (by decide) (by rw [hnb]; exact nI_le (Nat.le_refl _) (by omega)) ?_
        refine wp_iconst (q := 48) d_Tn_pass_47 rfl ic_0 ?_
        refine wp_istore_n (q := 49) (L2 := [(2, _), (0, _), (1, _)]) d_Tn_pass_48 rfl (by decide) rfl ?_
        exact wpC (lp3 0 (Nat.zero_le _) x) (by rw [smN, add_0]; exact upd_id rfl)
      · intro b hb ih x
        refine wp_iload_n (q := 28) d_Tn_pass_27 rfl rfl ?_
        refine wp_aload_n (q := 29) d_Tn_pass_28 rfl rfl ?_
        refine wp_get (q := 32) fl_Tn_77 d_Tn_pass_29 rfl rfl rfl ?_
        refine wp_icmp_ge_f (q := 35) (tgt := 47) d_Tn_pass_32 (by decide) rfl (by rw [hnb]; exact nI_ge hb (by omega)) ?_
        have wb := w2.mvs h12 b (by omega)
        have cb := wb.2.1 b (by omega)
        refine wp_aload_n (q := 36) d_Tn_pass_35 rfl rfl ?_
        refine wp_aload_n (q := 37) d_Tn_pass_36 rfl rfl ?_
        refine wp_iload_n (q := 38) d_Tn_pass_37 rfl rfl ?_
        refine wp_cv2 (q := 41) lk_Tn_160 (ro _ _ _) d_Tn_pass_38 rfl (Nat.le_of_ble_eq_true rfl) (rfl) rfl (Nat.zero_le _) (Nat.zero_le _) ?_
        refine ok_Tn_move (w := w) hw (by omega) cb.2.2.1.1 cb.2.2.1.2 cb.1.1 cb.1.2 cb.2.1.1 cb.2.1.2 (fun e3 hz0 => ?_) ?_
        · obtain ⟨q, hq, e⟩ := cb.2.2.2 (Or.inl e3)
          rw [e, pk_sub (by omega : 1 ≤ q + 1), Nat.add_sub_cancel] at hz0 ⊢
          have : ¬ 0 < q := fun z => hz0 (by rw [← nI_0]; exact nI_lt z (by omega))
          rw [show q = 0 by omega]; exact nI_0
        refine wp_iinc (q := 44) (L2 := [(2, _), (0, _), (1, _)]) d_Tn_pass_41 rfl rfl (iinc_1) (by decide) rfl ?_
        refine wp_goto (tgt := 27) d_Tn_pass_44 (by decide) ?_
        exact ih x
    have lp1 : ∀ s : Nat, s ≤ 6 → ∀ x : T2, Wp D N l (EI M_Tn_pass) M_Tn_pass (Rm (d + 6) 0 0) (Qm D N K 0 0) 0 0 7 [(2, .int (nI s)), (0, .ref (N + 1)), (1, .ref (N + wA w))] [] (encC D N c x (va_up V w (svN c (cmN c P m 36) nb m s)) ln df ++ rest) := by
      refine up_loop ?_ ?_
      · intro x
        refine wp_iload_n (q := 8) d_Tn_pass_7 rfl rfl ?_
        refine wp_bipush (q := 10) d_Tn_pass_8 rfl bp_6 ?_
        refine wp_icmp_ge_t (tgt := 25) d_Tn_pass_10 (by decide) (nI_le (Nat.le_refl _) (by decide)) ?_
        refine wp_iconst (q := 26) d_Tn_pass_25 rfl ic_0 ?_
        refine wp_istore_n (q := 27) (L2 := [(2, _), (0, _), (1, _)]) d_Tn_pass_26 rfl (by decide) rfl ?_
        exact lp2 0 (Nat.zero_le _) x
      · intro s hs ih x
        refine wp_iload_n (q := 8) d_Tn_pass_7 rfl rfl ?_
        refine wp_bipush (q := 10) d_Tn_pass_8 rfl bp_6 ?_
        refine wp_icmp_ge_f (q := 13) (tgt := 25) d_Tn_pass_10 (by decide) rfl (nI_ge hs (by decide)) ?_
        have ws := w1.svs hT h12 s (by omega)
        refine wp_aload_n (q := 14) d_Tn_pass_13 rfl rfl ?_
        refine wp_aload_n (q := 15) d_Tn_pass_14 rfl rfl ?_
        refine wp_iload_n (q := 16) d_Tn_pass_15 rfl rfl ?_
        refine wp_cv2 (q := 19) lk_Tn_156 (ro _ _ _) d_Tn_pass_16 rfl (Nat.le_of_ble_eq_true rfl) (rfl) rfl (Nat.zero_le _) (Nat.zero_le _) ?_
        refine ok_Tn_serve (w := w) h12 ws.2.2 hw ws.1 hm (hr0_of hT) hs (fun b hb => ⟨(ws.2.1 b hb).2.2.1, (ws.2.1 b hb).2.1⟩) hT.2.2 hCI hLOK ?_
        intro x2
        refine wp_iinc (q := 22) (L2 := [(2, _), (0, _), (1, _)]) d_Tn_pass_19 rfl rfl (iinc_1) (by decide) rfl ?_
        refine wp_goto (tgt := 7) d_Tn_pass_22 (by decide) ?_
        exact ih x2
    refine wp_aload_n (q := 1) d_Tn_pass_0 rfl rfl ?_
    refine wp_aload_n (q := 2) d_Tn_pass_1 rfl rfl ?_
    refine wp_cv1 (q := 5) lk_Tn_152 (ro _ _ _) d_Tn_pass_2 rfl (Nat.le_of_ble_eq_true rfl) (rfl) rfl (Nat.zero_le _) (Nat.zero_le _) ?_
    refine ok_Tn_comeAndWalk (w := w) hw hWI.1 hm hcr hpt (fun k hk => (hT.1 k hk).2) ?_
    refine wp_iconst (q := 6) d_Tn_pass_5 rfl ic_0 ?_
    refine wp_istore_n (q := 7) (L2 := [(2, _), (0, _), (1, _)]) d_Tn_pass_6 rfl (by decide) rfl ?_
    exact lp1 0 (Nat.zero_le _) x
