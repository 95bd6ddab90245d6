def pN (c : T2) (P : Nat → Int32) (nb m : Nat) : Nat → (Nat → Int32)
  | 0 => P
  | k + 1 => passP c (pN c P nb m k) nb (m + k)
theorem WV.ps {c : T2} {P : Nat → Int32} {nb m : Nat} (h : WV c P nb m) (hT : TI c) (hSE : SE c) (h12 : nb ≤ 12) : ∀ k, m + k ≤ 14700 → WV c (pN c P nb m k) nb (m + k)
  | 0, _ => h
  | k + 1, hk => (WV.ps h hT hSE h12 k (by omega)).pass hT hSE h12 (by omega)
theorem WV.cr {c : T2} {P : Nat → Int32} {nb m : Nat} (h : WV c P nb m) : ∀ k, k < 36 → isN (P k) 600 := fun k hk => (h.2.1 k hk).le (by omega)
theorem nI_btw1 {x : Int32} {b : Nat} (hb : b < 2147483648) (h0 : nI 1 ≤ x) (h1 : x ≤ nI b) : ∃ a : Nat, 1 ≤ a ∧ a ≤ b ∧ x = nI a := by
  have h2 : nI 0 ≤ x := by rw [Int32.le_iff_toInt_le] at *; exact Int.le_trans (by decide : (nI 0).toInt ≤ (nI 1).toInt) h0
  obtain ⟨a, ha, rfl⟩ := nI_btw hb h2 h1
  exact ⟨a, (nI_leI (by decide) (by omega)).mp h0, ha, rfl⟩
def sp_minutes (c : T2) (P : Nat → Int32) (nb m : Nat) (n : Int32) : Int32 × (Nat → Int32) := if ¬ btw (nI 1) n (nI 200) then (-2, P) else if ¬ nI m + n ≤ nI 14400 then (-4, P) else (nI (m + tn n), pN c P nb m (tn n))
theorem d_Rf_minutes_0 : decode M_Rf_minutes.2.1 0 = .ok (.iload_n 1, 1) := by decide +kernel
theorem d_Rf_minutes_1 : decode M_Rf_minutes.2.1 1 = .ok (.iconst 1, 1) := by decide +kernel
theorem d_Rf_minutes_2 : decode M_Rf_minutes.2.1 2 = .ok (.sipush 200, 3) := by decide +kernel
theorem d_Rf_minutes_5 : decode M_Rf_minutes.2.1 5 = .ok (.invokestatic 151, 3) := by decide +kernel
theorem d_Rf_minutes_8 : decode M_Rf_minutes.2.1 8 = .ok (.ifCond .ne 6, 3) := by decide +kernel
theorem d_Rf_minutes_11 : decode M_Rf_minutes.2.1 11 = .ok (.bipush (-2), 2) := by decide +kernel
theorem d_Rf_minutes_13 : decode M_Rf_minutes.2.1 13 = .ok (.ireturn, 1) := by decide +kernel
theorem d_Rf_minutes_14 : decode M_Rf_minutes.2.1 14 = .ok (.aload_n 0, 1) := by decide +kernel
theorem d_Rf_minutes_15 : decode M_Rf_minutes.2.1 15 = .ok (.getfield 7, 3) := by decide +kernel
theorem d_Rf_minutes_18 : decode M_Rf_minutes.2.1 18 = .ok (.sipush 234, 3) := by decide +kernel
theorem d_Rf_minutes_21 : decode M_Rf_minutes.2.1 21 = .ok (.iaload, 1) := by decide +kernel
theorem d_Rf_minutes_22 : decode M_Rf_minutes.2.1 22 = .ok (.iload_n 1, 1) := by decide +kernel
theorem d_Rf_minutes_23 : decode M_Rf_minutes.2.1 23 = .ok (.iadd, 1) := by decide +kernel
theorem d_Rf_minutes_24 : decode M_Rf_minutes.2.1 24 = .ok (.sipush 14400, 3) := by decide +kernel
theorem d_Rf_minutes_27 : decode M_Rf_minutes.2.1 27 = .ok (.if_icmp .le 6, 3) := by decide +kernel
theorem d_Rf_minutes_30 : decode M_Rf_minutes.2.1 30 = .ok (.bipush (-4), 2) := by decide +kernel
theorem d_Rf_minutes_32 : decode M_Rf_minutes.2.1 32 = .ok (.ireturn, 1) := by decide +kernel
theorem d_Rf_minutes_33 : decode M_Rf_minutes.2.1 33 = .ok (.iconst 0, 1) := by decide +kernel
theorem d_Rf_minutes_34 : decode M_Rf_minutes.2.1 34 = .ok (.istore_n 2, 1) := by decide +kernel
theorem d_Rf_minutes_35 : decode M_Rf_minutes.2.1 35 = .ok (.iload_n 2, 1) := by decide +kernel
theorem d_Rf_minutes_36 : decode M_Rf_minutes.2.1 36 = .ok (.iload_n 1, 1) := by decide +kernel
theorem d_Rf_minutes_37 : decode M_Rf_minutes.2.1 37 = .ok (.if_icmp .ge 13, 3) := by decide +kernel
theorem d_Rf_minutes_40 : decode M_Rf_minutes.2.1 40 = .ok (.aload_n 0, 1) := by decide +kernel
theorem d_Rf_minutes_41 : decode M_Rf_minutes.2.1 41 = .ok (.invokevirtual 260, 3) := by decide +kernel
theorem d_Rf_minutes_44 : decode M_Rf_minutes.2.1 44 = .ok (.iinc 2 1, 3) := by decide +kernel
theorem d_Rf_minutes_47 : decode M_Rf_minutes.2.1 47 = .ok (.goto (-12), 3) := by decide +kernel
theorem d_Rf_minutes_50 : decode M_Rf_minutes.2.1 50 = .ok (.aload_n 0, 1) := by decide +kernel
theorem d_Rf_minutes_51 : decode M_Rf_minutes.2.1 51 = .ok (.getfield 7, 3) := by decide +kernel
theorem d_Rf_minutes_54 : decode M_Rf_minutes.2.1 54 = .ok (.sipush 234, 3) := by decide +kernel
theorem d_Rf_minutes_57 : decode M_Rf_minutes.2.1 57 = .ok (.iaload, 1) := by decide +kernel
theorem d_Rf_minutes_58 : decode M_Rf_minutes.2.1 58 = .ok (.ireturn, 1) := by decide +kernel
set_option maxHeartbeats 4000000 in
set_option maxRecDepth 100000 in
theorem ok_Rf_minutes {D : xD} {N : Nat} {l : Launch} {d : Nat} {c z : T2} {P Q : Nat → Int32} {rest : List va_E} {K : Option Value → List va_E → Prop} {n : Int32} {nb : Nat} (hnb : c 32 1 = nI nb) (h12 : nb ≤ 12) {m : Nat} (hWV : WV c P nb m) (hm : m ≤ 14400) (hT : TI c) (hSE : SE c) (hCI : CI c)  (hK : K (some (.int (sp_minutes c P nb m n).1)) (encR D N c z ((sp_minutes c P nb m n).2) Q ++ rest)) : Ok D N l (d + 7) M_Rf_minutes [.ref (N + 0), .int n] (encR D N c z P Q ++ rest) 0 0 K := by
  refine ok_of (L := [(0, _), (1, _)]) (by decide) (Nat.le_of_ble_eq_true rfl) rfl ?_
  refine wp_iload_n (q := 1) d_Rf_minutes_0 rfl rfl ?_
  refine wp_iconst (q := 2) d_Rf_minutes_1 rfl ic_1 ?_
  refine wp_sipush (q := 5) d_Rf_minutes_2 rfl sp_200 ?_
  refine wp_cs3 (q := 8) lk_Rf_151 (ro _ _ _) d_Rf_minutes_5 rfl (Nat.le_of_ble_eq_true rfl) (Nat.zero_le _) (Nat.zero_le _) ?_
  refine ok_Rf_in (fun hna hnb2 => ?_) (fun hn => ?_)
  · obtain ⟨n, hn1, hn2, rfl⟩ := nI_btw1 (by decide) hna hnb2
    refine wp_if_ne_t (tgt := 14) d_Rf_minutes_8 (by decide) (by decide) ?_
    refine wp_aload_n (q := 15) d_Rf_minutes_14 rfl rfl ?_
    refine wp_get (q := 18) fl_Rf_7 d_Rf_minutes_15 rfl rfl rfl ?_
    refine wp_sipush (q := 21) d_Rf_minutes_18 rfl sp_234 ?_
    refine wp_iald (q := 22) d_Rf_minutes_21 rfl (rfl) (by omega) (by decide) ?_
    rw [hWV.1.1]
    refine wp_iload_n (q := 23) d_Rf_minutes_22 rfl rfl ?_
    first | refine wp_iaddN (q := 24) d_Rf_minutes_23 rfl ?_ | refine wp_iadd (q := 24) d_Rf_minutes_23 rfl ?_
    refine wp_sipush (q := 27) d_Rf_minutes_24 rfl sp_14400 ?_
    refine wp_icmp_le (q := 30) (tgt := 33) d_Rf_minutes_27 (by decide) rfl (fun hc_27 => ?_) (fun hc_27 => ?_)
    · have hmk : m + n ≤ 14400 := (nI_leI (by omega) (by decide)).mp hc_27
      refine wp_iconst (q := 34) d_Rf_minutes_33 rfl ic_0 ?_
      refine wp_istore_n (q := 35) (L2 := [(2, _), (0, _), (1, _)]) d_Rf_minutes_34 rfl (by decide) rfl ?_
      have lp : ∀ k : Nat, k ≤ n → Wp D N l (EI M_Rf_minutes) M_Rf_minutes (Rm (d + 7) 0 0) (Qm D N K 0 0) 0 0 35 [(2, .int (nI k)), (0, .ref (N + 0)), (1, .int (nI n))] [] (encR D N c z (pN c P nb m k) Q ++ rest) := by
        refine up_loop ?_ ?_
        · skip
          refine wp_iload_n (q := 36) d_Rf_minutes_35 rfl rfl ?_
          refine wp_iload_n (q := 37) d_Rf_minutes_36 rfl rfl ?_
          refine wp_icmp_ge_t (tgt := 50) d_Rf_minutes_37 (by decide) (nI_le (Nat.le_refl _) (by omega)) ?_
          refine wp_aload_n (q := 51) d_Rf_minutes_50 rfl rfl ?_
          refine wp_get (q := 54) fl_Rf_7 d_Rf_minutes_51 rfl rfl rfl ?_
          refine wp_sipush (q := 57) d_Rf_minutes_54 rfl sp_234 ?_
          refine wp_iald (q := 58) d_Rf_minutes_57 rfl (rfl) (by omega) (by decide) ?_
          rw [(hWV.ps hT hSE h12 n (by omega)).1.1]
          refine wp_iret d_Rf_minutes_58 rfl (Nat.le_refl _) (Nat.le_refl _) ?_
          simp only [sp_minutes, btw, hna, hnb2, nI_add, hc_27, tnl hn2, not_true_eq_false, not_false_eq_true, if_true, if_false, and_self, ite_true, ite_false] at hK; exact hK
        · intro k hk ih
          refine wp_iload_n (q := 36) d_Rf_minutes_35 rfl rfl ?_
          refine wp_iload_n (q := 37) d_Rf_minutes_36 rfl rfl ?_
          refine wp_icmp_ge_f (q := 40) (tgt := 50) d_Rf_minutes_37 (by decide) rfl (nI_ge hk (by omega)) ?_
          have wk := hWV.ps hT hSE h12 k (by omega)
          refine wp_aload_n (q := 41) d_Rf_minutes_40 rfl rfl ?_
          refine wp_cv0 (q := 44) lk_Rf_260 (ro _ _ _) d_Rf_minutes_41 rfl (Nat.le_of_ble_eq_true rfl) (rfl) rfl (Nat.zero_le _) (Nat.zero_le _) ?_
          refine ok_Rf_goes hnb h12 (by omega) wk.1 hT hCI wk.cr wk.2.2.1 ?_
          refine wp_iinc (q := 47) (L2 := [(2, _), (0, _), (1, _)]) d_Rf_minutes_44 rfl rfl (iinc_1) (by decide) rfl ?_
          refine wp_goto (tgt := 35) d_Rf_minutes_47 (by decide) ?_
          exact ih
      exact lp 0 (Nat.zero_le _)
    · refine wp_bipush (q := 32) d_Rf_minutes_30 rfl bp_m4 ?_
      refine wp_iret d_Rf_minutes_32 rfl (Nat.le_refl _) (Nat.le_refl _) ?_
      simp only [sp_minutes, btw, hna, hnb2, nI_add, hc_27, not_true_eq_false, not_false_eq_true, if_true, if_false, and_self, ite_true, ite_false] at hK; exact hK
  · refine wp_if_ne_f (q := 11) (tgt := 14) d_Rf_minutes_8 (by decide) rfl (by decide) ?_
    refine wp_bipush (q := 13) d_Rf_minutes_11 rfl bp_m2 ?_
    refine wp_iret d_Rf_minutes_13 rfl (Nat.le_refl _) (Nat.le_refl _) ?_
    simp only [sp_minutes, btw, hn, not_true_eq_false, not_false_eq_true, if_true, if_false, and_self, ite_true, ite_false] at hK; exact hK
theorem d_FG_minutes_0 : decode M_FG_minutes.2.1 0 = .ok (.iload_n 1, 1) := by decide +kernel
theorem d_FG_minutes_1 : decode M_FG_minutes.2.1 1 = .ok (.iconst 1, 1) := by decide +kernel
theorem d_FG_minutes_2 : decode M_FG_minutes.2.1 2 = .ok (.sipush 200, 3) := by decide +kernel
theorem d_FG_minutes_5 : decode M_FG_minutes.2.1 5 = .ok (.invokestatic 61, 3) := by decide +kernel
theorem d_FG_minutes_8 : decode M_FG_minutes.2.1 8 = .ok (.ifCond .ne 6, 3) := by decide +kernel
theorem d_FG_minutes_11 : decode M_FG_minutes.2.1 11 = .ok (.bipush (-2), 2) := by decide +kernel
theorem d_FG_minutes_13 : decode M_FG_minutes.2.1 13 = .ok (.ireturn, 1) := by decide +kernel
theorem d_FG_minutes_14 : decode M_FG_minutes.2.1 14 = .ok (.aload_n 0, 1) := by decide +kernel
theorem d_FG_minutes_15 : decode M_FG_minutes.2.1 15 = .ok (.getfield 19, 3) := by decide +kernel
theorem d_FG_minutes_18 : decode M_FG_minutes.2.1 18 = .ok (.getfield 111, 3) := by decide +kernel
theorem d_FG_minutes_21 : decode M_FG_minutes.2.1 21 = .ok (.iload_n 1, 1) := by decide +kernel
theorem d_FG_minutes_22 : decode M_FG_minutes.2.1 22 = .ok (.iadd, 1) := by decide +kernel
theorem d_FG_minutes_23 : decode M_FG_minutes.2.1 23 = .ok (.sipush 14400, 3) := by decide +kernel
theorem d_FG_minutes_26 : decode M_FG_minutes.2.1 26 = .ok (.if_icmp .le 6, 3) := by decide +kernel
theorem d_FG_minutes_29 : decode M_FG_minutes.2.1 29 = .ok (.bipush (-4), 2) := by decide +kernel
theorem d_FG_minutes_31 : decode M_FG_minutes.2.1 31 = .ok (.ireturn, 1) := by decide +kernel
theorem d_FG_minutes_32 : decode M_FG_minutes.2.1 32 = .ok (.iconst 0, 1) := by decide +kernel
theorem d_FG_minutes_33 : decode M_FG_minutes.2.1 33 = .ok (.istore_n 2, 1) := by decide +kernel
theorem d_FG_minutes_34 : decode M_FG_minutes.2.1 34 = .ok (.iload_n 2, 1) := by decide +kernel
theorem d_FG_minutes_35 : decode M_FG_minutes.2.1 35 = .ok (.iload_n 1, 1) := by decide +kernel
theorem d_FG_minutes_36 : decode M_FG_minutes.2.1 36 = .ok (.if_icmp .ge 20, 3) := by decide +kernel
theorem d_FG_minutes_39 : decode M_FG_minutes.2.1 39 = .ok (.aload_n 0, 1) := by decide +kernel
theorem d_FG_minutes_40 : decode M_FG_minutes.2.1 40 = .ok (.getfield 10, 3) := by decide +kernel
theorem d_FG_minutes_43 : decode M_FG_minutes.2.1 43 = .ok (.aload_n 0, 1) := by decide +kernel
theorem d_FG_minutes_44 : decode M_FG_minutes.2.1 44 = .ok (.getfield 19, 3) := by decide +kernel
theorem d_FG_minutes_47 : decode M_FG_minutes.2.1 47 = .ok (.invokevirtual 168, 3) := by decide +kernel
theorem d_FG_minutes_50 : decode M_FG_minutes.2.1 50 = .ok (.iinc 2 1, 3) := by decide +kernel
theorem d_FG_minutes_53 : decode M_FG_minutes.2.1 53 = .ok (.goto (-19), 3) := by decide +kernel
theorem d_FG_minutes_56 : decode M_FG_minutes.2.1 56 = .ok (.aload_n 0, 1) := by decide +kernel
theorem d_FG_minutes_57 : decode M_FG_minutes.2.1 57 = .ok (.getfield 19, 3) := by decide +kernel
theorem d_FG_minutes_60 : decode M_FG_minutes.2.1 60 = .ok (.getfield 111, 3) := by decide +kernel
theorem d_FG_minutes_63 : decode M_FG_minutes.2.1 63 = .ok (.ireturn, 1) := by decide +kernel
set_option maxHeartbeats 4000000 in
set_option maxRecDepth 100000 in
theorem ok_FG_minutes {D : xD} {N : Nat} {l : Launch} {d : Nat} {c x V : T2} {P : Nat → Int32} {ln df : Nat → Option Nat} {rest : List va_E} {K : Option Value → List va_E → Prop} {n : Int32} {nb : Nat} (hnb : c 32 1 = nI nb) (h12 : nb ≤ 12) {m : Nat} (hWV : WV c P nb m) (hm : m ≤ 14400) (hT : TI c) (hSE : SE c) (hCI : CI c) (hLOK : LOK D N c ln rest) (hK : ∀ x2 : T2, K (some (.int (sp_minutes c P nb m n).1)) (encC D N c x2 (va_up V 0 ((sp_minutes c P nb m n).2)) ln df ++ rest)) : Ok D N l (d + 7) M_FG_minutes [.ref (N + 0), .int n] (encC D N c x (va_up V 0 P) ln df ++ rest) 0 0 K := by
  refine ok_of (L := [(0, _), (1, _)]) (by decide) (Nat.le_of_ble_eq_true rfl) rfl ?_
  refine wp_iload_n (q := 1) d_FG_minutes_0 rfl rfl ?_
  refine wp_iconst (q := 2) d_FG_minutes_1 rfl ic_1 ?_
  refine wp_sipush (q := 5) d_FG_minutes_2 rfl sp_200 ?_
  refine wp_cs3 (q := 8) lk_FG_61 (ro _ _ _) d_FG_minutes_5 rfl (Nat.le_of_ble_eq_true rfl) (Nat.zero_le _) (Nat.zero_le _) ?_
  refine ok_FG_within (fun hna hnb2 => ?_) (fun hn => ?_)
  · obtain ⟨n, hn1, hn2, rfl⟩ := nI_btw1 (by decide) hna hnb2
    refine wp_if_ne_t (tgt := 14) d_FG_minutes_8 (by decide) (by decide) ?_
    refine wp_aload_n (q := 15) d_FG_minutes_14 rfl rfl ?_
    refine wp_get (q := 18) fl_FG_19 d_FG_minutes_15 rfl rfl rfl ?_
    refine wp_get (q := 21) fl_FG_111 d_FG_minutes_18 rfl (rdO (w := 0) (by decide)) rfl ?_
    rw [hWV.1.1]
    refine wp_iload_n (q := 22) d_FG_minutes_21 rfl rfl ?_
    first | refine wp_iaddN (q := 23) d_FG_minutes_22 rfl ?_ | refine wp_iadd (q := 23) d_FG_minutes_22 rfl ?_
    refine wp_sipush (q := 26) d_FG_minutes_23 rfl sp_14400 ?_
    refine wp_icmp_le (q := 29) (tgt := 32) d_FG_minutes_26 (by decide) rfl (fun hc_26 => ?_) (fun hc_26 => ?_)
    · have hmk : m + n ≤ 14400 := (nI_leI (by omega) (by decide)).mp hc_26
      refine wp_iconst (q := 33) d_FG_minutes_32 rfl ic_0 ?_
      refine wp_istore_n (q := 34) (L2 := [(2, _), (0, _), (1, _)]) d_FG_minutes_33 rfl (by decide) rfl ?_
      have lp : ∀ k : Nat, k ≤ n → ∀ x : T2, Wp D N l (EI M_FG_minutes) M_FG_minutes (Rm (d + 7) 0 0) (Qm D N K 0 0) 0 0 34 [(2, .int (nI k)), (0, .ref (N + 0)), (1, .int (nI n))] [] (encC D N c x (va_up V 0 (pN c P nb m k)) ln df ++ rest) := by
        refine up_loop ?_ ?_
        · intro x
          refine wp_iload_n (q := 35) d_FG_minutes_34 rfl rfl ?_
          refine wp_iload_n (q := 36) d_FG_minutes_35 rfl rfl ?_
          refine wp_icmp_ge_t (tgt := 56) d_FG_minutes_36 (by decide) (nI_le (Nat.le_refl _) (by omega)) ?_
          refine wp_aload_n (q := 57) d_FG_minutes_56 rfl rfl ?_
          refine wp_get (q := 60) fl_FG_19 d_FG_minutes_57 rfl rfl rfl ?_
          refine wp_get (q := 63) fl_FG_111 d_FG_minutes_60 rfl (rdO (w := 0) (by decide)) rfl ?_
          rw [(hWV.ps hT hSE h12 n (by omega)).1.1]
          refine wp_iret d_FG_minutes_63 rfl (Nat.le_refl _) (Nat.le_refl _) ?_
          have hK := hK x
          simp only [sp_minutes, btw, hna, hnb2, nI_add, hc_26, tnl hn2, not_true_eq_false, not_false_eq_true, if_true, if_false, and_self, ite_true, ite_false] at hK; exact hK
        · intro k hk ih x
          refine wp_iload_n (q := 35) d_FG_minutes_34 rfl rfl ?_
          refine wp_iload_n (q := 36) d_FG_minutes_35 rfl rfl ?_
          refine wp_icmp_ge_f (q := 39) (tgt := 56) d_FG_minutes_36 (by decide) rfl (nI_ge hk (by omega)) ?_
          have wk := hWV.ps hT hSE h12 k (by omega)
          refine wp_aload_n (q := 40) d_FG_minutes_39 rfl rfl ?_
          refine wp_get (q := 43) fl_FG_10 d_FG_minutes_40 rfl rfl rfl ?_
          refine wp_aload_n (q := 44) d_FG_minutes_43 rfl rfl ?_
          refine wp_get (q := 47) fl_FG_19 d_FG_minutes_44 rfl rfl rfl ?_
          refine wp_cv1 (q := 50) lk_FG_168 (ro _ _ _) d_FG_minutes_47 rfl (Nat.le_of_ble_eq_true rfl) (rfl) rfl (Nat.zero_le _) (Nat.zero_le _) ?_
          refine ok_Tn_pass (w := 0) hnb h12 (by decide) (by omega) wk.1 hT hCI hLOK wk.cr wk.2.2.1 ?_
          intro x2
          refine wp_iinc (q := 53) (L2 := [(2, _), (0, _), (1, _)]) d_FG_minutes_50 rfl rfl (iinc_1) (by decide) rfl ?_
          refine wp_goto (tgt := 34) d_FG_minutes_53 (by decide) ?_
          exact ih x2
      exact lp 0 (Nat.zero_le _) x
    · refine wp_bipush (q := 31) d_FG_minutes_29 rfl bp_m4 ?_
      refine wp_iret d_FG_minutes_31 rfl (Nat.le_refl _) (Nat.le_refl _) ?_
      have hK := hK x
      simp only [sp_minutes, btw, hna, hnb2, nI_add, hc_26, not_true_eq_false, not_false_eq_true, if_true, if_false, and_self, ite_true, ite_false] at hK; exact hK
  · refine wp_if_ne_f (q := 11) (tgt := 14) d_FG_minutes_8 (by decide) rfl (by decide) ?_
    refine wp_bipush (q := 13) d_FG_minutes_11 rfl bp_m2 ?_
    refine wp_iret d_FG_minutes_13 rfl (Nat.le_refl _) (Nat.le_refl _) ?_
    have hK := hK x
    simp only [sp_minutes, btw, hn, not_true_eq_false, not_false_eq_true, if_true, if_false, and_self, ite_true, ite_false] at hK; exact hK
