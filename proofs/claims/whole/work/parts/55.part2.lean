theorem rN_best {c : T2} {R S M : Nat} : ∀ w, (rN c R S M w).1 = 0 → (rN c R S M w).2.1 = -1
  | 0, _ => rfl
  | w + 1, h => by
    by_cases hk : okA c S M (sdg S w R) R
    · by_cases hb : (rN c R S M w).2.1 < smA c (sdg S w R) R
      · rw [rN_y hk hb] at h; exact absurd h (Nat.succ_ne_zero _)
      · rw [rN_z hk hb] at h; exact absurd h (Nat.succ_ne_zero _)
    · rw [rN_n hk] at h ⊢; exact rN_best w h
theorem d_Rf_isQuiet_0 : decode M_Rf_isQuiet.2.1 0 = .ok (.iconst 0, 1) := by decide +kernel
theorem d_Rf_isQuiet_1 : decode M_Rf_isQuiet.2.1 1 = .ok (.istore 4, 2) := by decide +kernel
theorem d_Rf_isQuiet_3 : decode M_Rf_isQuiet.2.1 3 = .ok (.iload 4, 2) := by decide +kernel
theorem d_Rf_isQuiet_5 : decode M_Rf_isQuiet.2.1 5 = .ok (.iconst 4, 1) := by decide +kernel
theorem d_Rf_isQuiet_6 : decode M_Rf_isQuiet.2.1 6 = .ok (.if_icmp .ge 17, 3) := by decide +kernel
theorem d_Rf_isQuiet_9 : decode M_Rf_isQuiet.2.1 9 = .ok (.aload_n 0, 1) := by decide +kernel
theorem d_Rf_isQuiet_10 : decode M_Rf_isQuiet.2.1 10 = .ok (.getfield 148, 3) := by decide +kernel
theorem d_Rf_isQuiet_13 : decode M_Rf_isQuiet.2.1 13 = .ok (.iload 4, 2) := by decide +kernel
theorem d_Rf_isQuiet_15 : decode M_Rf_isQuiet.2.1 15 = .ok (.iconst 0, 1) := by decide +kernel
theorem d_Rf_isQuiet_16 : decode M_Rf_isQuiet.2.1 16 = .ok (.iastore, 1) := by decide +kernel
theorem d_Rf_isQuiet_17 : decode M_Rf_isQuiet.2.1 17 = .ok (.iinc 4 1, 3) := by decide +kernel
theorem d_Rf_isQuiet_20 : decode M_Rf_isQuiet.2.1 20 = .ok (.goto (-17), 3) := by decide +kernel
theorem d_Rf_isQuiet_23 : decode M_Rf_isQuiet.2.1 23 = .ok (.iconst 0, 1) := by decide +kernel
theorem d_Rf_isQuiet_24 : decode M_Rf_isQuiet.2.1 24 = .ok (.istore 4, 2) := by decide +kernel
theorem d_Rf_isQuiet_26 : decode M_Rf_isQuiet.2.1 26 = .ok (.iload 4, 2) := by decide +kernel
theorem d_Rf_isQuiet_28 : decode M_Rf_isQuiet.2.1 28 = .ok (.iload_n 1, 1) := by decide +kernel
theorem d_Rf_isQuiet_29 : decode M_Rf_isQuiet.2.1 29 = .ok (.if_icmp .ge 91, 3) := by decide +kernel
theorem d_Rf_isQuiet_32 : decode M_Rf_isQuiet.2.1 32 = .ok (.aload_n 0, 1) := by decide +kernel
theorem d_Rf_isQuiet_33 : decode M_Rf_isQuiet.2.1 33 = .ok (.getfield 148, 3) := by decide +kernel
theorem d_Rf_isQuiet_36 : decode M_Rf_isQuiet.2.1 36 = .ok (.aload_n 0, 1) := by decide +kernel
theorem d_Rf_isQuiet_37 : decode M_Rf_isQuiet.2.1 37 = .ok (.getfield 142, 3) := by decide +kernel
theorem d_Rf_isQuiet_40 : decode M_Rf_isQuiet.2.1 40 = .ok (.iload 4, 2) := by decide +kernel
theorem d_Rf_isQuiet_42 : decode M_Rf_isQuiet.2.1 42 = .ok (.iaload, 1) := by decide +kernel
theorem d_Rf_isQuiet_43 : decode M_Rf_isQuiet.2.1 43 = .ok (.dup2, 1) := by decide +kernel
theorem d_Rf_isQuiet_44 : decode M_Rf_isQuiet.2.1 44 = .ok (.iaload, 1) := by decide +kernel
theorem d_Rf_isQuiet_45 : decode M_Rf_isQuiet.2.1 45 = .ok (.iconst 1, 1) := by decide +kernel
theorem d_Rf_isQuiet_46 : decode M_Rf_isQuiet.2.1 46 = .ok (.iadd, 1) := by decide +kernel
theorem d_Rf_isQuiet_47 : decode M_Rf_isQuiet.2.1 47 = .ok (.iastore, 1) := by decide +kernel
theorem d_Rf_isQuiet_48 : decode M_Rf_isQuiet.2.1 48 = .ok (.iconst 0, 1) := by decide +kernel
theorem d_Rf_isQuiet_49 : decode M_Rf_isQuiet.2.1 49 = .ok (.istore 5, 2) := by decide +kernel
theorem d_Rf_isQuiet_51 : decode M_Rf_isQuiet.2.1 51 = .ok (.iload 5, 2) := by decide +kernel
theorem d_Rf_isQuiet_53 : decode M_Rf_isQuiet.2.1 53 = .ok (.iload_n 2, 1) := by decide +kernel
theorem d_Rf_isQuiet_54 : decode M_Rf_isQuiet.2.1 54 = .ok (.if_icmp .ge 60, 3) := by decide +kernel
theorem d_Rf_isQuiet_57 : decode M_Rf_isQuiet.2.1 57 = .ok (.iload 5, 2) := by decide +kernel
theorem d_Rf_isQuiet_59 : decode M_Rf_isQuiet.2.1 59 = .ok (.aload_n 0, 1) := by decide +kernel
theorem d_Rf_isQuiet_60 : decode M_Rf_isQuiet.2.1 60 = .ok (.getfield 142, 3) := by decide +kernel
theorem d_Rf_isQuiet_63 : decode M_Rf_isQuiet.2.1 63 = .ok (.iload 4, 2) := by decide +kernel
theorem d_Rf_isQuiet_65 : decode M_Rf_isQuiet.2.1 65 = .ok (.iaload, 1) := by decide +kernel
theorem d_Rf_isQuiet_66 : decode M_Rf_isQuiet.2.1 66 = .ok (.if_icmp .eq 42, 3) := by decide +kernel
theorem d_Rf_isQuiet_69 : decode M_Rf_isQuiet.2.1 69 = .ok (.aload_n 0, 1) := by decide +kernel
theorem d_Rf_isQuiet_70 : decode M_Rf_isQuiet.2.1 70 = .ok (.getfield 46, 3) := by decide +kernel
theorem d_Rf_isQuiet_73 : decode M_Rf_isQuiet.2.1 73 = .ok (.iconst 4, 1) := by decide +kernel
theorem d_Rf_isQuiet_74 : decode M_Rf_isQuiet.2.1 74 = .ok (.iload 4, 2) := by decide +kernel
theorem d_Rf_isQuiet_76 : decode M_Rf_isQuiet.2.1 76 = .ok (.imul, 1) := by decide +kernel
theorem d_Rf_isQuiet_77 : decode M_Rf_isQuiet.2.1 77 = .ok (.iload 5, 2) := by decide +kernel
theorem d_Rf_isQuiet_79 : decode M_Rf_isQuiet.2.1 79 = .ok (.iadd, 1) := by decide +kernel
theorem d_Rf_isQuiet_80 : decode M_Rf_isQuiet.2.1 80 = .ok (.iaload, 1) := by decide +kernel
theorem d_Rf_isQuiet_81 : decode M_Rf_isQuiet.2.1 81 = .ok (.aload_n 0, 1) := by decide +kernel
theorem d_Rf_isQuiet_82 : decode M_Rf_isQuiet.2.1 82 = .ok (.getfield 291, 3) := by decide +kernel
theorem d_Rf_isQuiet_85 : decode M_Rf_isQuiet.2.1 85 = .ok (.isub, 1) := by decide +kernel
theorem d_Rf_isQuiet_86 : decode M_Rf_isQuiet.2.1 86 = .ok (.aload_n 0, 1) := by decide +kernel
theorem d_Rf_isQuiet_87 : decode M_Rf_isQuiet.2.1 87 = .ok (.getfield 46, 3) := by decide +kernel
theorem d_Rf_isQuiet_90 : decode M_Rf_isQuiet.2.1 90 = .ok (.iconst 4, 1) := by decide +kernel
theorem d_Rf_isQuiet_91 : decode M_Rf_isQuiet.2.1 91 = .ok (.iload 4, 2) := by decide +kernel
theorem d_Rf_isQuiet_93 : decode M_Rf_isQuiet.2.1 93 = .ok (.imul, 1) := by decide +kernel
theorem d_Rf_isQuiet_94 : decode M_Rf_isQuiet.2.1 94 = .ok (.aload_n 0, 1) := by decide +kernel
theorem d_Rf_isQuiet_95 : decode M_Rf_isQuiet.2.1 95 = .ok (.getfield 142, 3) := by decide +kernel
theorem d_Rf_isQuiet_98 : decode M_Rf_isQuiet.2.1 98 = .ok (.iload 4, 2) := by decide +kernel
theorem d_Rf_isQuiet_100 : decode M_Rf_isQuiet.2.1 100 = .ok (.iaload, 1) := by decide +kernel
theorem d_Rf_isQuiet_101 : decode M_Rf_isQuiet.2.1 101 = .ok (.iadd, 1) := by decide +kernel
theorem d_Rf_isQuiet_102 : decode M_Rf_isQuiet.2.1 102 = .ok (.iaload, 1) := by decide +kernel
theorem d_Rf_isQuiet_103 : decode M_Rf_isQuiet.2.1 103 = .ok (.if_icmp .le 5, 3) := by decide +kernel
theorem d_Rf_isQuiet_106 : decode M_Rf_isQuiet.2.1 106 = .ok (.iconst 0, 1) := by decide +kernel
theorem d_Rf_isQuiet_107 : decode M_Rf_isQuiet.2.1 107 = .ok (.ireturn, 1) := by decide +kernel
theorem d_Rf_isQuiet_108 : decode M_Rf_isQuiet.2.1 108 = .ok (.iinc 5 1, 3) := by decide +kernel
theorem d_Rf_isQuiet_111 : decode M_Rf_isQuiet.2.1 111 = .ok (.goto (-60), 3) := by decide +kernel
theorem d_Rf_isQuiet_114 : decode M_Rf_isQuiet.2.1 114 = .ok (.iinc 4 1, 3) := by decide +kernel
theorem d_Rf_isQuiet_117 : decode M_Rf_isQuiet.2.1 117 = .ok (.goto (-91), 3) := by decide +kernel
theorem d_Rf_isQuiet_120 : decode M_Rf_isQuiet.2.1 120 = .ok (.aload_n 0, 1) := by decide +kernel
theorem d_Rf_isQuiet_121 : decode M_Rf_isQuiet.2.1 121 = .ok (.getfield 148, 3) := by decide +kernel
theorem d_Rf_isQuiet_124 : decode M_Rf_isQuiet.2.1 124 = .ok (.iconst 0, 1) := by decide +kernel
theorem d_Rf_isQuiet_125 : decode M_Rf_isQuiet.2.1 125 = .ok (.iaload, 1) := by decide +kernel
theorem d_Rf_isQuiet_126 : decode M_Rf_isQuiet.2.1 126 = .ok (.iload_n 3, 1) := by decide +kernel
theorem d_Rf_isQuiet_127 : decode M_Rf_isQuiet.2.1 127 = .ok (.if_icmp .gt 37, 3) := by decide +kernel
theorem d_Rf_isQuiet_130 : decode M_Rf_isQuiet.2.1 130 = .ok (.aload_n 0, 1) := by decide +kernel
theorem d_Rf_isQuiet_131 : decode M_Rf_isQuiet.2.1 131 = .ok (.getfield 148, 3) := by decide +kernel
theorem d_Rf_isQuiet_134 : decode M_Rf_isQuiet.2.1 134 = .ok (.iconst 1, 1) := by decide +kernel
theorem d_Rf_isQuiet_135 : decode M_Rf_isQuiet.2.1 135 = .ok (.iaload, 1) := by decide +kernel
theorem d_Rf_isQuiet_136 : decode M_Rf_isQuiet.2.1 136 = .ok (.iload_n 3, 1) := by decide +kernel
theorem d_Rf_isQuiet_137 : decode M_Rf_isQuiet.2.1 137 = .ok (.if_icmp .gt 27, 3) := by decide +kernel
theorem d_Rf_isQuiet_140 : decode M_Rf_isQuiet.2.1 140 = .ok (.aload_n 0, 1) := by decide +kernel
theorem d_Rf_isQuiet_141 : decode M_Rf_isQuiet.2.1 141 = .ok (.getfield 148, 3) := by decide +kernel
theorem d_Rf_isQuiet_144 : decode M_Rf_isQuiet.2.1 144 = .ok (.iconst 2, 1) := by decide +kernel
theorem d_Rf_isQuiet_145 : decode M_Rf_isQuiet.2.1 145 = .ok (.iaload, 1) := by decide +kernel
theorem d_Rf_isQuiet_146 : decode M_Rf_isQuiet.2.1 146 = .ok (.iload_n 3, 1) := by decide +kernel
theorem d_Rf_isQuiet_147 : decode M_Rf_isQuiet.2.1 147 = .ok (.if_icmp .gt 17, 3) := by decide +kernel
theorem d_Rf_isQuiet_150 : decode M_Rf_isQuiet.2.1 150 = .ok (.aload_n 0, 1) := by decide +kernel
theorem d_Rf_isQuiet_151 : decode M_Rf_isQuiet.2.1 151 = .ok (.getfield 148, 3) := by decide +kernel
theorem d_Rf_isQuiet_154 : decode M_Rf_isQuiet.2.1 154 = .ok (.iconst 3, 1) := by decide +kernel
theorem d_Rf_isQuiet_155 : decode M_Rf_isQuiet.2.1 155 = .ok (.iaload, 1) := by decide +kernel
theorem d_Rf_isQuiet_156 : decode M_Rf_isQuiet.2.1 156 = .ok (.iload_n 3, 1) := by decide +kernel
theorem d_Rf_isQuiet_157 : decode M_Rf_isQuiet.2.1 157 = .ok (.if_icmp .gt 7, 3) := by decide +kernel
theorem d_Rf_isQuiet_160 : decode M_Rf_isQuiet.2.1 160 = .ok (.iconst 1, 1) := by decide +kernel
theorem d_Rf_isQuiet_161 : decode M_Rf_isQuiet.2.1 161 = .ok (.goto 4, 3) := by decide +kernel
theorem d_Rf_isQuiet_164 : decode M_Rf_isQuiet.2.1 164 = .ok (.iconst 0, 1) := by decide +kernel
theorem d_Rf_isQuiet_165 : decode M_Rf_isQuiet.2.1 165 = .ok (.ireturn, 1) := by decide +kernel
set_option maxHeartbeats 4000000 in
set_option maxRecDepth 100000 in
theorem iq_in {D : xD} {N : Nat} {l : Launch} {d : Nat} {c z : T2} {P Q : Nat → Int32} {rest : List va_E} {K : Option Value → List va_E → Prop} {R S M : Nat} {a : Nat → Nat} (hR6 : R ≤ 6) (hS4 : S ≤ 4) (hM6 : M ≤ 6) (hG : GI c) (ha : ∀ r, r < R → a r < S) (hz2 : ∀ r, r < R → z 2 r = nI (a r)) (h0 : ¬ okA c S M a R → ∀ f, K (some (.int (nI 0))) (encR D N c (tput z 4 f) P Q ++ rest)) {r : Nat} (hr : r < R) {f : Nat → Int32} (hend : (∀ j, j < S → ¬ j = a r → ¬ c 11 (4 * r + a r) < c 11 (4 * r + j) - c 32 3) → Wp D N l (EI M_Rf_isQuiet) M_Rf_isQuiet (Rm d 0 0) (Qm D N K 0 0) 0 0 114 [(4, .int (nI r)), (0, .ref (N + 0)), (1, .int (nI R)), (2, .int (nI S)), (3, .int (nI M))] [] (encR D N c (tput z 4 f) P Q ++ rest)) : ∀ s : Nat, s ≤ S → (∀ j, j < s → ¬ j = a r → ¬ c 11 (4 * r + a r) < c 11 (4 * r + j) - c 32 3) → Wp D N l (EI M_Rf_isQuiet) M_Rf_isQuiet (Rm d 0 0) (Qm D N K 0 0) 0 0 51 [(5, .int (nI s)), (4, .int (nI r)), (0, .ref (N + 0)), (1, .int (nI R)), (2, .int (nI S)), (3, .int (nI M))] [] (encR D N c (tput z 4 f) P Q ++ rest) := by
  have hd4 : a r < 4 := by have := ha r hr; omega
  refine up_loop ?_ ?_
  · intro hq
    refine wp_iload (q := 53) d_Rf_isQuiet_51 rfl rfl ?_
    refine wp_iload_n (q := 54) d_Rf_isQuiet_53 rfl rfl ?_
    refine wp_icmp_ge_t (tgt := 114) d_Rf_isQuiet_54 (by decide) (nI_le (Nat.le_refl _) (by omega)) ?_
    refine wp_sub [1, 2, 3, 4, 5] rfl ?_
    exact hend hq
  · intro s hs ih hq
    refine wp_iload (q := 53) d_Rf_isQuiet_51 rfl rfl ?_
    refine wp_iload_n (q := 54) d_Rf_isQuiet_53 rfl rfl ?_
    refine wp_icmp_ge_f (q := 57) (tgt := 114) d_Rf_isQuiet_54 (by decide) rfl (nI_ge hs (by omega)) ?_
    refine wp_iload (q := 59) d_Rf_isQuiet_57 rfl rfl ?_
    refine wp_aload_n (q := 60) d_Rf_isQuiet_59 rfl rfl ?_
    refine wp_get (q := 63) fl_Rf_142 d_Rf_isQuiet_60 rfl rfl rfl ?_
    refine wp_iload (q := 65) d_Rf_isQuiet_63 rfl rfl ?_
    refine wp_iald (q := 66) d_Rf_isQuiet_65 rfl (rfl) (by omega) (by decide) ?_
    rw [tput_ne _ _ (show 2 ≠ 4 by decide), hz2 r hr]
    refine wp_icmp_eq (q := 69) (tgt := 108) d_Rf_isQuiet_66 (by decide) rfl (fun hc_66 => ?_) (fun hc_66 => ?_)
    · refine wp_iinc (q := 111) (L2 := [(5, _), (4, _), (0, _), (1, _), (2, _), (3, _)]) d_Rf_isQuiet_108 rfl rfl (iinc_1) (by decide) rfl ?_
      refine wp_goto (tgt := 51) d_Rf_isQuiet_111 (by decide) ?_
      refine ih (fun j hj hne => ?_)
      by_cases q : j < s
      · exact hq j q hne
      · exact absurd ((nI_eq (by omega) (by omega)).mp hc_66) (fun g => hne (by omega))
    · refine wp_aload_n (q := 70) d_Rf_isQuiet_69 rfl rfl ?_
      refine wp_get (q := 73) fl_Rf_46 d_Rf_isQuiet_70 rfl rfl rfl ?_
      refine wp_iconst (q := 74) d_Rf_isQuiet_73 rfl ic_4 ?_
      refine wp_iload (q := 76) d_Rf_isQuiet_74 rfl rfl ?_
      first | refine wp_imulN (q := 77) d_Rf_isQuiet_76 rfl ?_ | refine wp_imul (q := 77) d_Rf_isQuiet_76 rfl ?_
      refine wp_iload (q := 79) d_Rf_isQuiet_77 rfl rfl ?_
      first | refine wp_iaddN (q := 80) d_Rf_isQuiet_79 rfl ?_ | refine wp_iadd (q := 80) d_Rf_isQuiet_79 rfl ?_
      refine wp_iald (q := 81) d_Rf_isQuiet_80 rfl (rfl) (by omega) (by decide) ?_
      refine wp_aload_n (q := 82) d_Rf_isQuiet_81 rfl rfl ?_
      refine wp_get (q := 85) fl_Rf_291 d_Rf_isQuiet_82 rfl rfl rfl ?_
      refine wp_isub (q := 86) d_Rf_isQuiet_85 rfl ?_
      refine wp_aload_n (q := 87) d_Rf_isQuiet_86 rfl rfl ?_
      refine wp_get (q := 90) fl_Rf_46 d_Rf_isQuiet_87 rfl rfl rfl ?_
      refine wp_iconst (q := 91) d_Rf_isQuiet_90 rfl ic_4 ?_
      refine wp_iload (q := 93) d_Rf_isQuiet_91 rfl rfl ?_
      first | refine wp_imulN (q := 94) d_Rf_isQuiet_93 rfl ?_ | refine wp_imul (q := 94) d_Rf_isQuiet_93 rfl ?_
      refine wp_aload_n (q := 95) d_Rf_isQuiet_94 rfl rfl ?_
      refine wp_get (q := 98) fl_Rf_142 d_Rf_isQuiet_95 rfl rfl rfl ?_
      refine wp_iload (q := 100) d_Rf_isQuiet_98 rfl rfl ?_
      refine wp_iald (q := 101) d_Rf_isQuiet_100 rfl (rfl) (by omega) (by decide) ?_
      rw [tput_ne _ _ (show 2 ≠ 4 by decide), hz2 r hr]
      first | refine wp_iaddN (q := 102) d_Rf_isQuiet_101 rfl ?_ | refine wp_iadd (q := 102) d_Rf_isQuiet_101 rfl ?_
      refine wp_iald (q := 103) d_Rf_isQuiet_102 rfl (rfl) (by omega) (by decide) ?_
      refine wp_icmp_le (q := 106) (tgt := 108) d_Rf_isQuiet_103 (by decide) rfl (fun hc_103 => ?_) (fun hc_103 => ?_)
      · refine wp_iinc (q := 111) (L2 := [(5, _), (4, _), (0, _), (1, _), (2, _), (3, _)]) d_Rf_isQuiet_108 rfl rfl (iinc_1) (by decide) rfl ?_
        refine wp_goto (tgt := 51) d_Rf_isQuiet_111 (by decide) ?_
        refine ih (fun j hj hne => ?_)
        by_cases q : j < s
        · exact hq j q hne
        · rw [show j = s by omega]; exact le_nlt hc_103
      · refine wp_iconst (q := 107) d_Rf_isQuiet_106 rfl ic_0 ?_
        refine wp_zret d_Rf_isQuiet_107 rfl (rfl) (Nat.le_refl _) (Nat.le_refl _) ?_
        exact h0 (fun g => (qtB_iff hG (by omega) hd4).mp ((okA_iff hS4 ha).mp g |>.1 r hr) s hs (fun e => hc_66 (by rw [e])) (nle_lt hc_103)) f
set_option maxHeartbeats 4000000 in
set_option maxRecDepth 100000 in
theorem ok_Rf_isQuiet {D : xD} {N : Nat} {l : Launch} {d : Nat} {c z : T2} {P Q : Nat → Int32} {rest : List va_E} {K : Option Value → List va_E → Prop} {R S M : Nat} {a : Nat → Nat} (hR6 : R ≤ 6) (hS4 : S ≤ 4) (hM6 : M ≤ 6) (hG : GI c) (ha : ∀ r, r < R → a r < S) (hz2 : ∀ r, r < R → z 2 r = nI (a r)) (h1 : okA c S M a R → ∀ f, K (some (.int (nI 1))) (encR D N c (tput z 4 f) P Q ++ rest)) (h0 : ¬ okA c S M a R → ∀ f, K (some (.int (nI 0))) (encR D N c (tput z 4 f) P Q ++ rest)) : Ok D N l d M_Rf_isQuiet [.ref (N + 0), .int (nI R), .int (nI S), .int (nI M)] (encR D N c z P Q ++ rest) 0 0 K := by
  have lr : ∀ r : Nat, r ≤ R → ∀ f, (∀ s, s < 4 → f s = nI (cntA a s r)) → (∀ j, j < r → qtB c S j (a j)) → Wp D N l (EI M_Rf_isQuiet) M_Rf_isQuiet (Rm d 0 0) (Qm D N K 0 0) 0 0 26 [(4, .int (nI r)), (0, .ref (N + 0)), (1, .int (nI R)), (2, .int (nI S)), (3, .int (nI M))] [] (encR D N c (tput z 4 f) P Q ++ rest) := by
    refine up_loop ?_ ?_
    · intro f hf hq
      refine wp_iload (q := 28) d_Rf_isQuiet_26 rfl rfl ?_
      refine wp_iload_n (q := 29) d_Rf_isQuiet_28 rfl rfl ?_
      refine wp_icmp_ge_t (tgt := 120) d_Rf_isQuiet_29 (by decide) (nI_le (Nat.le_refl _) (by omega)) ?_
      refine wp_aload_n (q := 121) d_Rf_isQuiet_120 rfl rfl ?_
      refine wp_get (q := 124) fl_Rf_148 d_Rf_isQuiet_121 rfl rfl rfl ?_
      refine wp_iconst (q := 125) d_Rf_isQuiet_124 rfl ic_0 ?_
      refine wp_iald (q := 126) d_Rf_isQuiet_125 rfl (rfl) (by omega) (by decide) ?_
      rw [tput_eq, hf 0 (by decide)]
      refine wp_iload_n (q := 127) d_Rf_isQuiet_126 rfl rfl ?_
      refine wp_icmp_gt (q := 130) (tgt := 164) d_Rf_isQuiet_127 (by decide) rfl (fun hc_127 => ?_) (fun hc_127 => ?_)
      · refine wp_iconst (q := 165) d_Rf_isQuiet_164 rfl ic_0 ?_
        refine wp_zret d_Rf_isQuiet_165 rfl (rfl) (Nat.le_refl _) (Nat.le_refl _) ?_
        exact h0 (fun g => le_nlt (nI_le ((okA_iff hS4 ha).mp g |>.2 0 (by decide)) (by omega)) hc_127) f
      · refine wp_aload_n (q := 131) d_Rf_isQuiet_130 rfl rfl ?_
        refine wp_get (q := 134) fl_Rf_148 d_Rf_isQuiet_131 rfl rfl rfl ?_
        refine wp_iconst (q := 135) d_Rf_isQuiet_134 rfl ic_1 ?_
        refine wp_iald (q := 136) d_Rf_isQuiet_135 rfl (rfl) (by omega) (by decide) ?_
        rw [tput_eq, hf 1 (by decide)]
        refine wp_iload_n (q := 137) d_Rf_isQuiet_136 rfl rfl ?_
        refine wp_icmp_gt (q := 140) (tgt := 164) d_Rf_isQuiet_137 (by decide) rfl (fun hc_137 => ?_) (fun hc_137 => ?_)
        · refine wp_iconst (q := 165) d_Rf_isQuiet_164 rfl ic_0 ?_
          refine wp_zret d_Rf_isQuiet_165 rfl (rfl) (Nat.le_refl _) (Nat.le_refl _) ?_
          exact h0 (fun g => le_nlt (nI_le ((okA_iff hS4 ha).mp g |>.2 1 (by decide)) (by omega)) hc_137) f
        · refine wp_aload_n (q := 141) d_Rf_isQuiet_140 rfl rfl ?_
          refine wp_get (q := 144) fl_Rf_148 d_Rf_isQuiet_141 rfl rfl rfl ?_
          refine wp_iconst (q := 145) d_Rf_isQuiet_144 rfl ic_2 ?_
          refine wp_iald (q := 146) d_Rf_isQuiet_145 rfl (rfl) (by omega) (by decide) ?_
          rw [tput_eq, hf 2 (by decide)]
          refine wp_iload_n (q := 147) d_Rf_isQuiet_146 rfl rfl ?_
          refine wp_icmp_gt (q := 150) (tgt := 164) d_Rf_isQuiet_147 (by decide) rfl (fun hc_147 => ?_) (fun hc_147 => ?_)
          · refine wp_iconst (q := 165) d_Rf_isQuiet_164 rfl ic_0 ?_
            refine wp_zret d_Rf_isQuiet_165 rfl (rfl) (Nat.le_refl _) (Nat.le_refl _) ?_
            exact h0 (fun g => le_nlt (nI_le ((okA_iff hS4 ha).mp g |>.2 2 (by decide)) (by omega)) hc_147) f
          · refine wp_aload_n (q := 151) d_Rf_isQuiet_150 rfl rfl ?_
            refine wp_get (q := 154) fl_Rf_148 d_Rf_isQuiet_151 rfl rfl rfl ?_
            refine wp_iconst (q := 155) d_Rf_isQuiet_154 rfl ic_3 ?_
            refine wp_iald (q := 156) d_Rf_isQuiet_155 rfl (rfl) (by omega) (by decide) ?_
            rw [tput_eq, hf 3 (by decide)]
            refine wp_iload_n (q := 157) d_Rf_isQuiet_156 rfl rfl ?_
            refine wp_icmp_gt (q := 160) (tgt := 164) d_Rf_isQuiet_157 (by decide) rfl (fun hc_157 => ?_) (fun hc_157 => ?_)
            · refine wp_iconst (q := 165) d_Rf_isQuiet_164 rfl ic_0 ?_
              refine wp_zret d_Rf_isQuiet_165 rfl (rfl) (Nat.le_refl _) (Nat.le_refl _) ?_
              exact h0 (fun g => le_nlt (nI_le ((okA_iff hS4 ha).mp g |>.2 3 (by decide)) (by omega)) hc_157) f
            · refine wp_iconst (q := 161) d_Rf_isQuiet_160 rfl ic_1 ?_
              refine wp_goto (tgt := 165) d_Rf_isQuiet_161 (by decide) ?_
              refine wp_zret d_Rf_isQuiet_165 rfl (rfl) (Nat.le_refl _) (Nat.le_refl _) ?_
              refine h1 ((okA_iff hS4 ha).mpr ⟨hq, fun s hs => ?_⟩) f
              rcases (show s = 0 ∨ s = 1 ∨ s = 2 ∨ s = 3 by omega) with rfl | rfl | rfl | rfl
              · exact ((nI_leI (by have := cntA_le a 0 R; omega) (by omega)).mp (nlt_le hc_127))
              · exact ((nI_leI (by have := cntA_le a 1 R; omega) (by omega)).mp (nlt_le hc_137))
              · exact ((nI_leI (by have := cntA_le a 2 R; omega) (by omega)).mp (nlt_le hc_147))
              · exact ((nI_leI (by have := cntA_le a 3 R; omega) (by omega)).mp (nlt_le hc_157))
    · intro r hr ih f hf hq
      have hd4 : a r < 4 := by have := ha r hr; omega
      refine wp_iload (q := 28) d_Rf_isQuiet_26 rfl rfl ?_
      refine wp_iload_n (q := 29) d_Rf_isQuiet_28 rfl rfl ?_
      refine wp_icmp_ge_f (q := 32) (tgt := 120) d_Rf_isQuiet_29 (by decide) rfl (nI_ge hr (by omega)) ?_
      refine wp_aload_n (q := 33) d_Rf_isQuiet_32 rfl rfl ?_
      refine wp_get (q := 36) fl_Rf_148 d_Rf_isQuiet_33 rfl rfl rfl ?_
      refine wp_aload_n (q := 37) d_Rf_isQuiet_36 rfl rfl ?_
      refine wp_get (q := 40) fl_Rf_142 d_Rf_isQuiet_37 rfl rfl rfl ?_
      refine wp_iload (q := 42) d_Rf_isQuiet_40 rfl rfl ?_
      refine wp_iald (q := 43) d_Rf_isQuiet_42 rfl (rfl) (by omega) (by decide) ?_
      rw [tput_ne _ _ (show 2 ≠ 4 by decide), hz2 r hr]
      refine wp_dup2 (q := 44) d_Rf_isQuiet_43 rfl rfl rfl ?_
      refine wp_iald (q := 45) d_Rf_isQuiet_44 rfl (rfl) (by omega) (by decide) ?_
      rw [tput_eq, hf (a r) hd4]
      refine wp_iconst (q := 46) d_Rf_isQuiet_45 rfl ic_1 ?_
      first | refine wp_iaddN (q := 47) d_Rf_isQuiet_46 rfl ?_ | refine wp_iadd (q := 47) d_Rf_isQuiet_46 rfl ?_
      refine wp_iast (q := 48) d_Rf_isQuiet_47 rfl (rfl) (by omega) (by decide) (fr_z4) ?_
      rw [tput2, tput_eq]
      refine wp_iconst (q := 49) d_Rf_isQuiet_48 rfl ic_0 ?_
      refine wp_istore (q := 51) (L2 := [(5, _), (4, _), (0, _), (1, _), (2, _), (3, _)]) d_Rf_isQuiet_49 rfl (by decide) rfl ?_
      refine iq_in hR6 hS4 hM6 hG ha hz2 h0 hr (fun hq2 => ?_) 0 (Nat.zero_le _) (fun j hj => absurd hj (Nat.not_lt_zero _))
      refine wp_iinc (q := 117) (L2 := [(4, _), (0, _), (1, _), (2, _), (3, _)]) d_Rf_isQuiet_114 rfl rfl (iinc_1) (by decide) rfl ?_
      refine wp_goto (tgt := 26) d_Rf_isQuiet_117 (by decide) ?_
      refine ih _ (fun s hs => ?_) (fun j hj => ?_)
      · rw [cntA]
        by_cases e : a r = s
        · rw [← e, upd_eq, if_pos rfl]
        · rw [upd_ne _ _ (fun g => e g.symm), if_neg e]; exact hf s hs
      · by_cases q : j < r
        · exact hq j q
        · rw [show j = r by omega]; exact (qtB_iff hG (by omega) hd4).mpr hq2
  have l0 : ∀ k : Nat, k ≤ 4 → ∀ f, (∀ v, v < k → f v = nI 0) → Wp D N l (EI M_Rf_isQuiet) M_Rf_isQuiet (Rm d 0 0) (Qm D N K 0 0) 0 0 3 [(4, .int (nI k)), (0, .ref (N + 0)), (1, .int (nI R)), (2, .int (nI S)), (3, .int (nI M))] [] (encR D N c (tput z 4 f) P Q ++ rest) := by
    refine up_loop ?_ ?_
    · intro f hf
      refine wp_iload (q := 5) d_Rf_isQuiet_3 rfl rfl ?_
      refine wp_iconst (q := 6) d_Rf_isQuiet_5 rfl ic_4 ?_
      refine wp_icmp_ge_t (tgt := 23) d_Rf_isQuiet_6 (by decide) (nI_le (Nat.le_refl _) (by decide)) ?_
      refine wp_iconst (q := 24) d_Rf_isQuiet_23 rfl ic_0 ?_
      refine wp_istore (q := 26) (L2 := [(4, _), (0, _), (1, _), (2, _), (3, _)]) d_Rf_isQuiet_24 rfl (by decide) rfl ?_
      exact lr 0 (Nat.zero_le _) f hf (fun j hj => absurd hj (Nat.not_lt_zero _))
    · intro k hk ih f hf
      refine wp_iload (q := 5) d_Rf_isQuiet_3 rfl rfl ?_
      refine wp_iconst (q := 6) d_Rf_isQuiet_5 rfl ic_4 ?_
      refine wp_icmp_ge_f (q := 9) (tgt := 23) d_Rf_isQuiet_6 (by decide) rfl (nI_ge hk (by decide)) ?_
      refine wp_aload_n (q := 10) d_Rf_isQuiet_9 rfl rfl ?_
      refine wp_get (q := 13) fl_Rf_148 d_Rf_isQuiet_10 rfl rfl rfl ?_
      refine wp_iload (q := 15) d_Rf_isQuiet_13 rfl rfl ?_
      refine wp_iconst (q := 16) d_Rf_isQuiet_15 rfl ic_0 ?_
      refine wp_iast (q := 17) d_Rf_isQuiet_16 rfl (rfl) (by omega) (by decide) (fr_z4) ?_
      rw [tput2, tput_eq]
      refine wp_iinc (q := 20) (L2 := [(4, _), (0, _), (1, _), (2, _), (3, _)]) d_Rf_isQuiet_17 rfl rfl (iinc_1) (by decide) rfl ?_
      refine wp_goto (tgt := 3) d_Rf_isQuiet_20 (by decide) ?_
      refine ih _ (fun v hv => ?_)
      by_cases e : v = k
      · rw [e, upd_eq]
      · rw [upd_ne _ _ e]; exact hf v (by omega)
  refine ok_of (L := [(0, _), (1, _), (2, _), (3, _)]) (by decide) (Nat.le_of_ble_eq_true rfl) rfl ?_
  refine wp_iconst (q := 1) d_Rf_isQuiet_0 rfl ic_0 ?_
  refine wp_istore (q := 3) (L2 := [(4, _), (0, _), (1, _), (2, _), (3, _)]) d_Rf_isQuiet_1 rfl (by decide) rfl ?_
  have h9 := l0 0 (Nat.zero_le _) (z 4) (fun v hv => absurd hv (Nat.not_lt_zero _))
  rw [tput_id] at h9
  exact h9
theorem d_Rf_part_0 : decode M_Rf_part.2.1 0 = .ok (.iload_n 1, 1) := by decide +kernel
theorem d_Rf_part_1 : decode M_Rf_part.2.1 1 = .ok (.iconst 1, 1) := by decide +kernel
theorem d_Rf_part_2 : decode M_Rf_part.2.1 2 = .ok (.bipush 6, 2) := by decide +kernel
theorem d_Rf_part_4 : decode M_Rf_part.2.1 4 = .ok (.invokestatic 151, 3) := by decide +kernel
theorem d_Rf_part_7 : decode M_Rf_part.2.1 7 = .ok (.ifCond .eq 22, 3) := by decide +kernel
theorem d_Rf_part_10 : decode M_Rf_part.2.1 10 = .ok (.iload_n 2, 1) := by decide +kernel
theorem d_Rf_part_11 : decode M_Rf_part.2.1 11 = .ok (.iconst 1, 1) := by decide +kernel
theorem d_Rf_part_12 : decode M_Rf_part.2.1 12 = .ok (.iconst 4, 1) := by decide +kernel
theorem d_Rf_part_13 : decode M_Rf_part.2.1 13 = .ok (.invokestatic 151, 3) := by decide +kernel
theorem d_Rf_part_16 : decode M_Rf_part.2.1 16 = .ok (.ifCond .eq 13, 3) := by decide +kernel
theorem d_Rf_part_19 : decode M_Rf_part.2.1 19 = .ok (.iload_n 3, 1) := by decide +kernel
theorem d_Rf_part_20 : decode M_Rf_part.2.1 20 = .ok (.iconst 1, 1) := by decide +kernel
theorem d_Rf_part_21 : decode M_Rf_part.2.1 21 = .ok (.bipush 6, 2) := by decide +kernel
theorem d_Rf_part_23 : decode M_Rf_part.2.1 23 = .ok (.invokestatic 151, 3) := by decide +kernel
theorem d_Rf_part_26 : decode M_Rf_part.2.1 26 = .ok (.ifCond .ne 6, 3) := by decide +kernel
theorem d_Rf_part_29 : decode M_Rf_part.2.1 29 = .ok (.bipush (-2), 2) := by decide +kernel
theorem d_Rf_part_31 : decode M_Rf_part.2.1 31 = .ok (.ireturn, 1) := by decide +kernel
theorem d_Rf_part_32 : decode M_Rf_part.2.1 32 = .ok (.iload 4, 2) := by decide +kernel
theorem d_Rf_part_34 : decode M_Rf_part.2.1 34 = .ok (.bipush (-2), 2) := by decide +kernel
theorem d_Rf_part_36 : decode M_Rf_part.2.1 36 = .ok (.iload_n 1, 1) := by decide +kernel
theorem d_Rf_part_37 : decode M_Rf_part.2.1 37 = .ok (.iconst 1, 1) := by decide +kernel
theorem d_Rf_part_38 : decode M_Rf_part.2.1 38 = .ok (.isub, 1) := by decide +kernel
theorem d_Rf_part_39 : decode M_Rf_part.2.1 39 = .ok (.invokestatic 151, 3) := by decide +kernel
theorem d_Rf_part_42 : decode M_Rf_part.2.1 42 = .ok (.ifCond .ne 6, 3) := by decide +kernel
theorem d_Rf_part_45 : decode M_Rf_part.2.1 45 = .ok (.bipush (-5), 2) := by decide +kernel
theorem d_Rf_part_47 : decode M_Rf_part.2.1 47 = .ok (.ireturn, 1) := by decide +kernel
theorem d_Rf_part_48 : decode M_Rf_part.2.1 48 = .ok (.iconst 1, 1) := by decide +kernel
theorem d_Rf_part_49 : decode M_Rf_part.2.1 49 = .ok (.istore 5, 2) := by decide +kernel
theorem d_Rf_part_51 : decode M_Rf_part.2.1 51 = .ok (.iconst 0, 1) := by decide +kernel
theorem d_Rf_part_52 : decode M_Rf_part.2.1 52 = .ok (.istore 6, 2) := by decide +kernel
theorem d_Rf_part_54 : decode M_Rf_part.2.1 54 = .ok (.iload 6, 2) := by decide +kernel
theorem d_Rf_part_56 : decode M_Rf_part.2.1 56 = .ok (.iload_n 1, 1) := by decide +kernel
theorem d_Rf_part_57 : decode M_Rf_part.2.1 57 = .ok (.if_icmp .ge 15, 3) := by decide +kernel
theorem d_Rf_part_60 : decode M_Rf_part.2.1 60 = .ok (.iload 5, 2) := by decide +kernel
theorem d_Rf_part_62 : decode M_Rf_part.2.1 62 = .ok (.iload_n 2, 1) := by decide +kernel
theorem d_Rf_part_63 : decode M_Rf_part.2.1 63 = .ok (.imul, 1) := by decide +kernel
theorem d_Rf_part_64 : decode M_Rf_part.2.1 64 = .ok (.istore 5, 2) := by decide +kernel
theorem d_Rf_part_66 : decode M_Rf_part.2.1 66 = .ok (.iinc 6 1, 3) := by decide +kernel
theorem d_Rf_part_69 : decode M_Rf_part.2.1 69 = .ok (.goto (-15), 3) := by decide +kernel
theorem d_Rf_part_72 : decode M_Rf_part.2.1 72 = .ok (.iconst 0, 1) := by decide +kernel
theorem d_Rf_part_73 : decode M_Rf_part.2.1 73 = .ok (.istore 6, 2) := by decide +kernel
theorem d_Rf_part_75 : decode M_Rf_part.2.1 75 = .ok (.iconst (-1), 1) := by decide +kernel
theorem d_Rf_part_76 : decode M_Rf_part.2.1 76 = .ok (.istore 7, 2) := by decide +kernel
theorem d_Rf_part_78 : decode M_Rf_part.2.1 78 = .ok (.iconst 0, 1) := by decide +kernel
theorem d_Rf_part_79 : decode M_Rf_part.2.1 79 = .ok (.istore 8, 2) := by decide +kernel
theorem d_Rf_part_81 : decode M_Rf_part.2.1 81 = .ok (.iload 8, 2) := by decide +kernel
theorem d_Rf_part_83 : decode M_Rf_part.2.1 83 = .ok (.iload 5, 2) := by decide +kernel
theorem d_Rf_part_85 : decode M_Rf_part.2.1 85 = .ok (.if_icmp .ge 124, 3) := by decide +kernel
theorem d_Rf_part_88 : decode M_Rf_part.2.1 88 = .ok (.iload 8, 2) := by decide +kernel
theorem d_Rf_part_90 : decode M_Rf_part.2.1 90 = .ok (.istore 9, 2) := by decide +kernel
theorem d_Rf_part_92 : decode M_Rf_part.2.1 92 = .ok (.iconst 0, 1) := by decide +kernel
theorem d_Rf_part_93 : decode M_Rf_part.2.1 93 = .ok (.istore 10, 2) := by decide +kernel
theorem d_Rf_part_95 : decode M_Rf_part.2.1 95 = .ok (.iload_n 1, 1) := by decide +kernel
theorem d_Rf_part_96 : decode M_Rf_part.2.1 96 = .ok (.iconst 1, 1) := by decide +kernel
theorem d_Rf_part_97 : decode M_Rf_part.2.1 97 = .ok (.isub, 1) := by decide +kernel
theorem d_Rf_part_98 : decode M_Rf_part.2.1 98 = .ok (.istore 11, 2) := by decide +kernel
theorem d_Rf_part_100 : decode M_Rf_part.2.1 100 = .ok (.iload 11, 2) := by decide +kernel
theorem d_Rf_part_102 : decode M_Rf_part.2.1 102 = .ok (.ifCond .lt 48, 3) := by decide +kernel
theorem d_Rf_part_105 : decode M_Rf_part.2.1 105 = .ok (.aload_n 0, 1) := by decide +kernel
theorem d_Rf_part_106 : decode M_Rf_part.2.1 106 = .ok (.getfield 142, 3) := by decide +kernel
theorem d_Rf_part_109 : decode M_Rf_part.2.1 109 = .ok (.iload 11, 2) := by decide +kernel
theorem d_Rf_part_111 : decode M_Rf_part.2.1 111 = .ok (.iload 9, 2) := by decide +kernel
theorem d_Rf_part_113 : decode M_Rf_part.2.1 113 = .ok (.iload_n 2, 1) := by decide +kernel
theorem d_Rf_part_114 : decode M_Rf_part.2.1 114 = .ok (.irem, 1) := by decide +kernel
theorem d_Rf_part_115 : decode M_Rf_part.2.1 115 = .ok (.iastore, 1) := by decide +kernel
theorem d_Rf_part_116 : decode M_Rf_part.2.1 116 = .ok (.iload 9, 2) := by decide +kernel
theorem d_Rf_part_118 : decode M_Rf_part.2.1 118 = .ok (.iload_n 2, 1) := by decide +kernel
theorem d_Rf_part_119 : decode M_Rf_part.2.1 119 = .ok (.idiv, 1) := by decide +kernel
theorem d_Rf_part_120 : decode M_Rf_part.2.1 120 = .ok (.istore 9, 2) := by decide +kernel
theorem d_Rf_part_122 : decode M_Rf_part.2.1 122 = .ok (.iload 10, 2) := by decide +kernel
theorem d_Rf_part_124 : decode M_Rf_part.2.1 124 = .ok (.aload_n 0, 1) := by decide +kernel
theorem d_Rf_part_125 : decode M_Rf_part.2.1 125 = .ok (.getfield 46, 3) := by decide +kernel
theorem d_Rf_part_128 : decode M_Rf_part.2.1 128 = .ok (.iconst 4, 1) := by decide +kernel
theorem d_Rf_part_129 : decode M_Rf_part.2.1 129 = .ok (.iload 11, 2) := by decide +kernel
theorem d_Rf_part_131 : decode M_Rf_part.2.1 131 = .ok (.imul, 1) := by decide +kernel
theorem d_Rf_part_132 : decode M_Rf_part.2.1 132 = .ok (.aload_n 0, 1) := by decide +kernel
theorem d_Rf_part_133 : decode M_Rf_part.2.1 133 = .ok (.getfield 142, 3) := by decide +kernel
theorem d_Rf_part_136 : decode M_Rf_part.2.1 136 = .ok (.iload 11, 2) := by decide +kernel
theorem d_Rf_part_138 : decode M_Rf_part.2.1 138 = .ok (.iaload, 1) := by decide +kernel
theorem d_Rf_part_139 : decode M_Rf_part.2.1 139 = .ok (.iadd, 1) := by decide +kernel
theorem d_Rf_part_140 : decode M_Rf_part.2.1 140 = .ok (.iaload, 1) := by decide +kernel
theorem d_Rf_part_141 : decode M_Rf_part.2.1 141 = .ok (.iadd, 1) := by decide +kernel
theorem d_Rf_part_142 : decode M_Rf_part.2.1 142 = .ok (.istore 10, 2) := by decide +kernel
theorem d_Rf_part_144 : decode M_Rf_part.2.1 144 = .ok (.iinc 11 (-1), 3) := by decide +kernel
theorem d_Rf_part_147 : decode M_Rf_part.2.1 147 = .ok (.goto (-47), 3) := by decide +kernel
theorem d_Rf_part_150 : decode M_Rf_part.2.1 150 = .ok (.aload_n 0, 1) := by decide +kernel
theorem d_Rf_part_151 : decode M_Rf_part.2.1 151 = .ok (.iload_n 1, 1) := by decide +kernel
theorem d_Rf_part_152 : decode M_Rf_part.2.1 152 = .ok (.iload_n 2, 1) := by decide +kernel
theorem d_Rf_part_153 : decode M_Rf_part.2.1 153 = .ok (.iload_n 3, 1) := by decide +kernel
theorem d_Rf_part_154 : decode M_Rf_part.2.1 154 = .ok (.invokevirtual 294, 3) := by decide +kernel
theorem d_Rf_part_157 : decode M_Rf_part.2.1 157 = .ok (.ifCond .eq 46, 3) := by decide +kernel
theorem d_Rf_part_160 : decode M_Rf_part.2.1 160 = .ok (.iinc 6 1, 3) := by decide +kernel
theorem d_Rf_part_163 : decode M_Rf_part.2.1 163 = .ok (.iload 10, 2) := by decide +kernel
theorem d_Rf_part_165 : decode M_Rf_part.2.1 165 = .ok (.iload 7, 2) := by decide +kernel
theorem d_Rf_part_167 : decode M_Rf_part.2.1 167 = .ok (.if_icmp .le 36, 3) := by decide +kernel
theorem d_Rf_part_170 : decode M_Rf_part.2.1 170 = .ok (.iload 10, 2) := by decide +kernel
theorem d_Rf_part_172 : decode M_Rf_part.2.1 172 = .ok (.istore 7, 2) := by decide +kernel
theorem d_Rf_part_174 : decode M_Rf_part.2.1 174 = .ok (.iconst 0, 1) := by decide +kernel
theorem d_Rf_part_175 : decode M_Rf_part.2.1 175 = .ok (.istore 11, 2) := by decide +kernel
theorem d_Rf_part_177 : decode M_Rf_part.2.1 177 = .ok (.iload 11, 2) := by decide +kernel
theorem d_Rf_part_179 : decode M_Rf_part.2.1 179 = .ok (.iload_n 1, 1) := by decide +kernel
theorem d_Rf_part_180 : decode M_Rf_part.2.1 180 = .ok (.if_icmp .ge 23, 3) := by decide +kernel
theorem d_Rf_part_183 : decode M_Rf_part.2.1 183 = .ok (.aload_n 0, 1) := by decide +kernel
theorem d_Rf_part_184 : decode M_Rf_part.2.1 184 = .ok (.getfield 145, 3) := by decide +kernel
theorem d_Rf_part_187 : decode M_Rf_part.2.1 187 = .ok (.iload 11, 2) := by decide +kernel
theorem d_Rf_part_189 : decode M_Rf_part.2.1 189 = .ok (.aload_n 0, 1) := by decide +kernel
theorem d_Rf_part_190 : decode M_Rf_part.2.1 190 = .ok (.getfield 142, 3) := by decide +kernel
theorem d_Rf_part_193 : decode M_Rf_part.2.1 193 = .ok (.iload 11, 2) := by decide +kernel
theorem d_Rf_part_195 : decode M_Rf_part.2.1 195 = .ok (.iaload, 1) := by decide +kernel
theorem d_Rf_part_196 : decode M_Rf_part.2.1 196 = .ok (.iastore, 1) := by decide +kernel
theorem d_Rf_part_197 : decode M_Rf_part.2.1 197 = .ok (.iinc 11 1, 3) := by decide +kernel
theorem d_Rf_part_200 : decode M_Rf_part.2.1 200 = .ok (.goto (-23), 3) := by decide +kernel
theorem d_Rf_part_203 : decode M_Rf_part.2.1 203 = .ok (.iinc 8 1, 3) := by decide +kernel
theorem d_Rf_part_206 : decode M_Rf_part.2.1 206 = .ok (.goto (-125), 3) := by decide +kernel
theorem d_Rf_part_209 : decode M_Rf_part.2.1 209 = .ok (.iload 4, 2) := by decide +kernel
theorem d_Rf_part_211 : decode M_Rf_part.2.1 211 = .ok (.bipush (-2), 2) := by decide +kernel
theorem d_Rf_part_213 : decode M_Rf_part.2.1 213 = .ok (.if_icmp .ne 6, 3) := by decide +kernel
theorem d_Rf_part_216 : decode M_Rf_part.2.1 216 = .ok (.iload 6, 2) := by decide +kernel
theorem d_Rf_part_218 : decode M_Rf_part.2.1 218 = .ok (.ireturn, 1) := by decide +kernel
theorem d_Rf_part_219 : decode M_Rf_part.2.1 219 = .ok (.iload 6, 2) := by decide +kernel
theorem d_Rf_part_221 : decode M_Rf_part.2.1 221 = .ok (.ifCond .ne 8, 3) := by decide +kernel
theorem d_Rf_part_224 : decode M_Rf_part.2.1 224 = .ok (.bipush (-3), 2) := by decide +kernel
theorem d_Rf_part_226 : decode M_Rf_part.2.1 226 = .ok (.goto 21, 3) := by decide +kernel
theorem d_Rf_part_229 : decode M_Rf_part.2.1 229 = .ok (.iload 4, 2) := by decide +kernel
theorem d_Rf_part_231 : decode M_Rf_part.2.1 231 = .ok (.iconst (-1), 1) := by decide +kernel
theorem d_Rf_part_232 : decode M_Rf_part.2.1 232 = .ok (.if_icmp .ne 8, 3) := by decide +kernel
theorem d_Rf_part_235 : decode M_Rf_part.2.1 235 = .ok (.iload 7, 2) := by decide +kernel
theorem d_Rf_part_237 : decode M_Rf_part.2.1 237 = .ok (.goto 10, 3) := by decide +kernel
theorem d_Rf_part_240 : decode M_Rf_part.2.1 240 = .ok (.aload_n 0, 1) := by decide +kernel
theorem d_Rf_part_241 : decode M_Rf_part.2.1 241 = .ok (.getfield 145, 3) := by decide +kernel
theorem d_Rf_part_244 : decode M_Rf_part.2.1 244 = .ok (.iload 4, 2) := by decide +kernel
theorem d_Rf_part_246 : decode M_Rf_part.2.1 246 = .ok (.iaload, 1) := by decide +kernel
theorem d_Rf_part_247 : decode M_Rf_part.2.1 247 = .ok (.ireturn, 1) := by decide +kernel
set_option maxHeartbeats 4000000 in
set_option maxRecDepth 100000 in
theorem pc_Rf_part {D : xD} {N : Nat} {l : Launch} {d : Nat} {c z : T2} {P Q : Nat → Int32} {rest : List va_E} {K : Option Value → List va_E → Prop} {R S M : Nat} {i : Int32} (hR6 : R ≤ 6) (hS1 : 1 ≤ S) (hS4 : S ≤ 4) (hM6 : M ≤ 6) {a : Nat → Nat} (hz2 : ∀ r, r < R → z 2 r = nI (a r)) {w q ways : Nat} {b : Int32} (hend : ∀ f, (∀ r, r < R → f r = nI (a r)) → Wp D N l (EI M_Rf_part) M_Rf_part (Rm (d + 2) 0 0) (Qm D N K 0 0) 0 0 203 [(8, .int (nI w)), (7, .int b), (6, .int (nI q)), (5, .int (nI ways)), (0, .ref (N + 0)), (1, .int (nI R)), (2, .int (nI S)), (3, .int (nI M)), (4, .int i)] [] (encR D N c (tput z 3 f) P Q ++ rest)) : ∀ t : Nat, t ≤ R → ∀ f, (∀ r, r < t → f r = nI (a r)) → Wp D N l (EI M_Rf_part) M_Rf_part (Rm (d + 2) 0 0) (Qm D N K 0 0) 0 0 177 [(11, .int (nI t)), (8, .int (nI w)), (7, .int b), (6, .int (nI q)), (5, .int (nI ways)), (0, .ref (N + 0)), (1, .int (nI R)), (2, .int (nI S)), (3, .int (nI M)), (4, .int i)] [] (encR D N c (tput z 3 f) P Q ++ rest) := by
  refine up_loop ?_ ?_
  · intro f hf
    refine wp_iload (q := 179) d_Rf_part_177 rfl rfl ?_
    refine wp_iload_n (q := 180) d_Rf_part_179 rfl rfl ?_
    refine wp_icmp_ge_t (tgt := 203) d_Rf_part_180 (by decide) (nI_le (Nat.le_refl _) (by omega)) ?_
    refine wp_sub [1, 2, 3, 4, 5, 6, 7, 8, 9] rfl ?_
    exact hend f hf
  · intro t ht ih f hf
    refine wp_iload (q := 179) d_Rf_part_177 rfl rfl ?_
    refine wp_iload_n (q := 180) d_Rf_part_179 rfl rfl ?_
    refine wp_icmp_ge_f (q := 183) (tgt := 203) d_Rf_part_180 (by decide) rfl (nI_ge ht (by omega)) ?_
    refine wp_aload_n (q := 184) d_Rf_part_183 rfl rfl ?_
    refine wp_get (q := 187) fl_Rf_145 d_Rf_part_184 rfl rfl rfl ?_
    refine wp_iload (q := 189) d_Rf_part_187 rfl rfl ?_
    refine wp_aload_n (q := 190) d_Rf_part_189 rfl rfl ?_
    refine wp_get (q := 193) fl_Rf_142 d_Rf_part_190 rfl rfl rfl ?_
    refine wp_iload (q := 195) d_Rf_part_193 rfl rfl ?_
    refine wp_iald (q := 196) d_Rf_part_195 rfl (rfl) (by omega) (by decide) ?_
    rw [tput_ne _ _ (show 2 ≠ 3 by decide), hz2 t ht]
    refine wp_iast (q := 197) d_Rf_part_196 rfl (rfl) (by omega) (by decide) (fr_z3) ?_
    rw [tput2, tput_eq]
    refine wp_iinc (q := 200) (L2 := [(11, _), (8, _), (7, _), (6, _), (5, _), (0, _), (1, _), (2, _), (3, _), (4, _)]) d_Rf_part_197 rfl rfl (iinc_1) (by decide) rfl ?_
    refine wp_goto (tgt := 177) d_Rf_part_200 (by decide) ?_
    refine ih _ (fun r hr => ?_)
    by_cases e : r = t
    · rw [e, upd_eq]
    · rw [upd_ne _ _ e]; exact hf r (by omega)
set_option maxHeartbeats 4000000 in
set_option maxRecDepth 100000 in
theorem pd_Rf_part {D : xD} {N : Nat} {l : Launch} {d : Nat} {c z : T2} {P Q : Nat → Int32} {rest : List va_E} {K : Option Value → List va_E → Prop} {R S M : Nat} {i : Int32} (hR6 : R ≤ 6) (hS1 : 1 ≤ S) (hS4 : S ≤ 4) (hM6 : M ≤ 6) {w q ways : Nat} {b : Int32} (hw : w < 4096) (hend : ∀ f, (∀ r, r < R → f r = nI ((sdg S w R) r)) → Wp D N l (EI M_Rf_part) M_Rf_part (Rm (d + 2) 0 0) (Qm D N K 0 0) 0 0 150 [(10, .int (smA c (sdg S w R) R)), (8, .int (nI w)), (7, .int b), (6, .int (nI q)), (5, .int (nI ways)), (0, .ref (N + 0)), (1, .int (nI R)), (2, .int (nI S)), (3, .int (nI M)), (4, .int i)] [] (encR D N c (tput z 2 f) P Q ++ rest)) : ∀ j : Nat, j ≤ R → ∀ (f : Nat → Int32) (gn : Int32), (∀ r, R - j ≤ r → r < R → f r = nI ((sdg S w R) r)) → smA c (sdg S w R) (R - j) + gn = smA c (sdg S w R) R → Wp D N l (EI M_Rf_part) M_Rf_part (Rm (d + 2) 0 0) (Qm D N K 0 0) 0 0 100 [(11, .int (nI R - nI (j + 1))), (10, .int gn), (9, .int (nI (w / S ^ j))), (8, .int (nI w)), (7, .int b), (6, .int (nI q)), (5, .int (nI ways)), (0, .ref (N + 0)), (1, .int (nI R)), (2, .int (nI S)), (3, .int (nI M)), (4, .int i)] [] (encR D N c (tput z 2 f) P Q ++ rest) := by
  refine up_loop ?_ ?_
  · intro f gn hf hg
    refine wp_iload (q := 102) d_Rf_part_100 rfl rfl ?_
    refine wp_if_lt_t (tgt := 150) d_Rf_part_102 (by decide) (lv_e R (by omega)) ?_
    refine wp_sub [1, 3, 4, 5, 6, 7, 8, 9, 10, 11] rfl ?_
    rw [Nat.sub_self, smA, show nI 0 = (0 : Int32) from nI_0, Int32.zero_add] at hg
    rw [hg]
    exact hend f (fun r hr => hf r (by omega) hr)
  · intro j hj ih f gn hf hg
    rw [lv_0 R (by omega) j hj]
    have hwj : w / S ^ j < 2 ^ 31 := by have := Nat.div_le_self w (S ^ j); omega
    have hmod : w / S ^ j % S < 4 := by have := Nat.mod_lt (w / S ^ j) (show 0 < S by omega); omega
    refine wp_iload (q := 102) d_Rf_part_100 rfl rfl ?_
    refine wp_if_lt_f (q := 105) (tgt := 150) d_Rf_part_102 (by decide) rfl (nI_pos (by omega)) ?_
    refine wp_aload_n (q := 106) d_Rf_part_105 rfl rfl ?_
    refine wp_get (q := 109) fl_Rf_142 d_Rf_part_106 rfl rfl rfl ?_
    refine wp_iload (q := 111) d_Rf_part_109 rfl rfl ?_
    refine wp_iload (q := 113) d_Rf_part_111 rfl rfl ?_
    refine wp_iload_n (q := 114) d_Rf_part_113 rfl rfl ?_
    refine wp_iremN (q := 115) d_Rf_part_114 rfl hwj (by omega) (by omega) ?_
    refine wp_iast (q := 116) d_Rf_part_115 rfl (rfl) (by omega) (by decide) (fr_z2) ?_
    rw [tput2, tput_eq]
    refine wp_iload (q := 118) d_Rf_part_116 rfl rfl ?_
    refine wp_iload_n (q := 119) d_Rf_part_118 rfl rfl ?_
    refine wp_idivN (q := 120) d_Rf_part_119 rfl hwj (by omega) (by omega) ?_
    refine wp_istore (q := 122) (L2 := [(9, _), (11, _), (10, _), (8, _), (7, _), (6, _), (5, _), (0, _), (1, _), (2, _), (3, _), (4, _)]) d_Rf_part_120 rfl (by decide) rfl ?_
    refine wp_iload (q := 124) d_Rf_part_122 rfl rfl ?_
    refine wp_aload_n (q := 125) d_Rf_part_124 rfl rfl ?_
    refine wp_get (q := 128) fl_Rf_46 d_Rf_part_125 rfl rfl rfl ?_
    refine wp_iconst (q := 129) d_Rf_part_128 rfl ic_4 ?_
    refine wp_iload (q := 131) d_Rf_part_129 rfl rfl ?_
    first | refine wp_imulN (q := 132) d_Rf_part_131 rfl ?_ | refine wp_imul (q := 132) d_Rf_part_131 rfl ?_
    refine wp_aload_n (q := 133) d_Rf_part_132 rfl rfl ?_
    refine wp_get (q := 136) fl_Rf_142 d_Rf_part_133 rfl rfl rfl ?_
    refine wp_iload (q := 138) d_Rf_part_136 rfl rfl ?_
    refine wp_iald (q := 139) d_Rf_part_138 rfl (rfl) (by omega) (by decide) ?_
    rw [tput_eq, upd_eq]
    first | refine wp_iaddN (q := 140) d_Rf_part_139 rfl ?_ | refine wp_iadd (q := 140) d_Rf_part_139 rfl ?_
    refine wp_iald (q := 141) d_Rf_part_140 rfl (rfl) (by omega) (by decide) ?_
    refine wp_iadd (q := 142) d_Rf_part_141 rfl ?_
    refine wp_istore (q := 144) (L2 := [(10, _), (9, _), (11, _), (8, _), (7, _), (6, _), (5, _), (0, _), (1, _), (2, _), (3, _), (4, _)]) d_Rf_part_142 rfl (by decide) rfl ?_
    refine wp_iinc (q := 147) (L2 := [(11, _), (10, _), (9, _), (8, _), (7, _), (6, _), (5, _), (0, _), (1, _), (2, _), (3, _), (4, _)]) d_Rf_part_144 rfl rfl (iinc_g) (by decide) rfl ?_
    refine wp_goto (tgt := 100) d_Rf_part_147 (by decide) ?_
    rw [lv_1 R (by omega) j hj, Nat.div_div_eq_div_mul, ← Nat.pow_succ]
    refine ih _ _ (fun r hr1 hr2 => ?_) ?_
    · by_cases e : r = R - 1 - j
      · rw [e, upd_eq]
        unfold sdg
        rw [show R - 1 - (R - 1 - j) = j by omega]
      · rw [upd_ne _ _ e]; exact hf r (by omega) hr2
    · rw [← hg, show R - j = R - (j + 1) + 1 by omega, smA]
      unfold sdg
      rw [show R - (j + 1) = R - 1 - j by omega, show R - 1 - (R - 1 - j) = j by omega, Int32.add_assoc, Int32.add_comm (c 11 _) gn]
set_option maxHeartbeats 4000000 in
set_option maxRecDepth 100000 in
theorem pw_Rf_part {D : xD} {N : Nat} {l : Launch} {d : Nat} {c : T2} {P Q : Nat → Int32} {rest : List va_E} {K : Option Value → List va_E → Prop} {R S M : Nat} {i : Int32} (hR6 : R ≤ 6) (hS1 : 1 ≤ S) (hS4 : S ≤ 4) (hM6 : M ≤ 6) (hG : GI c) (hi : ¬ i = -2 → ¬ i = -1 → ∃ i1, i1 < R ∧ i = nI i1) (hK : ∀ z, K (some (.int (prt c R S M i))) (encR D N c z P Q ++ rest)) : ∀ w : Nat, w ≤ S ^ R → ∀ z : T2, (¬ (rN c R S M w).1 = 0 → ∀ r, r < R → z 3 r = nI (sdg S (rN c R S M w).2.2 R r)) → Wp D N l (EI M_Rf_part) M_Rf_part (Rm (d + 2) 0 0) (Qm D N K 0 0) 0 0 81 [(8, .int (nI w)), (7, .int (rN c R S M w).2.1), (6, .int (nI (rN c R S M w).1)), (5, .int (nI (S ^ R))), (0, .ref (N + 0)), (1, .int (nI R)), (2, .int (nI S)), (3, .int (nI M)), (4, .int i)] [] (encR D N c z P Q ++ rest) := by
  have hSR := powS R hR6 S hS4
  refine up_loop ?_ ?_
  · intro z hz3
    refine wp_iload (q := 83) d_Rf_part_81 rfl rfl ?_
    refine wp_iload (q := 85) d_Rf_part_83 rfl rfl ?_
    refine wp_icmp_ge_t (tgt := 209) d_Rf_part_85 (by decide) (nI_le (Nat.le_refl _) (by omega)) ?_
    refine wp_iload (q := 211) d_Rf_part_209 rfl rfl ?_
    refine wp_bipush (q := 213) d_Rf_part_211 rfl bp_m2 ?_
    refine wp_icmp_ne (q := 216) (tgt := 219) d_Rf_part_213 (by decide) rfl (fun hc_213 => ?_) (fun hc_213 => ?_)
    · refine wp_iload (q := 221) d_Rf_part_219 rfl rfl ?_
      refine wp_if_ne (q := 224) (tgt := 229) d_Rf_part_221 (by decide) rfl (fun hc_221 => ?_) (fun hc_221 => ?_)
      · refine wp_iload (q := 231) d_Rf_part_229 rfl rfl ?_
        refine wp_iconst (q := 232) d_Rf_part_231 rfl ic_m1 ?_
        refine wp_icmp_ne (q := 235) (tgt := 240) d_Rf_part_232 (by decide) rfl (fun hc_232 => ?_) (fun hc_232 => ?_)
        · obtain ⟨i1, hi1, rfl⟩ := hi hc_213 hc_232
          have hz : ¬ (rN c R S M (S ^ R)).1 = 0 := fun g => hc_221 (by rw [g]; exact nI_0)
          refine wp_aload_n (q := 241) d_Rf_part_240 rfl rfl ?_
          refine wp_get (q := 244) fl_Rf_145 d_Rf_part_241 rfl rfl rfl ?_
          refine wp_iload (q := 246) d_Rf_part_244 rfl rfl ?_
          refine wp_iald (q := 247) d_Rf_part_246 rfl (rfl) (by omega) (by decide) ?_
          rw [hz3 hz i1 hi1]
          refine wp_iret d_Rf_part_247 rfl (Nat.le_refl _) (Nat.le_refl _) ?_
          have h := hK z
          unfold prt at h
          rw [if_neg hc_213, if_neg hz, if_neg hc_232, tnt (show i1 < 6 by omega)] at h
          exact h
        · refine wp_iload (q := 237) d_Rf_part_235 rfl rfl ?_
          refine wp_goto (tgt := 247) d_Rf_part_237 (by decide) ?_
          refine wp_iret d_Rf_part_247 rfl (Nat.le_refl _) (Nat.le_refl _) ?_
          have hz : ¬ (rN c R S M (S ^ R)).1 = 0 := fun g => hc_221 (by rw [g]; exact nI_0)
          have h := hK z
          unfold prt at h
          rw [if_neg hc_213, if_neg hz, if_pos hc_232] at h
          exact h
      · refine wp_bipush (q := 226) d_Rf_part_224 rfl bp_m3 ?_
        refine wp_goto (tgt := 247) d_Rf_part_226 (by decide) ?_
        refine wp_iret d_Rf_part_247 rfl (Nat.le_refl _) (Nat.le_refl _) ?_
        have h := hK z
        unfold prt at h
        rw [if_neg hc_213, if_pos (by have := rN_le (c := c) (R := R) (S := S) (M := M) (S ^ R); exact (nI_eq (by omega) (by decide)).mp (hc_221.trans nI_0.symm))] at h
        exact h
    · refine wp_iload (q := 218) d_Rf_part_216 rfl rfl ?_
      refine wp_iret d_Rf_part_218 rfl (Nat.le_refl _) (Nat.le_refl _) ?_
      have h := hK z
      unfold prt at h
      rw [if_pos hc_213] at h
      exact h
  · intro w hw ih z hz3
    have hnext : ∀ f, (∀ r, r < R → f r = nI ((sdg S w R) r)) → Wp D N l (EI M_Rf_part) M_Rf_part (Rm (d + 2) 0 0) (Qm D N K 0 0) 0 0 150 [(10, .int (smA c (sdg S w R) R)), (8, .int (nI w)), (7, .int (rN c R S M w).2.1), (6, .int (nI (rN c R S M w).1)), (5, .int (nI (S ^ R))), (0, .ref (N + 0)), (1, .int (nI R)), (2, .int (nI S)), (3, .int (nI M)), (4, .int i)] [] (encR D N c (tput z 2 f) P Q ++ rest) := by
      intro f hf
      refine wp_aload_n (q := 151) d_Rf_part_150 rfl rfl ?_
      refine wp_iload_n (q := 152) d_Rf_part_151 rfl rfl ?_
      refine wp_iload_n (q := 153) d_Rf_part_152 rfl rfl ?_
      refine wp_iload_n (q := 154) d_Rf_part_153 rfl rfl ?_
      refine wp_cv3 (q := 157) lk_Rf_294 (ro _ _ _) d_Rf_part_154 rfl (Nat.le_of_ble_eq_true rfl) (rfl) rfl (Nat.zero_le _) (Nat.zero_le _) ?_
      refine ok_Rf_isQuiet (a := (sdg S w R)) hR6 hS4 hM6 hG (fun r hr => sdg_lt hS1 w R r) (fun r hr => by rw [tput_eq]; exact hf r hr) (fun hok f4 => ?_) (fun hok f4 => ?_)
      · by_cases hb : (rN c R S M w).2.1 < smA c (sdg S w R) R
        · have eN := rN_y hok hb
          refine wp_if_eq_f (q := 160) (tgt := 203) d_Rf_part_157 (by decide) rfl (by decide) ?_
          refine wp_iinc (q := 163) (L2 := [(6, _), (10, _), (8, _), (7, _), (5, _), (0, _), (1, _), (2, _), (3, _), (4, _)]) d_Rf_part_160 rfl rfl (iinc_1) (by decide) rfl ?_
          refine wp_iload (q := 165) d_Rf_part_163 rfl rfl ?_
          refine wp_iload (q := 167) d_Rf_part_165 rfl rfl ?_
          refine wp_icmp_le_f (q := 170) (tgt := 203) d_Rf_part_167 (by decide) rfl (fun g => lt_le hb g) ?_
          refine wp_iload (q := 172) d_Rf_part_170 rfl rfl ?_
          refine wp_istore (q := 174) (L2 := [(7, _), (6, _), (10, _), (8, _), (5, _), (0, _), (1, _), (2, _), (3, _), (4, _)]) d_Rf_part_172 rfl (by decide) rfl ?_
          refine wp_iconst (q := 175) d_Rf_part_174 rfl ic_0 ?_
          refine wp_istore (q := 177) (L2 := [(11, _), (7, _), (6, _), (10, _), (8, _), (5, _), (0, _), (1, _), (2, _), (3, _), (4, _)]) d_Rf_part_175 rfl (by decide) rfl ?_
          refine wp_sub [0, 4, 1, 2, 5, 6, 7, 8, 9, 10] rfl ?_
          have hz2 : ∀ r, r < R → (tput (tput z 2 f) 4 f4) 2 r = nI ((sdg S w R) r) := fun r hr => by rw [tput_ne _ _ (show 2 ≠ 4 by decide), tput_eq]; exact hf r hr
          have hn3 : ∀ f3 : Nat → Int32, (∀ r, r < R → f3 r = nI ((sdg S w R) r)) → Wp D N l (EI M_Rf_part) M_Rf_part (Rm (d + 2) 0 0) (Qm D N K 0 0) 0 0 203 [(8, .int (nI w)), (7, .int (smA c (sdg S w R) R)), (6, .int (nI ((rN c R S M w).1 + 1))), (5, .int (nI (S ^ R))), (0, .ref (N + 0)), (1, .int (nI R)), (2, .int (nI S)), (3, .int (nI M)), (4, .int i)] [] (encR D N c (tput (tput (tput z 2 f) 4 f4) 3 f3) P Q ++ rest) := by
            intro f3 hf3
            refine wp_iinc (q := 206) (L2 := [(8, _), (7, _), (6, _), (5, _), (0, _), (1, _), (2, _), (3, _), (4, _)]) d_Rf_part_203 rfl rfl (iinc_1) (by decide) rfl ?_
            refine wp_goto (tgt := 81) d_Rf_part_206 (by decide) ?_
            have h := ih (tput (tput (tput z 2 f) 4 f4) 3 f3) (by rw [eN]; intro _; rw [tput_eq]; exact hf3)
            rw [eN] at h
            exact h
          have h9 := pc_Rf_part hR6 hS1 hS4 hM6 hz2 hn3 0 (Nat.zero_le _) (tput (tput z 2 f) 4 f4 3) (fun r hr => absurd hr (Nat.not_lt_zero _))
          rw [tput_id] at h9
          exact h9
        · have eN := rN_z hok hb
          have hz3b : ∀ r, r < R → tput (tput z 2 f) 4 f4 3 r = nI (sdg S (rN c R S M w).2.2 R r) := by
            intro r hr
            rw [tput_ne _ _ (show 3 ≠ 4 by decide), tput_ne _ _ (show 3 ≠ 2 by decide)]
            refine hz3 (fun g => hb ?_) r hr
            have hb0 := rN_best (c := c) (R := R) (S := S) (M := M) w g
            rw [hb0]
            obtain ⟨q, hq, e⟩ := (smA_N (a := (sdg S w R)) hG (fun r => Nat.lt_of_lt_of_le (sdg_lt hS1 w R r) hS4) R hR6).ex
            rw [e, Int32.lt_iff_toInt_lt, nI_toInt (by omega)]
            have : (-1 : Int32).toInt = -1 := by decide
            omega
          refine wp_if_eq_f (q := 160) (tgt := 203) d_Rf_part_157 (by decide) rfl (by decide) ?_
          refine wp_iinc (q := 163) (L2 := [(6, _), (10, _), (8, _), (7, _), (5, _), (0, _), (1, _), (2, _), (3, _), (4, _)]) d_Rf_part_160 rfl rfl (iinc_1) (by decide) rfl ?_
          refine wp_iload (q := 165) d_Rf_part_163 rfl rfl ?_
          refine wp_iload (q := 167) d_Rf_part_165 rfl rfl ?_
          refine wp_icmp_le_t (tgt := 203) d_Rf_part_167 (by decide) (nlt_le hb) ?_
          refine wp_iinc (q := 206) (L2 := [(8, _), (6, _), (10, _), (7, _), (5, _), (0, _), (1, _), (2, _), (3, _), (4, _)]) d_Rf_part_203 rfl rfl (iinc_1) (by decide) rfl ?_
          refine wp_goto (tgt := 81) d_Rf_part_206 (by decide) ?_
          refine wp_sub [0, 3, 1, 4, 5, 6, 7, 8, 9] rfl ?_
          have h := ih (tput (tput z 2 f) 4 f4) (by rw [eN]; intro _; exact hz3b)
          rw [eN] at h
          exact h
      · have eN := rN_n hok
        refine wp_if_eq_t (tgt := 203) d_Rf_part_157 (by decide) (by decide) ?_
        refine wp_iinc (q := 206) (L2 := [(8, _), (10, _), (7, _), (6, _), (5, _), (0, _), (1, _), (2, _), (3, _), (4, _)]) d_Rf_part_203 rfl rfl (iinc_1) (by decide) rfl ?_
        refine wp_goto (tgt := 81) d_Rf_part_206 (by decide) ?_
        refine wp_sub [0, 2, 3, 4, 5, 6, 7, 8, 9] rfl ?_
        have h := ih (tput (tput z 2 f) 4 f4) (by rw [eN]; exact hz3)
        rw [eN] at h
        exact h
    refine wp_iload (q := 83) d_Rf_part_81 rfl rfl ?_
    refine wp_iload (q := 85) d_Rf_part_83 rfl rfl ?_
    refine wp_icmp_ge_f (q := 88) (tgt := 209) d_Rf_part_85 (by decide) rfl (nI_ge hw (by omega)) ?_
    refine wp_iload (q := 90) d_Rf_part_88 rfl rfl ?_
    refine wp_istore (q := 92) (L2 := [(9, _), (8, _), (7, _), (6, _), (5, _), (0, _), (1, _), (2, _), (3, _), (4, _)]) d_Rf_part_90 rfl (by decide) rfl ?_
    refine wp_iconst (q := 93) d_Rf_part_92 rfl ic_0 ?_
    refine wp_istore (q := 95) (L2 := [(10, _), (9, _), (8, _), (7, _), (6, _), (5, _), (0, _), (1, _), (2, _), (3, _), (4, _)]) d_Rf_part_93 rfl (by decide) rfl ?_
    refine wp_iload_n (q := 96) d_Rf_part_95 rfl rfl ?_
    refine wp_iconst (q := 97) d_Rf_part_96 rfl ic_1 ?_
    refine wp_isub (q := 98) d_Rf_part_97 rfl ?_
    refine wp_istore (q := 100) (L2 := [(11, _), (10, _), (9, _), (8, _), (7, _), (6, _), (5, _), (0, _), (1, _), (2, _), (3, _), (4, _)]) d_Rf_part_98 rfl (by decide) rfl ?_
    have h9 := pd_Rf_part (l := l) (d := d) (c := c) (z := z) (P := P) (Q := Q) (rest := rest) (K := K) (i := i) (M := M) (w := w) (q := (rN c R S M w).1) (ways := S ^ R) (b := (rN c R S M w).2.1) hR6 hS1 hS4 hM6 (by omega) hnext 0 (Nat.zero_le _) (z 2) (nI 0) (fun r h1 h2 => by omega) (by rw [show nI 0 = (0 : Int32) from nI_0, Int32.add_zero, Nat.sub_zero])
    rw [tput_id, Nat.pow_zero, Nat.div_one] at h9
    exact h9
set_option maxHeartbeats 4000000 in
set_option maxRecDepth 100000 in
theorem ok_Rf_part {D : xD} {N : Nat} {l : Launch} {d : Nat} {c z : T2} {P Q : Nat → Int32} {rest : List va_E} {K : Option Value → List va_E → Prop} {r s m i : Int32} (hG : GI c) (hK : ∀ z : T2, K (some (.int (sp_part c r s m i))) (encR D N c z P Q ++ rest)) : Ok D N l (d + 2) M_Rf_part [.ref (N + 0), .int r, .int s, .int m, .int i] (encR D N c z P Q ++ rest) 0 0 K := by
  refine ok_of (L := [(0, _), (1, _), (2, _), (3, _), (4, _)]) (by decide) (Nat.le_of_ble_eq_true rfl) rfl ?_
  refine wp_iload_n (q := 1) d_Rf_part_0 rfl rfl ?_
  refine wp_iconst (q := 2) d_Rf_part_1 rfl ic_1 ?_
  refine wp_bipush (q := 4) d_Rf_part_2 rfl bp_6 ?_
  refine wp_cs3 (q := 7) lk_Rf_151 (ro _ _ _) d_Rf_part_4 rfl (Nat.le_of_ble_eq_true rfl) (Nat.zero_le _) (Nat.zero_le _) ?_
  refine ok_Rf_in (fun hra hrb => ?_) (fun hrn => ?_)
  · obtain ⟨r1, hr1, hr2, rfl⟩ := nI_btw1 (by decide) hra hrb
    refine wp_if_eq_f (q := 10) (tgt := 29) d_Rf_part_7 (by decide) rfl (by decide) ?_
    refine wp_iload_n (q := 11) d_Rf_part_10 rfl rfl ?_
    refine wp_iconst (q := 12) d_Rf_part_11 rfl ic_1 ?_
    refine wp_iconst (q := 13) d_Rf_part_12 rfl ic_4 ?_
    refine wp_cs3 (q := 16) lk_Rf_151 (ro _ _ _) d_Rf_part_13 rfl (Nat.le_of_ble_eq_true rfl) (Nat.zero_le _) (Nat.zero_le _) ?_
    refine ok_Rf_in (fun hsa hsb => ?_) (fun hsn => ?_)
    · obtain ⟨s1, hs1, hs2, rfl⟩ := nI_btw1 (by decide) hsa hsb
      refine wp_if_eq_f (q := 19) (tgt := 29) d_Rf_part_16 (by decide) rfl (by decide) ?_
      refine wp_iload_n (q := 20) d_Rf_part_19 rfl rfl ?_
      refine wp_iconst (q := 21) d_Rf_part_20 rfl ic_1 ?_
      refine wp_bipush (q := 23) d_Rf_part_21 rfl bp_6 ?_
      refine wp_cs3 (q := 26) lk_Rf_151 (ro _ _ _) d_Rf_part_23 rfl (Nat.le_of_ble_eq_true rfl) (Nat.zero_le _) (Nat.zero_le _) ?_
      refine ok_Rf_in (fun hma hmb => ?_) (fun hmn => ?_)
      · obtain ⟨m1, hm1, hm2, rfl⟩ := nI_btw1 (by decide) hma hmb
        refine wp_if_ne_t (tgt := 32) d_Rf_part_26 (by decide) (by decide) ?_
        refine wp_iload (q := 34) d_Rf_part_32 rfl rfl ?_
        refine wp_bipush (q := 36) d_Rf_part_34 rfl bp_m2 ?_
        refine wp_iload_n (q := 37) d_Rf_part_36 rfl rfl ?_
        refine wp_iconst (q := 38) d_Rf_part_37 rfl ic_1 ?_
        refine wp_isub (q := 39) d_Rf_part_38 rfl ?_
        refine wp_cs3 (q := 42) lk_Rf_151 (ro _ _ _) d_Rf_part_39 rfl (Nat.le_of_ble_eq_true rfl) (Nat.zero_le _) (Nat.zero_le _) ?_
        refine ok_Rf_in (fun hia hib => ?_) (fun hin => ?_)
        · refine wp_if_ne_t (tgt := 48) d_Rf_part_42 (by decide) (by decide) ?_
          refine wp_iconst (q := 49) d_Rf_part_48 rfl ic_1 ?_
          refine wp_istore (q := 51) (L2 := [(5, _), (0, _), (1, _), (2, _), (3, _), (4, _)]) d_Rf_part_49 rfl (by decide) rfl ?_
          refine wp_iconst (q := 52) d_Rf_part_51 rfl ic_0 ?_
          refine wp_istore (q := 54) (L2 := [(6, _), (5, _), (0, _), (1, _), (2, _), (3, _), (4, _)]) d_Rf_part_52 rfl (by decide) rfl ?_
          simp only [sp_part, inn, btw, hra, hrb, tnl hr2, hsa, hsb, tnl hs2, hma, hmb, tnl hm2, hia, hib, not_true_eq_false, not_false_eq_true, or_false, false_or, or_true, true_or, and_true, true_and, and_false, false_and, or_self, and_self, if_true, if_false, ite_true, ite_false, eq_self] at hK
          have lp : ∀ k : Nat, k ≤ r1 → Wp D N l (EI M_Rf_part) M_Rf_part (Rm (d + 2) 0 0) (Qm D N K 0 0) 0 0 54 [(6, .int (nI k)), (5, .int (nI (s1 ^ k))), (0, .ref (N + 0)), (1, .int (nI r1)), (2, .int (nI s1)), (3, .int (nI m1)), (4, .int i)] [] (encR D N c z P Q ++ rest) := by
            refine up_loop ?_ ?_
            · skip
              refine wp_iload (q := 56) d_Rf_part_54 rfl rfl ?_
              refine wp_iload_n (q := 57) d_Rf_part_56 rfl rfl ?_
              refine wp_icmp_ge_t (tgt := 72) d_Rf_part_57 (by decide) (nI_le (Nat.le_refl _) (by omega)) ?_
              refine wp_iconst (q := 73) d_Rf_part_72 rfl ic_0 ?_
              refine wp_istore (q := 75) (L2 := [(6, _), (5, _), (0, _), (1, _), (2, _), (3, _), (4, _)]) d_Rf_part_73 rfl (by decide) rfl ?_
              refine wp_iconst (q := 76) d_Rf_part_75 rfl ic_m1 ?_
              refine wp_istore (q := 78) (L2 := [(7, _), (6, _), (5, _), (0, _), (1, _), (2, _), (3, _), (4, _)]) d_Rf_part_76 rfl (by decide) rfl ?_
              refine wp_iconst (q := 79) d_Rf_part_78 rfl ic_0 ?_
              refine wp_istore (q := 81) (L2 := [(8, _), (7, _), (6, _), (5, _), (0, _), (1, _), (2, _), (3, _), (4, _)]) d_Rf_part_79 rfl (by decide) rfl ?_
              exact pw_Rf_part hr2 hs1 hs2 hm2 hG (i_rng hr1 hr2 hia hib) hK 0 (Nat.zero_le _) z (fun g => absurd rfl g)
            · intro k hk ih
              refine wp_iload (q := 56) d_Rf_part_54 rfl rfl ?_
              refine wp_iload_n (q := 57) d_Rf_part_56 rfl rfl ?_
              refine wp_icmp_ge_f (q := 60) (tgt := 72) d_Rf_part_57 (by decide) rfl (nI_ge hk (by omega)) ?_
              refine wp_iload (q := 62) d_Rf_part_60 rfl rfl ?_
              refine wp_iload_n (q := 63) d_Rf_part_62 rfl rfl ?_
              first | refine wp_imulN (q := 64) d_Rf_part_63 rfl ?_ | refine wp_imul (q := 64) d_Rf_part_63 rfl ?_
              refine wp_istore (q := 66) (L2 := [(5, _), (6, _), (0, _), (1, _), (2, _), (3, _), (4, _)]) d_Rf_part_64 rfl (by decide) rfl ?_
              refine wp_iinc (q := 69) (L2 := [(6, _), (5, _), (0, _), (1, _), (2, _), (3, _), (4, _)]) d_Rf_part_66 rfl rfl (iinc_1) (by decide) rfl ?_
              refine wp_goto (tgt := 54) d_Rf_part_69 (by decide) ?_
              exact ih
          exact lp 0 (Nat.zero_le _)
        · refine wp_if_ne_f (q := 45) (tgt := 48) d_Rf_part_42 (by decide) rfl (by decide) ?_
          refine wp_bipush (q := 47) d_Rf_part_45 rfl bp_m5 ?_
          refine wp_iret d_Rf_part_47 rfl (Nat.le_refl _) (Nat.le_refl _) ?_
          simp only [sp_part, inn, inb, inm, btw, hra, hrb, tnl hr2, hsa, hsb, tnl hs2, hma, hmb, tnl hm2, hin, not_true_eq_false, not_false_eq_true, or_false, false_or, or_true, true_or, and_true, true_and, and_false, false_and, or_self, and_self, if_true, if_false, ite_true, ite_false, eq_self] at hK
          first | exact hK _ | (simp (disch := omega) only [tput_eq, tput2, tput_ne, upd_eq, upd_ne, ne_eq, va_upeq, va_upne, va_up2, not_true_eq_false, not_false_eq_true, or_false, false_or, or_true, true_or, and_true, true_and, and_false, false_and, or_self, and_self, if_true, if_false, ite_true, ite_false, eq_self] at hK ⊢; exact hK _) | (simp (disch := omega) only [tput_eq, tput2, tput_ne, upd_eq, upd_ne, ne_eq, va_upeq, va_upne, va_up2, not_true_eq_false, not_false_eq_true, or_false, false_or, or_true, true_or, and_true, true_and, and_false, false_and, or_self, and_self, if_true, if_false, ite_true, ite_false, eq_self]; exact hK _) | (simp (disch := omega) only [tput_eq, tput2, tput_ne, upd_eq, upd_ne, ne_eq, va_upeq, va_upne, va_up2, not_true_eq_false, not_false_eq_true, or_false, false_or, or_true, true_or, and_true, true_and, and_false, false_and, or_self, and_self, if_true, if_false, ite_true, ite_false, eq_self] at hK; exact hK _)
      · refine wp_if_ne_f (q := 29) (tgt := 32) d_Rf_part_26 (by decide) rfl (by decide) ?_
        refine wp_bipush (q := 31) d_Rf_part_29 rfl bp_m2 ?_
        refine wp_iret d_Rf_part_31 rfl (Nat.le_refl _) (Nat.le_refl _) ?_
        simp only [sp_part, inn, inb, inm, btw, hra, hrb, tnl hr2, hsa, hsb, tnl hs2, hmn, not_true_eq_false, not_false_eq_true, or_false, false_or, or_true, true_or, and_true, true_and, and_false, false_and, or_self, and_self, if_true, if_false, ite_true, ite_false, eq_self] at hK
        first | exact hK _ | (simp (disch := omega) only [tput_eq, tput2, tput_ne, upd_eq, upd_ne, ne_eq, va_upeq, va_upne, va_up2, not_true_eq_false, not_false_eq_true, or_false, false_or, or_true, true_or, and_true, true_and, and_false, false_and, or_self, and_self, if_true, if_false, ite_true, ite_false, eq_self] at hK ⊢; exact hK _) | (simp (disch := omega) only [tput_eq, tput2, tput_ne, upd_eq, upd_ne, ne_eq, va_upeq, va_upne, va_up2, not_true_eq_false, not_false_eq_true, or_false, false_or, or_true, true_or, and_true, true_and, and_false, false_and, or_self, and_self, if_true, if_false, ite_true, ite_false, eq_self]; exact hK _) | (simp (disch := omega) only [tput_eq, tput2, tput_ne, upd_eq, upd_ne, ne_eq, va_upeq, va_upne, va_up2, not_true_eq_false, not_false_eq_true, or_false, false_or, or_true, true_or, and_true, true_and, and_false, false_and, or_self, and_self, if_true, if_false, ite_true, ite_false, eq_self] at hK; exact hK _)
    · refine wp_if_eq_t (tgt := 29) d_Rf_part_16 (by decide) (by decide) ?_
      refine wp_bipush (q := 31) d_Rf_part_29 rfl bp_m2 ?_
      refine wp_iret d_Rf_part_31 rfl (Nat.le_refl _) (Nat.le_refl _) ?_
      simp only [sp_part, inn, inb, inm, btw, hra, hrb, tnl hr2, hsn, not_true_eq_false, not_false_eq_true, or_false, false_or, or_true, true_or, and_true, true_and, and_false, false_and, or_self, and_self, if_true, if_false, ite_true, ite_false, eq_self] at hK
      first | exact hK _ | (simp (disch := omega) only [tput_eq, tput2, tput_ne, upd_eq, upd_ne, ne_eq, va_upeq, va_upne, va_up2, not_true_eq_false, not_false_eq_true, or_false, false_or, or_true, true_or, and_true, true_and, and_false, false_and, or_self, and_self, if_true, if_false, ite_true, ite_false, eq_self] at hK ⊢; exact hK _) | (simp (disch := omega) only [tput_eq, tput2, tput_ne, upd_eq, upd_ne, ne_eq, va_upeq, va_upne, va_up2, not_true_eq_false, not_false_eq_true, or_false, false_or, or_true, true_or, and_true, true_and, and_false, false_and, or_self, and_self, if_true, if_false, ite_true, ite_false, eq_self]; exact hK _) | (simp (disch := omega) only [tput_eq, tput2, tput_ne, upd_eq, upd_ne, ne_eq, va_upeq, va_upne, va_up2, not_true_eq_false, not_false_eq_true, or_false, false_or, or_true, true_or, and_true, true_and, and_false, false_and, or_self, and_self, if_true, if_false, ite_true, ite_false, eq_self] at hK; exact hK _)
  · refine wp_if_eq_t (tgt := 29) d_Rf_part_7 (by decide) (by decide) ?_
    refine wp_bipush (q := 31) d_Rf_part_29 rfl bp_m2 ?_
    refine wp_iret d_Rf_part_31 rfl (Nat.le_refl _) (Nat.le_refl _) ?_
    simp only [sp_part, inn, inb, inm, btw, hrn, not_true_eq_false, not_false_eq_true, or_false, false_or, or_true, true_or, and_true, true_and, and_false, false_and, or_self, and_self, if_true, if_false, ite_true, ite_false, eq_self] at hK
    first | exact hK _ | (simp (disch := omega) only [tput_eq, tput2, tput_ne, upd_eq, upd_ne, ne_eq, va_upeq, va_upne, va_up2, not_true_eq_false, not_false_eq_true, or_false, false_or, or_true, true_or, and_true, true_and, and_false, false_and, or_self, and_self, if_true, if_false, ite_true, ite_false, eq_self] at hK ⊢; exact hK _) | (simp (disch := omega) only [tput_eq, tput2, tput_ne, upd_eq, upd_ne, ne_eq, va_upeq, va_upne, va_up2, not_true_eq_false, not_false_eq_true, or_false, false_or, or_true, true_or, and_true, true_and, and_false, false_and, or_self, and_self, if_true, if_false, ite_true, ite_false, eq_self]; exact hK _) | (simp (disch := omega) only [tput_eq, tput2, tput_ne, upd_eq, upd_ne, ne_eq, va_upeq, va_upne, va_up2, not_true_eq_false, not_false_eq_true, or_false, false_or, or_true, true_or, and_true, true_and, and_false, false_and, or_self, and_self, if_true, if_false, ite_true, ite_false, eq_self] at hK; exact hK _)
