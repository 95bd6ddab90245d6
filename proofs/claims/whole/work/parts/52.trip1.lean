theorem way_w {c : T2} {s t h : Nat} (hT : TI c) (hs : s < 6) (ht : t < 6) (hh : h < 24) : way c s t h = nI (wy c h s t) ∧ 1 ≤ wy c h s t ∧ wy c h s t ≤ 400 := by
  obtain ⟨q, hq, e⟩ := way_N hT hs ht hh
  unfold wy
  rw [e, tnt (show q + 1 < 402 by omega)]
  exact ⟨rfl, by omega, by omega⟩
theorem TW_of {c : T2} {h : Nat} (hT : TI c) (hh : h < 24) : TW c h := fun s t hs ht => (way_w hT hs ht hh).2.1
def tF (f : Nat → Nat) (X : Nat → Int32) : Prop := ∀ v, v < 6 → X v = nI (f v)
theorem tF_put {f : Nat → Nat} {X : Nat → Int32} {t n : Nat} (h : tF f X) : tF (va_up f t n) (upd X t (nI n)) := by
  intro v hv
  by_cases e : v = t
  · subst e; rw [upd_eq, va_upeq]
  · rw [upd_ne _ _ e, va_upne _ _ e]; exact h v hv
theorem tF_min {c : T2} {h a s t : Nat} {g : Nat → Nat} {X : Nat → Int32} (hF : tF g X) (ht : t < 6) (hr : ¬ c 2 (6 * s + t) = 0) (hg : g s < 1000000) (hb : cst a g s + wy c h s t < 2000000) (hgt : g t ≤ 1000000) : tF (rl c h a g s t) (upd X t (if nI (cst a g s + wy c h s t) < nI (g t) then nI (cst a g s + wy c h s t) else nI (g t))) := by
  by_cases hlt : cst a g s + wy c h s t < g t
  · rw [if_pos (nI_lt hlt (by omega)), rl_y ⟨hr, hg, hlt⟩]
    exact tF_put hF
  · rw [if_neg (nI_nlt (by omega) (by omega)), rl_n (fun q => hlt q.2.2), ← hF t ht]
    intro v hv
    by_cases e : v = t
    · subst e; rw [upd_eq]; exact hF v hv
    · rw [upd_ne _ _ e]; exact hF v hv
theorem cst_b {a : Nat} {g : Nat → Nat} {s : Nat} (hg : g s ≤ 1000000) : cst a g s ≤ 1000005 := by unfold cst; split <;> omega
def trv (n : Nat) : Int32 := if n = 1000000 then -3 else nI n
theorem d_Tn_leastTrip_0 : decode M_Tn_leastTrip.2.1 0 = .ok (.iconst 0, 1) := by decide +kernel
theorem d_Tn_leastTrip_1 : decode M_Tn_leastTrip.2.1 1 = .ok (.istore 4, 2) := by decide +kernel
theorem d_Tn_leastTrip_3 : decode M_Tn_leastTrip.2.1 3 = .ok (.iload 4, 2) := by decide +kernel
theorem d_Tn_leastTrip_5 : decode M_Tn_leastTrip.2.1 5 = .ok (.bipush 6, 2) := by decide +kernel
theorem d_Tn_leastTrip_7 : decode M_Tn_leastTrip.2.1 7 = .ok (.if_icmp .ge 18, 3) := by decide +kernel
theorem d_Tn_leastTrip_10 : decode M_Tn_leastTrip.2.1 10 = .ok (.aload_n 0, 1) := by decide +kernel
theorem d_Tn_leastTrip_11 : decode M_Tn_leastTrip.2.1 11 = .ok (.getfield 54, 3) := by decide +kernel
theorem d_Tn_leastTrip_14 : decode M_Tn_leastTrip.2.1 14 = .ok (.iload 4, 2) := by decide +kernel
theorem d_Tn_leastTrip_16 : decode M_Tn_leastTrip.2.1 16 = .ok (.ldc 90, 2) := by decide +kernel
theorem d_Tn_leastTrip_18 : decode M_Tn_leastTrip.2.1 18 = .ok (.iastore, 1) := by decide +kernel
theorem d_Tn_leastTrip_19 : decode M_Tn_leastTrip.2.1 19 = .ok (.iinc 4 1, 3) := by decide +kernel
theorem d_Tn_leastTrip_22 : decode M_Tn_leastTrip.2.1 22 = .ok (.goto (-19), 3) := by decide +kernel
theorem d_Tn_leastTrip_25 : decode M_Tn_leastTrip.2.1 25 = .ok (.aload_n 0, 1) := by decide +kernel
theorem d_Tn_leastTrip_26 : decode M_Tn_leastTrip.2.1 26 = .ok (.getfield 54, 3) := by decide +kernel
theorem d_Tn_leastTrip_29 : decode M_Tn_leastTrip.2.1 29 = .ok (.iload_n 1, 1) := by decide +kernel
theorem d_Tn_leastTrip_30 : decode M_Tn_leastTrip.2.1 30 = .ok (.iconst 0, 1) := by decide +kernel
theorem d_Tn_leastTrip_31 : decode M_Tn_leastTrip.2.1 31 = .ok (.iastore, 1) := by decide +kernel
theorem d_Tn_leastTrip_32 : decode M_Tn_leastTrip.2.1 32 = .ok (.iconst 1, 1) := by decide +kernel
theorem d_Tn_leastTrip_33 : decode M_Tn_leastTrip.2.1 33 = .ok (.istore 4, 2) := by decide +kernel
theorem d_Tn_leastTrip_35 : decode M_Tn_leastTrip.2.1 35 = .ok (.iload 4, 2) := by decide +kernel
theorem d_Tn_leastTrip_37 : decode M_Tn_leastTrip.2.1 37 = .ok (.bipush 6, 2) := by decide +kernel
theorem d_Tn_leastTrip_39 : decode M_Tn_leastTrip.2.1 39 = .ok (.if_icmp .ge 125, 3) := by decide +kernel
theorem d_Tn_leastTrip_42 : decode M_Tn_leastTrip.2.1 42 = .ok (.iconst 0, 1) := by decide +kernel
theorem d_Tn_leastTrip_43 : decode M_Tn_leastTrip.2.1 43 = .ok (.istore 5, 2) := by decide +kernel
theorem d_Tn_leastTrip_45 : decode M_Tn_leastTrip.2.1 45 = .ok (.iload 5, 2) := by decide +kernel
theorem d_Tn_leastTrip_47 : decode M_Tn_leastTrip.2.1 47 = .ok (.bipush 6, 2) := by decide +kernel
theorem d_Tn_leastTrip_49 : decode M_Tn_leastTrip.2.1 49 = .ok (.if_icmp .ge 109, 3) := by decide +kernel
theorem d_Tn_leastTrip_52 : decode M_Tn_leastTrip.2.1 52 = .ok (.aload_n 0, 1) := by decide +kernel
theorem d_Tn_leastTrip_53 : decode M_Tn_leastTrip.2.1 53 = .ok (.getfield 54, 3) := by decide +kernel
theorem d_Tn_leastTrip_56 : decode M_Tn_leastTrip.2.1 56 = .ok (.iload 5, 2) := by decide +kernel
theorem d_Tn_leastTrip_58 : decode M_Tn_leastTrip.2.1 58 = .ok (.iaload, 1) := by decide +kernel
theorem d_Tn_leastTrip_59 : decode M_Tn_leastTrip.2.1 59 = .ok (.ldc 90, 2) := by decide +kernel
theorem d_Tn_leastTrip_61 : decode M_Tn_leastTrip.2.1 61 = .ok (.if_icmp .ne 6, 3) := by decide +kernel
theorem d_Tn_leastTrip_64 : decode M_Tn_leastTrip.2.1 64 = .ok (.goto 88, 3) := by decide +kernel
theorem d_Tn_leastTrip_67 : decode M_Tn_leastTrip.2.1 67 = .ok (.iload 5, 2) := by decide +kernel
theorem d_Tn_leastTrip_69 : decode M_Tn_leastTrip.2.1 69 = .ok (.iload_n 1, 1) := by decide +kernel
theorem d_Tn_leastTrip_70 : decode M_Tn_leastTrip.2.1 70 = .ok (.if_icmp .ne 7, 3) := by decide +kernel
theorem d_Tn_leastTrip_73 : decode M_Tn_leastTrip.2.1 73 = .ok (.iconst 0, 1) := by decide +kernel
theorem d_Tn_leastTrip_74 : decode M_Tn_leastTrip.2.1 74 = .ok (.goto 12, 3) := by decide +kernel
theorem d_Tn_leastTrip_77 : decode M_Tn_leastTrip.2.1 77 = .ok (.aload_n 0, 1) := by decide +kernel
theorem d_Tn_leastTrip_78 : decode M_Tn_leastTrip.2.1 78 = .ok (.getfield 54, 3) := by decide +kernel
theorem d_Tn_leastTrip_81 : decode M_Tn_leastTrip.2.1 81 = .ok (.iload 5, 2) := by decide +kernel
theorem d_Tn_leastTrip_83 : decode M_Tn_leastTrip.2.1 83 = .ok (.iaload, 1) := by decide +kernel
theorem d_Tn_leastTrip_84 : decode M_Tn_leastTrip.2.1 84 = .ok (.iconst 5, 1) := by decide +kernel
theorem d_Tn_leastTrip_85 : decode M_Tn_leastTrip.2.1 85 = .ok (.iadd, 1) := by decide +kernel
theorem d_Tn_leastTrip_86 : decode M_Tn_leastTrip.2.1 86 = .ok (.istore 6, 2) := by decide +kernel
theorem d_Tn_leastTrip_88 : decode M_Tn_leastTrip.2.1 88 = .ok (.iconst 0, 1) := by decide +kernel
theorem d_Tn_leastTrip_89 : decode M_Tn_leastTrip.2.1 89 = .ok (.istore 7, 2) := by decide +kernel
theorem d_Tn_leastTrip_91 : decode M_Tn_leastTrip.2.1 91 = .ok (.iload 7, 2) := by decide +kernel
theorem d_Tn_leastTrip_93 : decode M_Tn_leastTrip.2.1 93 = .ok (.bipush 6, 2) := by decide +kernel
theorem d_Tn_leastTrip_95 : decode M_Tn_leastTrip.2.1 95 = .ok (.if_icmp .ge 57, 3) := by decide +kernel
theorem d_Tn_leastTrip_98 : decode M_Tn_leastTrip.2.1 98 = .ok (.aload_n 0, 1) := by decide +kernel
theorem d_Tn_leastTrip_99 : decode M_Tn_leastTrip.2.1 99 = .ok (.getfield 9, 3) := by decide +kernel
theorem d_Tn_leastTrip_102 : decode M_Tn_leastTrip.2.1 102 = .ok (.iload 5, 2) := by decide +kernel
theorem d_Tn_leastTrip_104 : decode M_Tn_leastTrip.2.1 104 = .ok (.bipush 6, 2) := by decide +kernel
theorem d_Tn_leastTrip_106 : decode M_Tn_leastTrip.2.1 106 = .ok (.imul, 1) := by decide +kernel
theorem d_Tn_leastTrip_107 : decode M_Tn_leastTrip.2.1 107 = .ok (.iload 7, 2) := by decide +kernel
theorem d_Tn_leastTrip_109 : decode M_Tn_leastTrip.2.1 109 = .ok (.iadd, 1) := by decide +kernel
theorem d_Tn_leastTrip_110 : decode M_Tn_leastTrip.2.1 110 = .ok (.iaload, 1) := by decide +kernel
theorem d_Tn_leastTrip_111 : decode M_Tn_leastTrip.2.1 111 = .ok (.ifCond .ne 6, 3) := by decide +kernel
theorem d_Tn_leastTrip_114 : decode M_Tn_leastTrip.2.1 114 = .ok (.goto 32, 3) := by decide +kernel
theorem d_Tn_leastTrip_117 : decode M_Tn_leastTrip.2.1 117 = .ok (.aload_n 0, 1) := by decide +kernel
theorem d_Tn_leastTrip_118 : decode M_Tn_leastTrip.2.1 118 = .ok (.getfield 54, 3) := by decide +kernel
theorem d_Tn_leastTrip_121 : decode M_Tn_leastTrip.2.1 121 = .ok (.iload 7, 2) := by decide +kernel
theorem d_Tn_leastTrip_123 : decode M_Tn_leastTrip.2.1 123 = .ok (.aload_n 0, 1) := by decide +kernel
theorem d_Tn_leastTrip_124 : decode M_Tn_leastTrip.2.1 124 = .ok (.getfield 54, 3) := by decide +kernel
theorem d_Tn_leastTrip_127 : decode M_Tn_leastTrip.2.1 127 = .ok (.iload 7, 2) := by decide +kernel
theorem d_Tn_leastTrip_129 : decode M_Tn_leastTrip.2.1 129 = .ok (.iaload, 1) := by decide +kernel
theorem d_Tn_leastTrip_130 : decode M_Tn_leastTrip.2.1 130 = .ok (.iload 6, 2) := by decide +kernel
theorem d_Tn_leastTrip_132 : decode M_Tn_leastTrip.2.1 132 = .ok (.aload_n 0, 1) := by decide +kernel
theorem d_Tn_leastTrip_133 : decode M_Tn_leastTrip.2.1 133 = .ok (.iload 5, 2) := by decide +kernel
theorem d_Tn_leastTrip_135 : decode M_Tn_leastTrip.2.1 135 = .ok (.iload 7, 2) := by decide +kernel
theorem d_Tn_leastTrip_137 : decode M_Tn_leastTrip.2.1 137 = .ok (.iload_n 3, 1) := by decide +kernel
theorem d_Tn_leastTrip_138 : decode M_Tn_leastTrip.2.1 138 = .ok (.invokevirtual 91, 3) := by decide +kernel
theorem d_Tn_leastTrip_141 : decode M_Tn_leastTrip.2.1 141 = .ok (.iadd, 1) := by decide +kernel
theorem d_Tn_leastTrip_142 : decode M_Tn_leastTrip.2.1 142 = .ok (.invokestatic 95, 3) := by decide +kernel
theorem d_Tn_leastTrip_145 : decode M_Tn_leastTrip.2.1 145 = .ok (.iastore, 1) := by decide +kernel
theorem d_Tn_leastTrip_146 : decode M_Tn_leastTrip.2.1 146 = .ok (.iinc 7 1, 3) := by decide +kernel
theorem d_Tn_leastTrip_149 : decode M_Tn_leastTrip.2.1 149 = .ok (.goto (-58), 3) := by decide +kernel
theorem d_Tn_leastTrip_152 : decode M_Tn_leastTrip.2.1 152 = .ok (.iinc 5 1, 3) := by decide +kernel
theorem d_Tn_leastTrip_155 : decode M_Tn_leastTrip.2.1 155 = .ok (.goto (-110), 3) := by decide +kernel
theorem d_Tn_leastTrip_158 : decode M_Tn_leastTrip.2.1 158 = .ok (.iinc 4 1, 3) := by decide +kernel
theorem d_Tn_leastTrip_161 : decode M_Tn_leastTrip.2.1 161 = .ok (.goto (-126), 3) := by decide +kernel
theorem d_Tn_leastTrip_164 : decode M_Tn_leastTrip.2.1 164 = .ok (.aload_n 0, 1) := by decide +kernel
theorem d_Tn_leastTrip_165 : decode M_Tn_leastTrip.2.1 165 = .ok (.getfield 54, 3) := by decide +kernel
theorem d_Tn_leastTrip_168 : decode M_Tn_leastTrip.2.1 168 = .ok (.iload_n 2, 1) := by decide +kernel
theorem d_Tn_leastTrip_169 : decode M_Tn_leastTrip.2.1 169 = .ok (.iaload, 1) := by decide +kernel
theorem d_Tn_leastTrip_170 : decode M_Tn_leastTrip.2.1 170 = .ok (.ldc 90, 2) := by decide +kernel
theorem d_Tn_leastTrip_172 : decode M_Tn_leastTrip.2.1 172 = .ok (.if_icmp .ne 8, 3) := by decide +kernel
theorem d_Tn_leastTrip_175 : decode M_Tn_leastTrip.2.1 175 = .ok (.bipush (-3), 2) := by decide +kernel
theorem d_Tn_leastTrip_177 : decode M_Tn_leastTrip.2.1 177 = .ok (.goto 9, 3) := by decide +kernel
theorem d_Tn_leastTrip_180 : decode M_Tn_leastTrip.2.1 180 = .ok (.aload_n 0, 1) := by decide +kernel
theorem d_Tn_leastTrip_181 : decode M_Tn_leastTrip.2.1 181 = .ok (.getfield 54, 3) := by decide +kernel
theorem d_Tn_leastTrip_184 : decode M_Tn_leastTrip.2.1 184 = .ok (.iload_n 2, 1) := by decide +kernel
theorem d_Tn_leastTrip_185 : decode M_Tn_leastTrip.2.1 185 = .ok (.iaload, 1) := by decide +kernel
theorem d_Tn_leastTrip_186 : decode M_Tn_leastTrip.2.1 186 = .ok (.ireturn, 1) := by decide +kernel
set_option maxHeartbeats 4000000 in
set_option maxRecDepth 100000 in
theorem lt_in {D : xD} {N : Nat} {l : Launch} {d : Nat} {c V : T2} {ln df : Nat → Option Nat} {rest : List va_E} {K : Option Value → List va_E → Prop} (hT : TI c) {a b h : Nat} (ha : a < 6) (hb : b < 6) (hh : h < 24) {f : Nat → Nat} (hI : TInv c h a f) {s hp : Nat} (hs : s < 6) (hfs : f s < 1000000) (hend : ∀ x : T2, tF (rlT c h a f s 6) (x 2) → Wp D N l (EI M_Tn_leastTrip) M_Tn_leastTrip (Rm (d + 2) 0 0) (Qm D N K 0 0) 0 0 152 [(5, .int (nI s)), (4, .int (nI hp)), (0, .ref (N + 1)), (1, .int (nI a)), (2, .int (nI b)), (3, .int (nI h))] [] (encC D N c x V ln df ++ rest)) : ∀ t, t ≤ 6 → ∀ x : T2, tF (rlT c h a f s t) (x 2) → Wp D N l (EI M_Tn_leastTrip) M_Tn_leastTrip (Rm (d + 2) 0 0) (Qm D N K 0 0) 0 0 91 [(7, .int (nI t)), (6, .int (nI (cst a f s))), (5, .int (nI s)), (4, .int (nI hp)), (0, .ref (N + 1)), (1, .int (nI a)), (2, .int (nI b)), (3, .int (nI h))] [] (encC D N c x V ln df ++ rest) := by
  have hcb := cst_b (a := a) (g := f) (s := s) (by omega)
  refine up_loop ?_ ?_
  · intro x hF
    refine wp_iload (q := 93) d_Tn_leastTrip_91 rfl rfl ?_
    refine wp_bipush (q := 95) d_Tn_leastTrip_93 rfl bp_6 ?_
    refine wp_icmp_ge_t (tgt := 152) d_Tn_leastTrip_95 (by decide) (nI_le (Nat.le_refl _) (by decide)) ?_
    refine wp_sub [2, 3, 4, 5, 6, 7] rfl ?_
    exact hend x hF
  · intro t ht ih x hF
    have hg := hI.rlTv hs t (by omega)
    have es := rlT_self hI.1 hI hs t (by omega)
    have ec : cst a (rlT c h a f s t) s = cst a f s := cst_eq es
    obtain ⟨ww, w1, w2⟩ := way_w (s := s) (t := t) hT hs ht hh
    refine wp_iload (q := 93) d_Tn_leastTrip_91 rfl rfl ?_
    refine wp_bipush (q := 95) d_Tn_leastTrip_93 rfl bp_6 ?_
    refine wp_icmp_ge_f (q := 98) (tgt := 152) d_Tn_leastTrip_95 (by decide) rfl (nI_ge ht (by decide)) ?_
    refine wp_aload_n (q := 99) d_Tn_leastTrip_98 rfl rfl ?_
    refine wp_get (q := 102) fl_Tn_9 d_Tn_leastTrip_99 rfl rfl rfl ?_
    refine wp_iload (q := 104) d_Tn_leastTrip_102 rfl rfl ?_
    refine wp_bipush (q := 106) d_Tn_leastTrip_104 rfl bp_6 ?_
    first | refine wp_imulC (q := 107) d_Tn_leastTrip_106 rfl ?_ | refine wp_imul (q := 107) d_Tn_leastTrip_106 rfl ?_
    refine wp_iload (q := 109) d_Tn_leastTrip_107 rfl rfl ?_
    first | refine wp_iaddN (q := 110) d_Tn_leastTrip_109 rfl ?_ | refine wp_iadd (q := 110) d_Tn_leastTrip_109 rfl ?_
    refine wp_iald (q := 111) d_Tn_leastTrip_110 rfl (rfl) (by omega) (by decide) ?_
    refine wp_if_ne (q := 114) (tgt := 117) d_Tn_leastTrip_111 (by decide) rfl (fun hc_111 => ?_) (fun hc_111 => ?_)
    · refine wp_aload_n (q := 118) d_Tn_leastTrip_117 rfl rfl ?_
      refine wp_get (q := 121) fl_Tn_54 d_Tn_leastTrip_118 rfl rfl rfl ?_
      refine wp_iload (q := 123) d_Tn_leastTrip_121 rfl rfl ?_
      refine wp_aload_n (q := 124) d_Tn_leastTrip_123 rfl rfl ?_
      refine wp_get (q := 127) fl_Tn_54 d_Tn_leastTrip_124 rfl rfl rfl ?_
      refine wp_iload (q := 129) d_Tn_leastTrip_127 rfl rfl ?_
      refine wp_iald (q := 130) d_Tn_leastTrip_129 rfl (rfl) (by omega) (by decide) ?_
      rw [hF t ht]
      refine wp_iload (q := 132) d_Tn_leastTrip_130 rfl rfl ?_
      refine wp_aload_n (q := 133) d_Tn_leastTrip_132 rfl rfl ?_
      refine wp_iload (q := 135) d_Tn_leastTrip_133 rfl rfl ?_
      refine wp_iload (q := 137) d_Tn_leastTrip_135 rfl rfl ?_
      refine wp_iload_n (q := 138) d_Tn_leastTrip_137 rfl rfl ?_
      refine wp_cv3 (q := 141) lk_Tn_91 (ro _ _ _) d_Tn_leastTrip_138 rfl (Nat.le_of_ble_eq_true rfl) (rfl) rfl (Nat.zero_le _) (Nat.zero_le _) ?_
      refine ok_Tn_wayOf (by omega) (by omega) hh ?_
      rw [ww]
      first | refine wp_iaddN (q := 142) d_Tn_leastTrip_141 rfl ?_ | refine wp_iadd (q := 142) d_Tn_leastTrip_141 rfl ?_
      refine wp_mmin km_Tn_95 (RO0 ()) d_Tn_leastTrip_142 rfl (Nat.le_of_ble_eq_true rfl) (Nat.zero_le _) (Nat.zero_le _) ?_
      refine wp_iast (q := 146) d_Tn_leastTrip_145 rfl (rfl) (by omega) (by decide) (fc_14) ?_
      refine wp_iinc (q := 149) (L2 := [(7, _), (6, _), (5, _), (4, _), (0, _), (1, _), (2, _), (3, _)]) d_Tn_leastTrip_146 rfl rfl (iinc_1) (by decide) rfl ?_
      refine wp_goto (tgt := 91) d_Tn_leastTrip_149 (by decide) ?_
      refine ih _ ?_
      rw [tput_eq]
      rw [rlT]
      have := tF_min (c := c) (h := h) (a := a) (s := s) (t := t) hF ht hc_111 (by rw [es]; exact hfs) (by rw [ec]; omega) (hg.2.1 t ht)
      rw [ec] at this
      exact this
    · refine wp_goto (tgt := 146) d_Tn_leastTrip_114 (by decide) ?_
      refine wp_iinc (q := 149) (L2 := [(7, _), (6, _), (5, _), (4, _), (0, _), (1, _), (2, _), (3, _)]) d_Tn_leastTrip_146 rfl rfl (iinc_1) (by decide) rfl ?_
      refine wp_goto (tgt := 91) d_Tn_leastTrip_149 (by decide) ?_
      refine ih x ?_
      rw [rlT, rl_n (fun q => q.1 hc_111)]
      exact hF
set_option maxHeartbeats 4000000 in
set_option maxRecDepth 100000 in
theorem lt_mid {D : xD} {N : Nat} {l : Launch} {d : Nat} {c V : T2} {ln df : Nat → Option Nat} {rest : List va_E} {K : Option Value → List va_E → Prop} (hT : TI c) {a b h : Nat} (ha : a < 6) (hb : b < 6) (hh : h < 24) {f : Nat → Nat} (hI : TInv c h a f) {hp : Nat} (hend : ∀ x : T2, tF (rlS c h a f 6) (x 2) → Wp D N l (EI M_Tn_leastTrip) M_Tn_leastTrip (Rm (d + 2) 0 0) (Qm D N K 0 0) 0 0 158 [(4, .int (nI hp)), (0, .ref (N + 1)), (1, .int (nI a)), (2, .int (nI b)), (3, .int (nI h))] [] (encC D N c x V ln df ++ rest)) : ∀ s, s ≤ 6 → ∀ x : T2, tF (rlS c h a f s) (x 2) → Wp D N l (EI M_Tn_leastTrip) M_Tn_leastTrip (Rm (d + 2) 0 0) (Qm D N K 0 0) 0 0 45 [(5, .int (nI s)), (4, .int (nI hp)), (0, .ref (N + 1)), (1, .int (nI a)), (2, .int (nI b)), (3, .int (nI h))] [] (encC D N c x V ln df ++ rest) := by
  refine up_loop ?_ ?_
  · intro x hF
    refine wp_iload (q := 47) d_Tn_leastTrip_45 rfl rfl ?_
    refine wp_bipush (q := 49) d_Tn_leastTrip_47 rfl bp_6 ?_
    refine wp_icmp_ge_t (tgt := 158) d_Tn_leastTrip_49 (by decide) (nI_le (Nat.le_refl _) (by decide)) ?_
    refine wp_sub [1, 2, 3, 4, 5] rfl ?_
    exact hend x hF
  · intro s hs ih x hF
    have hIs := hI.rlSv s (by omega)
    have hle := hIs.2.1 s hs
    by_cases hfs : rlS c h a f s s < 1000000
    · by_cases hsa : s = a
      · have ec : cst a (rlS c h a f s) s = 0 := if_pos hsa
        refine wp_iload (q := 47) d_Tn_leastTrip_45 rfl rfl ?_
        refine wp_bipush (q := 49) d_Tn_leastTrip_47 rfl bp_6 ?_
        refine wp_icmp_ge_f (q := 52) (tgt := 158) d_Tn_leastTrip_49 (by decide) rfl (nI_ge hs (by decide)) ?_
        refine wp_aload_n (q := 53) d_Tn_leastTrip_52 rfl rfl ?_
        refine wp_get (q := 56) fl_Tn_54 d_Tn_leastTrip_53 rfl rfl rfl ?_
        refine wp_iload (q := 58) d_Tn_leastTrip_56 rfl rfl ?_
        refine wp_iald (q := 59) d_Tn_leastTrip_58 rfl (rfl) (by omega) (by decide) ?_
        rw [hF s hs]
        refine wp_ldc (q := 61) d_Tn_leastTrip_59 rfl kc_Tn_90 ?_
        refine wp_icmp_ne_t (tgt := 67) d_Tn_leastTrip_61 (by decide) (fun e => by have := (nI_eq (by omega) (by decide)).mp e; omega) ?_
        refine wp_iload (q := 69) d_Tn_leastTrip_67 rfl rfl ?_
        refine wp_iload_n (q := 70) d_Tn_leastTrip_69 rfl rfl ?_
        refine wp_icmp_ne_f (q := 73) (tgt := 77) d_Tn_leastTrip_70 (by decide) rfl (by rw [hsa]) ?_
        refine wp_iconst (q := 74) d_Tn_leastTrip_73 rfl ic_0 ?_
        refine wp_goto (tgt := 86) d_Tn_leastTrip_74 (by decide) ?_
        refine wp_istore (q := 88) (L2 := [(6, _), (5, _), (4, _), (0, _), (1, _), (2, _), (3, _)]) d_Tn_leastTrip_86 rfl (by decide) rfl ?_
        refine wp_iconst (q := 89) d_Tn_leastTrip_88 rfl ic_0 ?_
        refine wp_istore (q := 91) (L2 := [(7, _), (6, _), (5, _), (4, _), (0, _), (1, _), (2, _), (3, _)]) d_Tn_leastTrip_89 rfl (by decide) rfl ?_
        have hn : ∀ x2 : T2, tF (rlT c h a (rlS c h a f s) s 6) (x2 2) → Wp D N l (EI M_Tn_leastTrip) M_Tn_leastTrip (Rm (d + 2) 0 0) (Qm D N K 0 0) 0 0 152 [(5, .int (nI s)), (4, .int (nI hp)), (0, .ref (N + 1)), (1, .int (nI a)), (2, .int (nI b)), (3, .int (nI h))] [] (encC D N c x2 V ln df ++ rest) := by
          intro x2 hF2
          refine wp_iinc (q := 155) (L2 := [(5, _), (4, _), (0, _), (1, _), (2, _), (3, _)]) d_Tn_leastTrip_152 rfl rfl (iinc_1) (by decide) rfl ?_
          refine wp_goto (tgt := 45) d_Tn_leastTrip_155 (by decide) ?_
          exact ih x2 hF2
        have h0 := lt_in hT ha hb hh hIs hs hfs hn 0 (Nat.zero_le _) x hF
        rw [ec] at h0
        exact h0
      · have ec : cst a (rlS c h a f s) s = rlS c h a f s s + 5 := if_neg hsa
        refine wp_iload (q := 47) d_Tn_leastTrip_45 rfl rfl ?_
        refine wp_bipush (q := 49) d_Tn_leastTrip_47 rfl bp_6 ?_
        refine wp_icmp_ge_f (q := 52) (tgt := 158) d_Tn_leastTrip_49 (by decide) rfl (nI_ge hs (by decide)) ?_
        refine wp_aload_n (q := 53) d_Tn_leastTrip_52 rfl rfl ?_
        refine wp_get (q := 56) fl_Tn_54 d_Tn_leastTrip_53 rfl rfl rfl ?_
        refine wp_iload (q := 58) d_Tn_leastTrip_56 rfl rfl ?_
        refine wp_iald (q := 59) d_Tn_leastTrip_58 rfl (rfl) (by omega) (by decide) ?_
        rw [hF s hs]
        refine wp_ldc (q := 61) d_Tn_leastTrip_59 rfl kc_Tn_90 ?_
        refine wp_icmp_ne_t (tgt := 67) d_Tn_leastTrip_61 (by decide) (fun e => by have := (nI_eq (by omega) (by decide)).mp e; omega) ?_
        refine wp_iload (q := 69) d_Tn_leastTrip_67 rfl rfl ?_
        refine wp_iload_n (q := 70) d_Tn_leastTrip_69 rfl rfl ?_
        refine wp_icmp_ne_t (tgt := 77) d_Tn_leastTrip_70 (by decide) (fun e => hsa ((nI_eq (by omega) (by omega)).mp e)) ?_
        refine wp_aload_n (q := 78) d_Tn_leastTrip_77 rfl rfl ?_
        refine wp_get (q := 81) fl_Tn_54 d_Tn_leastTrip_78 rfl rfl rfl ?_
        refine wp_iload (q := 83) d_Tn_leastTrip_81 rfl rfl ?_
        refine wp_iald (q := 84) d_Tn_leastTrip_83 rfl (rfl) (by omega) (by decide) ?_
        rw [hF s hs]
        refine wp_iconst (q := 85) d_Tn_leastTrip_84 rfl ic_5 ?_
        first | refine wp_iaddN (q := 86) d_Tn_leastTrip_85 rfl ?_ | refine wp_iadd (q := 86) d_Tn_leastTrip_85 rfl ?_
        refine wp_istore (q := 88) (L2 := [(6, _), (5, _), (4, _), (0, _), (1, _), (2, _), (3, _)]) d_Tn_leastTrip_86 rfl (by decide) rfl ?_
        refine wp_iconst (q := 89) d_Tn_leastTrip_88 rfl ic_0 ?_
        refine wp_istore (q := 91) (L2 := [(7, _), (6, _), (5, _), (4, _), (0, _), (1, _), (2, _), (3, _)]) d_Tn_leastTrip_89 rfl (by decide) rfl ?_
        have hn : ∀ x2 : T2, tF (rlT c h a (rlS c h a f s) s 6) (x2 2) → Wp D N l (EI M_Tn_leastTrip) M_Tn_leastTrip (Rm (d + 2) 0 0) (Qm D N K 0 0) 0 0 152 [(5, .int (nI s)), (4, .int (nI hp)), (0, .ref (N + 1)), (1, .int (nI a)), (2, .int (nI b)), (3, .int (nI h))] [] (encC D N c x2 V ln df ++ rest) := by
          intro x2 hF2
          refine wp_iinc (q := 155) (L2 := [(5, _), (4, _), (0, _), (1, _), (2, _), (3, _)]) d_Tn_leastTrip_152 rfl rfl (iinc_1) (by decide) rfl ?_
          refine wp_goto (tgt := 45) d_Tn_leastTrip_155 (by decide) ?_
          exact ih x2 hF2
        have h0 := lt_in hT ha hb hh hIs hs hfs hn 0 (Nat.zero_le _) x hF
        rw [ec] at h0
        exact h0
    · skip
      refine wp_iload (q := 47) d_Tn_leastTrip_45 rfl rfl ?_
      refine wp_bipush (q := 49) d_Tn_leastTrip_47 rfl bp_6 ?_
      refine wp_icmp_ge_f (q := 52) (tgt := 158) d_Tn_leastTrip_49 (by decide) rfl (nI_ge hs (by decide)) ?_
      refine wp_aload_n (q := 53) d_Tn_leastTrip_52 rfl rfl ?_
      refine wp_get (q := 56) fl_Tn_54 d_Tn_leastTrip_53 rfl rfl rfl ?_
      refine wp_iload (q := 58) d_Tn_leastTrip_56 rfl rfl ?_
      refine wp_iald (q := 59) d_Tn_leastTrip_58 rfl (rfl) (by omega) (by decide) ?_
      rw [hF s hs]
      refine wp_ldc (q := 61) d_Tn_leastTrip_59 rfl kc_Tn_90 ?_
      refine wp_icmp_ne_f (q := 64) (tgt := 67) d_Tn_leastTrip_61 (by decide) rfl (by rw [show rlS c h a f s s = 1000000 by omega]) ?_
      refine wp_goto (tgt := 152) d_Tn_leastTrip_64 (by decide) ?_
      refine wp_iinc (q := 155) (L2 := [(5, _), (4, _), (0, _), (1, _), (2, _), (3, _)]) d_Tn_leastTrip_152 rfl rfl (iinc_1) (by decide) rfl ?_
      refine wp_goto (tgt := 45) d_Tn_leastTrip_155 (by decide) ?_
      exact ih x (by rw [rlS, rlT_far hfs]; exact hF)
set_option maxHeartbeats 4000000 in
set_option maxRecDepth 100000 in
theorem ok_Tn_leastTrip {D : xD} {N : Nat} {l : Launch} {d : Nat} {c x V : T2} {ln df : Nat → Option Nat} {rest : List va_E} {K : Option Value → List va_E → Prop} (hT : TI c) {a b h : Nat} (ha : a < 6) (hb : b < 6) (hh : h < 24) (hK : ∀ x2 : T2, K (some (.int (trv (rdN c h a 5 b)))) (encC D N c x2 V ln df ++ rest)) : Ok D N l (d + 2) M_Tn_leastTrip [.ref (N + 1), .int (nI a), .int (nI b), .int (nI h)] (encC D N c x V ln df ++ rest) 0 0 K := by
  have lp : ∀ k, k ≤ 5 → ∀ x : T2, tF (rdN c h a k) (x 2) → Wp D N l (EI M_Tn_leastTrip) M_Tn_leastTrip (Rm (d + 2) 0 0) (Qm D N K 0 0) 0 0 35 [(4, .int (nI (k + 1))), (0, .ref (N + 1)), (1, .int (nI a)), (2, .int (nI b)), (3, .int (nI h))] [] (encC D N c x V ln df ++ rest) := by
    refine up_loop ?_ ?_
    · intro x hF
      have hle := (TInv.rd (c := c) (hh := h) (a := a) 5).2.1 b hb
      by_cases h6 : rdN c h a 5 b = 1000000
      · skip
        refine wp_iload (q := 37) d_Tn_leastTrip_35 rfl rfl ?_
        refine wp_bipush (q := 39) d_Tn_leastTrip_37 rfl bp_6 ?_
        refine wp_icmp_ge_t (tgt := 164) d_Tn_leastTrip_39 (by decide) (nI_le (Nat.le_refl _) (by decide)) ?_
        refine wp_aload_n (q := 165) d_Tn_leastTrip_164 rfl rfl ?_
        refine wp_get (q := 168) fl_Tn_54 d_Tn_leastTrip_165 rfl rfl rfl ?_
        refine wp_iload_n (q := 169) d_Tn_leastTrip_168 rfl rfl ?_
        refine wp_iald (q := 170) d_Tn_leastTrip_169 rfl (rfl) (by omega) (by decide) ?_
        rw [hF b hb]
        refine wp_ldc (q := 172) d_Tn_leastTrip_170 rfl kc_Tn_90 ?_
        refine wp_icmp_ne_f (q := 175) (tgt := 180) d_Tn_leastTrip_172 (by decide) rfl (by rw [h6]) ?_
        refine wp_bipush (q := 177) d_Tn_leastTrip_175 rfl bp_m3 ?_
        refine wp_goto (tgt := 186) d_Tn_leastTrip_177 (by decide) ?_
        refine wp_iret d_Tn_leastTrip_186 rfl (Nat.le_refl _) (Nat.le_refl _) ?_
        have h := hK x
        unfold trv at h
        rw [if_pos h6] at h
        exact h
      · skip
        refine wp_iload (q := 37) d_Tn_leastTrip_35 rfl rfl ?_
        refine wp_bipush (q := 39) d_Tn_leastTrip_37 rfl bp_6 ?_
        refine wp_icmp_ge_t (tgt := 164) d_Tn_leastTrip_39 (by decide) (nI_le (Nat.le_refl _) (by decide)) ?_
        refine wp_aload_n (q := 165) d_Tn_leastTrip_164 rfl rfl ?_
        refine wp_get (q := 168) fl_Tn_54 d_Tn_leastTrip_165 rfl rfl rfl ?_
        refine wp_iload_n (q := 169) d_Tn_leastTrip_168 rfl rfl ?_
        refine wp_iald (q := 170) d_Tn_leastTrip_169 rfl (rfl) (by omega) (by decide) ?_
        rw [hF b hb]
        refine wp_ldc (q := 172) d_Tn_leastTrip_170 rfl kc_Tn_90 ?_
        refine wp_icmp_ne_t (tgt := 180) d_Tn_leastTrip_172 (by decide) (fun e => h6 ((nI_eq (by omega) (by decide)).mp e)) ?_
        refine wp_aload_n (q := 181) d_Tn_leastTrip_180 rfl rfl ?_
        refine wp_get (q := 184) fl_Tn_54 d_Tn_leastTrip_181 rfl rfl rfl ?_
        refine wp_iload_n (q := 185) d_Tn_leastTrip_184 rfl rfl ?_
        refine wp_iald (q := 186) d_Tn_leastTrip_185 rfl (rfl) (by omega) (by decide) ?_
        rw [hF b hb]
        refine wp_iret d_Tn_leastTrip_186 rfl (Nat.le_refl _) (Nat.le_refl _) ?_
        have h := hK x
        unfold trv at h
        rw [if_neg h6] at h
        exact h
    · intro k hk ih x hF
      refine wp_iload (q := 37) d_Tn_leastTrip_35 rfl rfl ?_
      refine wp_bipush (q := 39) d_Tn_leastTrip_37 rfl bp_6 ?_
      refine wp_icmp_ge_f (q := 42) (tgt := 164) d_Tn_leastTrip_39 (by decide) rfl (nI_ge (by omega) (by decide)) ?_
      refine wp_iconst (q := 43) d_Tn_leastTrip_42 rfl ic_0 ?_
      refine wp_istore (q := 45) (L2 := [(5, _), (4, _), (0, _), (1, _), (2, _), (3, _)]) d_Tn_leastTrip_43 rfl (by decide) rfl ?_
      have hn : ∀ x2 : T2, tF (rlS c h a (rdN c h a k) 6) (x2 2) → Wp D N l (EI M_Tn_leastTrip) M_Tn_leastTrip (Rm (d + 2) 0 0) (Qm D N K 0 0) 0 0 158 [(4, .int (nI (k + 1))), (0, .ref (N + 1)), (1, .int (nI a)), (2, .int (nI b)), (3, .int (nI h))] [] (encC D N c x2 V ln df ++ rest) := by
        intro x2 hF2
        refine wp_iinc (q := 161) (L2 := [(4, _), (0, _), (1, _), (2, _), (3, _)]) d_Tn_leastTrip_158 rfl rfl (iinc_1) (by decide) rfl ?_
        refine wp_goto (tgt := 35) d_Tn_leastTrip_161 (by decide) ?_
        exact ih x2 hF2
      exact lt_mid hT ha hb hh (TInv.rd k) hn 0 (Nat.zero_le _) x hF
  have l0 : ∀ k, k ≤ 6 → ∀ x : T2, (∀ v, v < k → x 2 v = nI 1000000) → Wp D N l (EI M_Tn_leastTrip) M_Tn_leastTrip (Rm (d + 2) 0 0) (Qm D N K 0 0) 0 0 3 [(4, .int (nI k)), (0, .ref (N + 1)), (1, .int (nI a)), (2, .int (nI b)), (3, .int (nI h))] [] (encC D N c x V ln df ++ rest) := by
    refine up_loop ?_ ?_
    · intro x hF
      refine wp_iload (q := 5) d_Tn_leastTrip_3 rfl rfl ?_
      refine wp_bipush (q := 7) d_Tn_leastTrip_5 rfl bp_6 ?_
      refine wp_icmp_ge_t (tgt := 25) d_Tn_leastTrip_7 (by decide) (nI_le (Nat.le_refl _) (by decide)) ?_
      refine wp_aload_n (q := 26) d_Tn_leastTrip_25 rfl rfl ?_
      refine wp_get (q := 29) fl_Tn_54 d_Tn_leastTrip_26 rfl rfl rfl ?_
      refine wp_iload_n (q := 30) d_Tn_leastTrip_29 rfl rfl ?_
      refine wp_iconst (q := 31) d_Tn_leastTrip_30 rfl ic_0 ?_
      refine wp_iast (q := 32) d_Tn_leastTrip_31 rfl (rfl) (by omega) (by decide) (fc_14) ?_
      refine wp_iconst (q := 33) d_Tn_leastTrip_32 rfl ic_1 ?_
      refine wp_istore (q := 35) (L2 := [(4, _), (0, _), (1, _), (2, _), (3, _)]) d_Tn_leastTrip_33 rfl (by decide) rfl ?_
      refine lp 0 (Nat.zero_le _) _ ?_
      rw [tput_eq]
      intro v hv
      show _ = nI (tr0 a v)
      unfold tr0
      by_cases e : v = a
      · rw [if_pos e, e, upd_eq]
      · rw [if_neg e, upd_ne _ _ e]; exact hF v hv
    · intro k hk ih x hF
      refine wp_iload (q := 5) d_Tn_leastTrip_3 rfl rfl ?_
      refine wp_bipush (q := 7) d_Tn_leastTrip_5 rfl bp_6 ?_
      refine wp_icmp_ge_f (q := 10) (tgt := 25) d_Tn_leastTrip_7 (by decide) rfl (nI_ge hk (by decide)) ?_
      refine wp_aload_n (q := 11) d_Tn_leastTrip_10 rfl rfl ?_
      refine wp_get (q := 14) fl_Tn_54 d_Tn_leastTrip_11 rfl rfl rfl ?_
      refine wp_iload (q := 16) d_Tn_leastTrip_14 rfl rfl ?_
      refine wp_ldc (q := 18) d_Tn_leastTrip_16 rfl kc_Tn_90 ?_
      refine wp_iast (q := 19) d_Tn_leastTrip_18 rfl (rfl) (by omega) (by decide) (fc_14) ?_
      refine wp_iinc (q := 22) (L2 := [(4, _), (0, _), (1, _), (2, _), (3, _)]) d_Tn_leastTrip_19 rfl rfl (iinc_1) (by decide) rfl ?_
      refine wp_goto (tgt := 3) d_Tn_leastTrip_22 (by decide) ?_
      refine ih _ ?_
      rw [tput_eq]
      intro v hv
      by_cases e : v = k
      · rw [e, upd_eq]
      · rw [upd_ne _ _ e]; exact hF v (by omega)
  refine ok_of (L := [(0, _), (1, _), (2, _), (3, _)]) (by decide) (Nat.le_of_ble_eq_true rfl) rfl ?_
  refine wp_iconst (q := 1) d_Tn_leastTrip_0 rfl ic_0 ?_
  refine wp_istore (q := 3) (L2 := [(4, _), (0, _), (1, _), (2, _), (3, _)]) d_Tn_leastTrip_1 rfl (by decide) rfl ?_
  exact l0 0 (Nat.zero_le _) x (fun v hv => absurd hv (Nat.not_lt_zero _))
def sp_trip (c : T2) (m : Nat) (a b : Int32) : Int32 := if ¬ inn a 5 ∨ ¬ inn b 5 then -1 else if a = b then -2 else trv (rdN c (hr m) (tn a) 5 (tn b))
theorem d_FG_trip_0 : decode M_FG_trip.2.1 0 = .ok (.iload_n 1, 1) := by decide +kernel
theorem d_FG_trip_1 : decode M_FG_trip.2.1 1 = .ok (.invokestatic 57, 3) := by decide +kernel
theorem d_FG_trip_4 : decode M_FG_trip.2.1 4 = .ok (.ifCond .eq 10, 3) := by decide +kernel
theorem d_FG_trip_7 : decode M_FG_trip.2.1 7 = .ok (.iload_n 2, 1) := by decide +kernel
theorem d_FG_trip_8 : decode M_FG_trip.2.1 8 = .ok (.invokestatic 57, 3) := by decide +kernel
theorem d_FG_trip_11 : decode M_FG_trip.2.1 11 = .ok (.ifCond .ne 5, 3) := by decide +kernel
theorem d_FG_trip_14 : decode M_FG_trip.2.1 14 = .ok (.iconst (-1), 1) := by decide +kernel
theorem d_FG_trip_15 : decode M_FG_trip.2.1 15 = .ok (.ireturn, 1) := by decide +kernel
theorem d_FG_trip_16 : decode M_FG_trip.2.1 16 = .ok (.iload_n 1, 1) := by decide +kernel
theorem d_FG_trip_17 : decode M_FG_trip.2.1 17 = .ok (.iload_n 2, 1) := by decide +kernel
theorem d_FG_trip_18 : decode M_FG_trip.2.1 18 = .ok (.if_icmp .ne 6, 3) := by decide +kernel
theorem d_FG_trip_21 : decode M_FG_trip.2.1 21 = .ok (.bipush (-2), 2) := by decide +kernel
theorem d_FG_trip_23 : decode M_FG_trip.2.1 23 = .ok (.ireturn, 1) := by decide +kernel
theorem d_FG_trip_24 : decode M_FG_trip.2.1 24 = .ok (.aload_n 0, 1) := by decide +kernel
theorem d_FG_trip_25 : decode M_FG_trip.2.1 25 = .ok (.getfield 10, 3) := by decide +kernel
theorem d_FG_trip_28 : decode M_FG_trip.2.1 28 = .ok (.iload_n 1, 1) := by decide +kernel
theorem d_FG_trip_29 : decode M_FG_trip.2.1 29 = .ok (.iload_n 2, 1) := by decide +kernel
theorem d_FG_trip_30 : decode M_FG_trip.2.1 30 = .ok (.aload_n 0, 1) := by decide +kernel
theorem d_FG_trip_31 : decode M_FG_trip.2.1 31 = .ok (.getfield 19, 3) := by decide +kernel
theorem d_FG_trip_34 : decode M_FG_trip.2.1 34 = .ok (.invokevirtual 242, 3) := by decide +kernel
theorem d_FG_trip_37 : decode M_FG_trip.2.1 37 = .ok (.invokevirtual 246, 3) := by decide +kernel
theorem d_FG_trip_40 : decode M_FG_trip.2.1 40 = .ok (.ireturn, 1) := by decide +kernel
set_option maxHeartbeats 4000000 in
set_option maxRecDepth 100000 in
theorem ok_FG_trip {D : xD} {N : Nat} {l : Launch} {d : Nat} {c x V : T2} {P : Nat → Int32} {ln df : Nat → Option Nat} {rest : List va_E} {K : Option Value → List va_E → Prop} {a b : Int32} {nb m : Nat} (hWV : WV c P nb m) (hm : m ≤ 14400) (hT : TI c) (hK : ∀ x2 : T2, K (some (.int (sp_trip c m a b))) (encC D N c x2 (va_up V 0 P) ln df ++ rest)) : Ok D N l (d + 3) M_FG_trip [.ref (N + 0), .int a, .int b] (encC D N c x (va_up V 0 P) ln df ++ rest) 0 0 K := by
  refine ok_of (L := [(0, _), (1, _), (2, _)]) (by decide) (Nat.le_of_ble_eq_true rfl) rfl ?_
  refine wp_iload_n (q := 1) d_FG_trip_0 rfl rfl ?_
  refine wp_cs1 (q := 4) lk_FG_57 (ro _ _ _) d_FG_trip_1 rfl (Nat.le_of_ble_eq_true rfl) (Nat.zero_le _) (Nat.zero_le _) ?_
  refine ok_FG_isStage (fun a1 ha1 e => ?_) (fun ha1 => ?_)
  · subst e
    refine wp_if_eq_f (q := 7) (tgt := 14) d_FG_trip_4 (by decide) rfl (by decide) ?_
    refine wp_iload_n (q := 8) d_FG_trip_7 rfl rfl ?_
    refine wp_cs1 (q := 11) lk_FG_57 (ro _ _ _) d_FG_trip_8 rfl (Nat.le_of_ble_eq_true rfl) (Nat.zero_le _) (Nat.zero_le _) ?_
    refine ok_FG_isStage (fun b1 hb1 e => ?_) (fun hb1 => ?_)
    · subst e
      refine wp_if_ne_t (tgt := 16) d_FG_trip_11 (by decide) (by decide) ?_
      refine wp_iload_n (q := 17) d_FG_trip_16 rfl rfl ?_
      refine wp_iload_n (q := 18) d_FG_trip_17 rfl rfl ?_
      refine wp_icmp_ne (q := 21) (tgt := 24) d_FG_trip_18 (by decide) rfl (fun hc_18 => ?_) (fun hc_18 => ?_)
      · refine wp_aload_n (q := 25) d_FG_trip_24 rfl rfl ?_
        refine wp_get (q := 28) fl_FG_10 d_FG_trip_25 rfl rfl rfl ?_
        refine wp_iload_n (q := 29) d_FG_trip_28 rfl rfl ?_
        refine wp_iload_n (q := 30) d_FG_trip_29 rfl rfl ?_
        refine wp_aload_n (q := 31) d_FG_trip_30 rfl rfl ?_
        refine wp_get (q := 34) fl_FG_19 d_FG_trip_31 rfl rfl rfl ?_
        refine wp_cv0 (q := 37) lk_FG_242 (ro _ _ _) d_FG_trip_34 rfl (Nat.le_of_ble_eq_true rfl) (rdO (w := 0) (by decide)) rfl (Nat.zero_le _) (Nat.zero_le _) ?_
        refine ok_Wd_hour (w := 0) (by decide) hWV.1.1 (by omega) ?_
        refine wp_cv3 (q := 40) lk_FG_246 (ro _ _ _) d_FG_trip_37 rfl (Nat.le_of_ble_eq_true rfl) (rfl) rfl (Nat.zero_le _) (Nat.zero_le _) ?_
        refine ok_Tn_leastTrip hT (by omega) (by omega) (hr_lt _) (fun x2 => ?_)
        refine wp_iret d_FG_trip_40 rfl (Nat.le_refl _) (Nat.le_refl _) ?_
        simp only [sp_trip, inn, inb, inm, btw, inn_t ha1, tnl ha1, inn_t hb1, tnl hb1, hc_18, not_true_eq_false, not_false_eq_true, or_false, false_or, or_true, true_or, and_true, true_and, and_false, false_and, or_self, and_self, if_true, if_false, ite_true, ite_false, eq_self] at hK
        first | first | exact hK x | exact hK _ | (simp (disch := omega) only [tput_eq, tput2, tput_ne, upd_eq, upd_ne, ne_eq, va_upeq, va_upne, va_up2, not_true_eq_false, not_false_eq_true, or_false, false_or, or_true, true_or, and_true, true_and, and_false, false_and, or_self, and_self, if_true, if_false, ite_true, ite_false, eq_self] at hK ⊢; first | exact hK x | exact hK _) | (simp (disch := omega) only [tput_eq, tput2, tput_ne, upd_eq, upd_ne, ne_eq, va_upeq, va_upne, va_up2, not_true_eq_false, not_false_eq_true, or_false, false_or, or_true, true_or, and_true, true_and, and_false, false_and, or_self, and_self, if_true, if_false, ite_true, ite_false, eq_self]; first | exact hK x | exact hK _) | (simp (disch := omega) only [tput_eq, tput2, tput_ne, upd_eq, upd_ne, ne_eq, va_upeq, va_upne, va_up2, not_true_eq_false, not_false_eq_true, or_false, false_or, or_true, true_or, and_true, true_and, and_false, false_and, or_self, and_self, if_true, if_false, ite_true, ite_false, eq_self] at hK; first | exact hK x | exact hK _)
      · refine wp_bipush (q := 23) d_FG_trip_21 rfl bp_m2 ?_
        refine wp_iret d_FG_trip_23 rfl (Nat.le_refl _) (Nat.le_refl _) ?_
        simp only [sp_trip, inn, inb, inm, btw, inn_t ha1, tnl ha1, inn_t hb1, tnl hb1, hc_18, not_true_eq_false, not_false_eq_true, or_false, false_or, or_true, true_or, and_true, true_and, and_false, false_and, or_self, and_self, if_true, if_false, ite_true, ite_false, eq_self] at hK
        first | first | exact hK x | exact hK _ | (simp (disch := omega) only [tput_eq, tput2, tput_ne, upd_eq, upd_ne, ne_eq, va_upeq, va_upne, va_up2, not_true_eq_false, not_false_eq_true, or_false, false_or, or_true, true_or, and_true, true_and, and_false, false_and, or_self, and_self, if_true, if_false, ite_true, ite_false, eq_self] at hK ⊢; first | exact hK x | exact hK _) | (simp (disch := omega) only [tput_eq, tput2, tput_ne, upd_eq, upd_ne, ne_eq, va_upeq, va_upne, va_up2, not_true_eq_false, not_false_eq_true, or_false, false_or, or_true, true_or, and_true, true_and, and_false, false_and, or_self, and_self, if_true, if_false, ite_true, ite_false, eq_self]; first | exact hK x | exact hK _) | (simp (disch := omega) only [tput_eq, tput2, tput_ne, upd_eq, upd_ne, ne_eq, va_upeq, va_upne, va_up2, not_true_eq_false, not_false_eq_true, or_false, false_or, or_true, true_or, and_true, true_and, and_false, false_and, or_self, and_self, if_true, if_false, ite_true, ite_false, eq_self] at hK; first | exact hK x | exact hK _)
    · refine wp_if_ne_f (q := 14) (tgt := 16) d_FG_trip_11 (by decide) rfl (by decide) ?_
      refine wp_iconst (q := 15) d_FG_trip_14 rfl ic_m1 ?_
      refine wp_iret d_FG_trip_15 rfl (Nat.le_refl _) (Nat.le_refl _) ?_
      simp only [sp_trip, inn, inb, inm, btw, inn_t ha1, tnl ha1, hb1, not_true_eq_false, not_false_eq_true, or_false, false_or, or_true, true_or, and_true, true_and, and_false, false_and, or_self, and_self, if_true, if_false, ite_true, ite_false, eq_self] at hK
      first | first | exact hK x | exact hK _ | (simp (disch := omega) only [tput_eq, tput2, tput_ne, upd_eq, upd_ne, ne_eq, va_upeq, va_upne, va_up2, not_true_eq_false, not_false_eq_true, or_false, false_or, or_true, true_or, and_true, true_and, and_false, false_and, or_self, and_self, if_true, if_false, ite_true, ite_false, eq_self] at hK ⊢; first | exact hK x | exact hK _) | (simp (disch := omega) only [tput_eq, tput2, tput_ne, upd_eq, upd_ne, ne_eq, va_upeq, va_upne, va_up2, not_true_eq_false, not_false_eq_true, or_false, false_or, or_true, true_or, and_true, true_and, and_false, false_and, or_self, and_self, if_true, if_false, ite_true, ite_false, eq_self]; first | exact hK x | exact hK _) | (simp (disch := omega) only [tput_eq, tput2, tput_ne, upd_eq, upd_ne, ne_eq, va_upeq, va_upne, va_up2, not_true_eq_false, not_false_eq_true, or_false, false_or, or_true, true_or, and_true, true_and, and_false, false_and, or_self, and_self, if_true, if_false, ite_true, ite_false, eq_self] at hK; first | exact hK x | exact hK _)
  · refine wp_if_eq_t (tgt := 14) d_FG_trip_4 (by decide) (by decide) ?_
    refine wp_iconst (q := 15) d_FG_trip_14 rfl ic_m1 ?_
    refine wp_iret d_FG_trip_15 rfl (Nat.le_refl _) (Nat.le_refl _) ?_
    simp only [sp_trip, inn, inb, inm, btw, ha1, not_true_eq_false, not_false_eq_true, or_false, false_or, or_true, true_or, and_true, true_and, and_false, false_and, or_self, and_self, if_true, if_false, ite_true, ite_false, eq_self] at hK
    first | first | exact hK x | exact hK _ | (simp (disch := omega) only [tput_eq, tput2, tput_ne, upd_eq, upd_ne, ne_eq, va_upeq, va_upne, va_up2, not_true_eq_false, not_false_eq_true, or_false, false_or, or_true, true_or, and_true, true_and, and_false, false_and, or_self, and_self, if_true, if_false, ite_true, ite_false, eq_self] at hK ⊢; first | exact hK x | exact hK _) | (simp (disch := omega) only [tput_eq, tput2, tput_ne, upd_eq, upd_ne, ne_eq, va_upeq, va_upne, va_up2, not_true_eq_false, not_false_eq_true, or_false, false_or, or_true, true_or, and_true, true_and, and_false, false_and, or_self, and_self, if_true, if_false, ite_true, ite_false, eq_self]; first | exact hK x | exact hK _) | (simp (disch := omega) only [tput_eq, tput2, tput_ne, upd_eq, upd_ne, ne_eq, va_upeq, va_upne, va_up2, not_true_eq_false, not_false_eq_true, or_false, false_or, or_true, true_or, and_true, true_and, and_false, false_and, or_self, and_self, if_true, if_false, ite_true, ite_false, eq_self] at hK; first | exact hK x | exact hK _)
def tG (a : Nat) (f : Nat → Nat) (X : Nat → Int32) : Prop := ∀ v, v < 6 → X v = if v = a then -5 else nI (f v)
theorem tG_put {a : Nat} {f : Nat → Nat} {X : Nat → Int32} {t n : Nat} (h : tG a f X) (hta : ¬ t = a) : tG a (va_up f t n) (upd X t (nI n)) := by
  intro v hv
  by_cases e : v = t
  · subst e; rw [upd_eq, va_upeq, if_neg hta]
  · rw [upd_ne _ _ e, va_upne _ _ e]; exact h v hv
theorem tG_5 {a : Nat} {f : Nat → Nat} {X : Nat → Int32} {s : Nat} (h : tG a f X) (hs : s < 6) : X s + nI 5 = nI (cst a f s) := by
  rw [h s hs]
  unfold cst
  by_cases e : s = a
  · rw [if_pos e, if_pos e]; decide
  · rw [if_neg e, if_neg e, nI_add]
theorem tG_ge {a : Nat} {f : Nat → Nat} {X : Nat → Int32} {t n : Nat} (h : tG a f X) (h0 : f a = 0) (ht : t < 6) (hf : f t ≤ 1000000) (hn : n < 2000000) (hc : X t ≤ nI n) : ¬ n < f t := by
  rw [h t ht] at hc
  by_cases e : t = a
  · rw [e, h0]; exact Nat.not_lt_zero _
  · rw [if_neg e] at hc
    have := (nI_leI (by omega) (by omega)).mp hc
    omega
theorem tG_lt {a : Nat} {f : Nat → Nat} {X : Nat → Int32} {t n : Nat} (h : tG a f X) (ht : t < 6) (hf : f t ≤ 1000000) (hn : n < 2000000) (hc : ¬ X t ≤ nI n) : ¬ t = a ∧ n < f t := by
  rw [h t ht] at hc
  by_cases e : t = a
  · rw [if_pos e] at hc
    exfalso
    apply hc
    rw [Int32.le_iff_toInt_le, nI_toInt (by omega)]
    have : (-5 : Int32).toInt = -5 := by decide
    omega
  · rw [if_neg e] at hc
    exact ⟨e, Nat.lt_of_not_le (fun g => hc (nI_le g (by omega)))⟩
theorem cst_s {a : Nat} {f : Nat → Nat} {s n : Nat} (h0 : f a = 0) (h : cst a f s + n < 1000001) : f s < 1000000 := by
  unfold cst at h
  by_cases e : s = a
  · rw [e, h0]; decide
  · rw [if_neg e] at h; omega
theorem d_Rf_trip_0 : decode M_Rf_trip.2.1 0 = .ok (.iload_n 1, 1) := by decide +kernel
theorem d_Rf_trip_1 : decode M_Rf_trip.2.1 1 = .ok (.invokestatic 163, 3) := by decide +kernel
theorem d_Rf_trip_4 : decode M_Rf_trip.2.1 4 = .ok (.ifCond .eq 10, 3) := by decide +kernel
theorem d_Rf_trip_7 : decode M_Rf_trip.2.1 7 = .ok (.iload_n 2, 1) := by decide +kernel
theorem d_Rf_trip_8 : decode M_Rf_trip.2.1 8 = .ok (.invokestatic 163, 3) := by decide +kernel
theorem d_Rf_trip_11 : decode M_Rf_trip.2.1 11 = .ok (.ifCond .ne 5, 3) := by decide +kernel
theorem d_Rf_trip_14 : decode M_Rf_trip.2.1 14 = .ok (.iconst (-1), 1) := by decide +kernel
theorem d_Rf_trip_15 : decode M_Rf_trip.2.1 15 = .ok (.ireturn, 1) := by decide +kernel
theorem d_Rf_trip_16 : decode M_Rf_trip.2.1 16 = .ok (.iload_n 1, 1) := by decide +kernel
theorem d_Rf_trip_17 : decode M_Rf_trip.2.1 17 = .ok (.iload_n 2, 1) := by decide +kernel
theorem d_Rf_trip_18 : decode M_Rf_trip.2.1 18 = .ok (.if_icmp .ne 6, 3) := by decide +kernel
theorem d_Rf_trip_21 : decode M_Rf_trip.2.1 21 = .ok (.bipush (-2), 2) := by decide +kernel
theorem d_Rf_trip_23 : decode M_Rf_trip.2.1 23 = .ok (.ireturn, 1) := by decide +kernel
theorem d_Rf_trip_24 : decode M_Rf_trip.2.1 24 = .ok (.iconst 0, 1) := by decide +kernel
theorem d_Rf_trip_25 : decode M_Rf_trip.2.1 25 = .ok (.istore_n 3, 1) := by decide +kernel
theorem d_Rf_trip_26 : decode M_Rf_trip.2.1 26 = .ok (.iload_n 3, 1) := by decide +kernel
theorem d_Rf_trip_27 : decode M_Rf_trip.2.1 27 = .ok (.bipush 6, 2) := by decide +kernel
theorem d_Rf_trip_29 : decode M_Rf_trip.2.1 29 = .ok (.if_icmp .ge 28, 3) := by decide +kernel
theorem d_Rf_trip_32 : decode M_Rf_trip.2.1 32 = .ok (.aload_n 0, 1) := by decide +kernel
theorem d_Rf_trip_33 : decode M_Rf_trip.2.1 33 = .ok (.getfield 139, 3) := by decide +kernel
theorem d_Rf_trip_36 : decode M_Rf_trip.2.1 36 = .ok (.iload_n 3, 1) := by decide +kernel
theorem d_Rf_trip_37 : decode M_Rf_trip.2.1 37 = .ok (.iload_n 3, 1) := by decide +kernel
theorem d_Rf_trip_38 : decode M_Rf_trip.2.1 38 = .ok (.iload_n 1, 1) := by decide +kernel
theorem d_Rf_trip_39 : decode M_Rf_trip.2.1 39 = .ok (.if_icmp .ne 8, 3) := by decide +kernel
theorem d_Rf_trip_42 : decode M_Rf_trip.2.1 42 = .ok (.bipush (-5), 2) := by decide +kernel
theorem d_Rf_trip_44 : decode M_Rf_trip.2.1 44 = .ok (.goto 6, 3) := by decide +kernel
theorem d_Rf_trip_47 : decode M_Rf_trip.2.1 47 = .ok (.ldc_w 270, 3) := by decide +kernel
theorem d_Rf_trip_50 : decode M_Rf_trip.2.1 50 = .ok (.iastore, 1) := by decide +kernel
theorem d_Rf_trip_51 : decode M_Rf_trip.2.1 51 = .ok (.iinc 3 1, 3) := by decide +kernel
theorem d_Rf_trip_54 : decode M_Rf_trip.2.1 54 = .ok (.goto (-28), 3) := by decide +kernel
theorem d_Rf_trip_57 : decode M_Rf_trip.2.1 57 = .ok (.iconst 0, 1) := by decide +kernel
theorem d_Rf_trip_58 : decode M_Rf_trip.2.1 58 = .ok (.istore_n 3, 1) := by decide +kernel
theorem d_Rf_trip_59 : decode M_Rf_trip.2.1 59 = .ok (.iload_n 3, 1) := by decide +kernel
theorem d_Rf_trip_60 : decode M_Rf_trip.2.1 60 = .ok (.bipush 6, 2) := by decide +kernel
theorem d_Rf_trip_62 : decode M_Rf_trip.2.1 62 = .ok (.if_icmp .ge 110, 3) := by decide +kernel
theorem d_Rf_trip_65 : decode M_Rf_trip.2.1 65 = .ok (.iconst 0, 1) := by decide +kernel
theorem d_Rf_trip_66 : decode M_Rf_trip.2.1 66 = .ok (.istore 4, 2) := by decide +kernel
theorem d_Rf_trip_68 : decode M_Rf_trip.2.1 68 = .ok (.iload 4, 2) := by decide +kernel
theorem d_Rf_trip_70 : decode M_Rf_trip.2.1 70 = .ok (.bipush 6, 2) := by decide +kernel
theorem d_Rf_trip_72 : decode M_Rf_trip.2.1 72 = .ok (.if_icmp .ge 94, 3) := by decide +kernel
theorem d_Rf_trip_75 : decode M_Rf_trip.2.1 75 = .ok (.iconst 0, 1) := by decide +kernel
theorem d_Rf_trip_76 : decode M_Rf_trip.2.1 76 = .ok (.istore 5, 2) := by decide +kernel
theorem d_Rf_trip_78 : decode M_Rf_trip.2.1 78 = .ok (.iload 5, 2) := by decide +kernel
theorem d_Rf_trip_80 : decode M_Rf_trip.2.1 80 = .ok (.bipush 6, 2) := by decide +kernel
theorem d_Rf_trip_82 : decode M_Rf_trip.2.1 82 = .ok (.if_icmp .ge 78, 3) := by decide +kernel
theorem d_Rf_trip_85 : decode M_Rf_trip.2.1 85 = .ok (.aload_n 0, 1) := by decide +kernel
theorem d_Rf_trip_86 : decode M_Rf_trip.2.1 86 = .ok (.getfield 19, 3) := by decide +kernel
theorem d_Rf_trip_89 : decode M_Rf_trip.2.1 89 = .ok (.bipush 6, 2) := by decide +kernel
theorem d_Rf_trip_91 : decode M_Rf_trip.2.1 91 = .ok (.iload 4, 2) := by decide +kernel
theorem d_Rf_trip_93 : decode M_Rf_trip.2.1 93 = .ok (.imul, 1) := by decide +kernel
theorem d_Rf_trip_94 : decode M_Rf_trip.2.1 94 = .ok (.iload 5, 2) := by decide +kernel
theorem d_Rf_trip_96 : decode M_Rf_trip.2.1 96 = .ok (.iadd, 1) := by decide +kernel
theorem d_Rf_trip_97 : decode M_Rf_trip.2.1 97 = .ok (.iaload, 1) := by decide +kernel
theorem d_Rf_trip_98 : decode M_Rf_trip.2.1 98 = .ok (.ifCond .le 56, 3) := by decide +kernel
theorem d_Rf_trip_101 : decode M_Rf_trip.2.1 101 = .ok (.aload_n 0, 1) := by decide +kernel
theorem d_Rf_trip_102 : decode M_Rf_trip.2.1 102 = .ok (.getfield 139, 3) := by decide +kernel
theorem d_Rf_trip_105 : decode M_Rf_trip.2.1 105 = .ok (.iload 4, 2) := by decide +kernel
theorem d_Rf_trip_107 : decode M_Rf_trip.2.1 107 = .ok (.iaload, 1) := by decide +kernel
theorem d_Rf_trip_108 : decode M_Rf_trip.2.1 108 = .ok (.iconst 5, 1) := by decide +kernel
theorem d_Rf_trip_109 : decode M_Rf_trip.2.1 109 = .ok (.iadd, 1) := by decide +kernel
theorem d_Rf_trip_110 : decode M_Rf_trip.2.1 110 = .ok (.aload_n 0, 1) := by decide +kernel
theorem d_Rf_trip_111 : decode M_Rf_trip.2.1 111 = .ok (.iload 4, 2) := by decide +kernel
theorem d_Rf_trip_113 : decode M_Rf_trip.2.1 113 = .ok (.iload 5, 2) := by decide +kernel
theorem d_Rf_trip_115 : decode M_Rf_trip.2.1 115 = .ok (.invokevirtual 239, 3) := by decide +kernel
theorem d_Rf_trip_118 : decode M_Rf_trip.2.1 118 = .ok (.iadd, 1) := by decide +kernel
theorem d_Rf_trip_119 : decode M_Rf_trip.2.1 119 = .ok (.aload_n 0, 1) := by decide +kernel
theorem d_Rf_trip_120 : decode M_Rf_trip.2.1 120 = .ok (.getfield 139, 3) := by decide +kernel
theorem d_Rf_trip_123 : decode M_Rf_trip.2.1 123 = .ok (.iload 5, 2) := by decide +kernel
theorem d_Rf_trip_125 : decode M_Rf_trip.2.1 125 = .ok (.iaload, 1) := by decide +kernel
theorem d_Rf_trip_126 : decode M_Rf_trip.2.1 126 = .ok (.if_icmp .ge 28, 3) := by decide +kernel
theorem d_Rf_trip_129 : decode M_Rf_trip.2.1 129 = .ok (.aload_n 0, 1) := by decide +kernel
theorem d_Rf_trip_130 : decode M_Rf_trip.2.1 130 = .ok (.getfield 139, 3) := by decide +kernel
theorem d_Rf_trip_133 : decode M_Rf_trip.2.1 133 = .ok (.iload 5, 2) := by decide +kernel
theorem d_Rf_trip_135 : decode M_Rf_trip.2.1 135 = .ok (.aload_n 0, 1) := by decide +kernel
theorem d_Rf_trip_136 : decode M_Rf_trip.2.1 136 = .ok (.getfield 139, 3) := by decide +kernel
theorem d_Rf_trip_139 : decode M_Rf_trip.2.1 139 = .ok (.iload 4, 2) := by decide +kernel
theorem d_Rf_trip_141 : decode M_Rf_trip.2.1 141 = .ok (.iaload, 1) := by decide +kernel
theorem d_Rf_trip_142 : decode M_Rf_trip.2.1 142 = .ok (.iconst 5, 1) := by decide +kernel
theorem d_Rf_trip_143 : decode M_Rf_trip.2.1 143 = .ok (.iadd, 1) := by decide +kernel
theorem d_Rf_trip_144 : decode M_Rf_trip.2.1 144 = .ok (.aload_n 0, 1) := by decide +kernel
theorem d_Rf_trip_145 : decode M_Rf_trip.2.1 145 = .ok (.iload 4, 2) := by decide +kernel
theorem d_Rf_trip_147 : decode M_Rf_trip.2.1 147 = .ok (.iload 5, 2) := by decide +kernel
theorem d_Rf_trip_149 : decode M_Rf_trip.2.1 149 = .ok (.invokevirtual 239, 3) := by decide +kernel
theorem d_Rf_trip_152 : decode M_Rf_trip.2.1 152 = .ok (.iadd, 1) := by decide +kernel
theorem d_Rf_trip_153 : decode M_Rf_trip.2.1 153 = .ok (.iastore, 1) := by decide +kernel
theorem d_Rf_trip_154 : decode M_Rf_trip.2.1 154 = .ok (.iinc 5 1, 3) := by decide +kernel
theorem d_Rf_trip_157 : decode M_Rf_trip.2.1 157 = .ok (.goto (-79), 3) := by decide +kernel
theorem d_Rf_trip_160 : decode M_Rf_trip.2.1 160 = .ok (.iinc 4 1, 3) := by decide +kernel
theorem d_Rf_trip_163 : decode M_Rf_trip.2.1 163 = .ok (.goto (-95), 3) := by decide +kernel
theorem d_Rf_trip_166 : decode M_Rf_trip.2.1 166 = .ok (.iinc 3 1, 3) := by decide +kernel
theorem d_Rf_trip_169 : decode M_Rf_trip.2.1 169 = .ok (.goto (-110), 3) := by decide +kernel
theorem d_Rf_trip_172 : decode M_Rf_trip.2.1 172 = .ok (.aload_n 0, 1) := by decide +kernel
theorem d_Rf_trip_173 : decode M_Rf_trip.2.1 173 = .ok (.getfield 139, 3) := by decide +kernel
theorem d_Rf_trip_176 : decode M_Rf_trip.2.1 176 = .ok (.iload_n 2, 1) := by decide +kernel
theorem d_Rf_trip_177 : decode M_Rf_trip.2.1 177 = .ok (.iaload, 1) := by decide +kernel
theorem d_Rf_trip_178 : decode M_Rf_trip.2.1 178 = .ok (.ldc_w 270, 3) := by decide +kernel
theorem d_Rf_trip_181 : decode M_Rf_trip.2.1 181 = .ok (.if_icmp .lt 8, 3) := by decide +kernel
theorem d_Rf_trip_184 : decode M_Rf_trip.2.1 184 = .ok (.bipush (-3), 2) := by decide +kernel
theorem d_Rf_trip_186 : decode M_Rf_trip.2.1 186 = .ok (.goto 9, 3) := by decide +kernel
theorem d_Rf_trip_189 : decode M_Rf_trip.2.1 189 = .ok (.aload_n 0, 1) := by decide +kernel
theorem d_Rf_trip_190 : decode M_Rf_trip.2.1 190 = .ok (.getfield 139, 3) := by decide +kernel
theorem d_Rf_trip_193 : decode M_Rf_trip.2.1 193 = .ok (.iload_n 2, 1) := by decide +kernel
theorem d_Rf_trip_194 : decode M_Rf_trip.2.1 194 = .ok (.iaload, 1) := by decide +kernel
theorem d_Rf_trip_195 : decode M_Rf_trip.2.1 195 = .ok (.ireturn, 1) := by decide +kernel
set_option maxHeartbeats 4000000 in
set_option maxRecDepth 100000 in
theorem rt_in {D : xD} {N : Nat} {l : Launch} {d : Nat} {c : T2} {P Q : Nat → Int32} {rest : List va_E} {K : Option Value → List va_E → Prop} {m : Nat} (em : P 234 = nI m) (hm : m < 14700) (hT : TI c) {a b : Nat} (ha : a < 6) (hb : b < 6) {f : Nat → Nat} (hI : TInv c (hr m) a f) {s k : Nat} (hs : s < 6) (hend : ∀ z : T2, tG a (rlT c (hr m) a f s 6) (z 1) → Wp D N l (EI M_Rf_trip) M_Rf_trip (Rm (d + 3) 0 0) (Qm D N K 0 0) 0 0 160 [(4, .int (nI s)), (3, .int (nI k)), (0, .ref (N + 0)), (1, .int (nI a)), (2, .int (nI b))] [] (encR D N c z P Q ++ rest)) : ∀ t, t ≤ 6 → ∀ z : T2, tG a (rlT c (hr m) a f s t) (z 1) → Wp D N l (EI M_Rf_trip) M_Rf_trip (Rm (d + 3) 0 0) (Qm D N K 0 0) 0 0 78 [(5, .int (nI t)), (4, .int (nI s)), (3, .int (nI k)), (0, .ref (N + 0)), (1, .int (nI a)), (2, .int (nI b))] [] (encR D N c z P Q ++ rest) := by
  refine up_loop ?_ ?_
  · intro z hF
    refine wp_iload (q := 80) d_Rf_trip_78 rfl rfl ?_
    refine wp_bipush (q := 82) d_Rf_trip_80 rfl bp_6 ?_
    refine wp_icmp_ge_t (tgt := 160) d_Rf_trip_82 (by decide) (nI_le (Nat.le_refl _) (by decide)) ?_
    refine wp_sub [1, 2, 3, 4, 5] rfl ?_
    exact hend z hF
  · intro t ht ih z hF
    have hg := hI.rlTv hs t (by omega)
    obtain ⟨ww, w1, w2⟩ := way_w (s := s) (t := t) hT hs ht (hr_lt m)
    have hcb := cst_b (a := a) (hg.2.1 s hs)
    refine wp_iload (q := 80) d_Rf_trip_78 rfl rfl ?_
    refine wp_bipush (q := 82) d_Rf_trip_80 rfl bp_6 ?_
    refine wp_icmp_ge_f (q := 85) (tgt := 160) d_Rf_trip_82 (by decide) rfl (nI_ge ht (by decide)) ?_
    refine wp_aload_n (q := 86) d_Rf_trip_85 rfl rfl ?_
    refine wp_get (q := 89) fl_Rf_19 d_Rf_trip_86 rfl rfl rfl ?_
    refine wp_bipush (q := 91) d_Rf_trip_89 rfl bp_6 ?_
    refine wp_iload (q := 93) d_Rf_trip_91 rfl rfl ?_
    first | refine wp_imulN (q := 94) d_Rf_trip_93 rfl ?_ | refine wp_imul (q := 94) d_Rf_trip_93 rfl ?_
    refine wp_iload (q := 96) d_Rf_trip_94 rfl rfl ?_
    first | refine wp_iaddN (q := 97) d_Rf_trip_96 rfl ?_ | refine wp_iadd (q := 97) d_Rf_trip_96 rfl ?_
    refine wp_iald (q := 98) d_Rf_trip_97 rfl (rfl) (by omega) (by decide) ?_
    refine wp_if_le (q := 101) (tgt := 154) d_Rf_trip_98 (by decide) rfl (fun hc_98 => ?_) (fun hc_98 => ?_)
    · refine wp_iinc (q := 157) (L2 := [(5, _), (4, _), (3, _), (0, _), (1, _), (2, _)]) d_Rf_trip_154 rfl rfl (iinc_1) (by decide) rfl ?_
      refine wp_goto (tgt := 78) d_Rf_trip_157 (by decide) ?_
      refine ih z ?_
      rw [rlT, rl_n (fun q => le_nlt hc_98 ((hr0_of hT (6 * s + t) (by omega)).mpr q.1))]
      exact hF
    · refine wp_aload_n (q := 102) d_Rf_trip_101 rfl rfl ?_
      refine wp_get (q := 105) fl_Rf_139 d_Rf_trip_102 rfl rfl rfl ?_
      refine wp_iload (q := 107) d_Rf_trip_105 rfl rfl ?_
      refine wp_iald (q := 108) d_Rf_trip_107 rfl (rfl) (by omega) (by decide) ?_
      refine wp_iconst (q := 109) d_Rf_trip_108 rfl ic_5 ?_
      first | refine wp_iaddN (q := 110) d_Rf_trip_109 rfl ?_ | refine wp_iadd (q := 110) d_Rf_trip_109 rfl ?_
      rw [tG_5 hF hs]
      refine wp_aload_n (q := 111) d_Rf_trip_110 rfl rfl ?_
      refine wp_iload (q := 113) d_Rf_trip_111 rfl rfl ?_
      refine wp_iload (q := 115) d_Rf_trip_113 rfl rfl ?_
      refine wp_cv2 (q := 118) lk_Rf_239 (ro _ _ _) d_Rf_trip_115 rfl (Nat.le_of_ble_eq_true rfl) (rfl) rfl (Nat.zero_le _) (Nat.zero_le _) ?_
      refine ok_Rf_wayOf em hm (by omega) (by omega) ?_
      rw [ww]
      first | refine wp_iaddN (q := 119) d_Rf_trip_118 rfl ?_ | refine wp_iadd (q := 119) d_Rf_trip_118 rfl ?_
      refine wp_aload_n (q := 120) d_Rf_trip_119 rfl rfl ?_
      refine wp_get (q := 123) fl_Rf_139 d_Rf_trip_120 rfl rfl rfl ?_
      refine wp_iload (q := 125) d_Rf_trip_123 rfl rfl ?_
      refine wp_iald (q := 126) d_Rf_trip_125 rfl (rfl) (by omega) (by decide) ?_
      refine wp_icmp_ge (q := 129) (tgt := 154) d_Rf_trip_126 (by decide) rfl (fun hc_126 => ?_) (fun hc_126 => ?_)
      · refine wp_iinc (q := 157) (L2 := [(5, _), (4, _), (3, _), (0, _), (1, _), (2, _)]) d_Rf_trip_154 rfl rfl (iinc_1) (by decide) rfl ?_
        refine wp_goto (tgt := 78) d_Rf_trip_157 (by decide) ?_
        refine ih z ?_
        rw [rlT, rl_n (fun q => tG_ge hF hg.1 ht (hg.2.1 t ht) (by omega) hc_126 q.2.2)]
        exact hF
      · obtain ⟨hta, hlt⟩ := tG_lt hF ht (hg.2.1 t ht) (by omega) hc_126
        refine wp_aload_n (q := 130) d_Rf_trip_129 rfl rfl ?_
        refine wp_get (q := 133) fl_Rf_139 d_Rf_trip_130 rfl rfl rfl ?_
        refine wp_iload (q := 135) d_Rf_trip_133 rfl rfl ?_
        refine wp_aload_n (q := 136) d_Rf_trip_135 rfl rfl ?_
        refine wp_get (q := 139) fl_Rf_139 d_Rf_trip_136 rfl rfl rfl ?_
        refine wp_iload (q := 141) d_Rf_trip_139 rfl rfl ?_
        refine wp_iald (q := 142) d_Rf_trip_141 rfl (rfl) (by omega) (by decide) ?_
        refine wp_iconst (q := 143) d_Rf_trip_142 rfl ic_5 ?_
        first | refine wp_iaddN (q := 144) d_Rf_trip_143 rfl ?_ | refine wp_iadd (q := 144) d_Rf_trip_143 rfl ?_
        rw [tG_5 hF hs]
        refine wp_aload_n (q := 145) d_Rf_trip_144 rfl rfl ?_
        refine wp_iload (q := 147) d_Rf_trip_145 rfl rfl ?_
        refine wp_iload (q := 149) d_Rf_trip_147 rfl rfl ?_
        refine wp_cv2 (q := 152) lk_Rf_239 (ro _ _ _) d_Rf_trip_149 rfl (Nat.le_of_ble_eq_true rfl) (rfl) rfl (Nat.zero_le _) (Nat.zero_le _) ?_
        refine ok_Rf_wayOf em hm (by omega) (by omega) ?_
        rw [ww]
        first | refine wp_iaddN (q := 153) d_Rf_trip_152 rfl ?_ | refine wp_iadd (q := 153) d_Rf_trip_152 rfl ?_
        refine wp_iast (q := 154) d_Rf_trip_153 rfl (rfl) (by omega) (by decide) (fr_z1) ?_
        refine wp_iinc (q := 157) (L2 := [(5, _), (4, _), (3, _), (0, _), (1, _), (2, _)]) d_Rf_trip_154 rfl rfl (iinc_1) (by decide) rfl ?_
        refine wp_goto (tgt := 78) d_Rf_trip_157 (by decide) ?_
        refine ih _ ?_
        rw [tput_eq, rlT, rl_y ⟨(hr0_of hT (6 * s + t) (by omega)).mp (nle_lt hc_98), cst_s (n := wy c (hr m) s t) hg.1 (by have := hg.2.1 t ht; omega), hlt⟩]
        exact tG_put hF hta
set_option maxHeartbeats 4000000 in
set_option maxRecDepth 100000 in
theorem rt_mid {D : xD} {N : Nat} {l : Launch} {d : Nat} {c : T2} {P Q : Nat → Int32} {rest : List va_E} {K : Option Value → List va_E → Prop} {m : Nat} (em : P 234 = nI m) (hm : m < 14700) (hT : TI c) {a b : Nat} (ha : a < 6) (hb : b < 6) {f : Nat → Nat} (hI : TInv c (hr m) a f) {k : Nat} (hend : ∀ z : T2, tG a (rlS c (hr m) a f 6) (z 1) → Wp D N l (EI M_Rf_trip) M_Rf_trip (Rm (d + 3) 0 0) (Qm D N K 0 0) 0 0 166 [(3, .int (nI k)), (0, .ref (N + 0)), (1, .int (nI a)), (2, .int (nI b))] [] (encR D N c z P Q ++ rest)) : ∀ s, s ≤ 6 → ∀ z : T2, tG a (rlS c (hr m) a f s) (z 1) → Wp D N l (EI M_Rf_trip) M_Rf_trip (Rm (d + 3) 0 0) (Qm D N K 0 0) 0 0 68 [(4, .int (nI s)), (3, .int (nI k)), (0, .ref (N + 0)), (1, .int (nI a)), (2, .int (nI b))] [] (encR D N c z P Q ++ rest) := by
  refine up_loop ?_ ?_
  · intro z hF
    refine wp_iload (q := 70) d_Rf_trip_68 rfl rfl ?_
    refine wp_bipush (q := 72) d_Rf_trip_70 rfl bp_6 ?_
    refine wp_icmp_ge_t (tgt := 166) d_Rf_trip_72 (by decide) (nI_le (Nat.le_refl _) (by decide)) ?_
    refine wp_sub [1, 2, 3, 4] rfl ?_
    exact hend z hF
  · intro s hs ih z hF
    have hIs := hI.rlSv s (by omega)
    refine wp_iload (q := 70) d_Rf_trip_68 rfl rfl ?_
    refine wp_bipush (q := 72) d_Rf_trip_70 rfl bp_6 ?_
    refine wp_icmp_ge_f (q := 75) (tgt := 166) d_Rf_trip_72 (by decide) rfl (nI_ge hs (by decide)) ?_
    refine wp_iconst (q := 76) d_Rf_trip_75 rfl ic_0 ?_
    refine wp_istore (q := 78) (L2 := [(5, _), (4, _), (3, _), (0, _), (1, _), (2, _)]) d_Rf_trip_76 rfl (by decide) rfl ?_
    have hn : ∀ z2 : T2, tG a (rlT c (hr m) a (rlS c (hr m) a f s) s 6) (z2 1) → Wp D N l (EI M_Rf_trip) M_Rf_trip (Rm (d + 3) 0 0) (Qm D N K 0 0) 0 0 160 [(4, .int (nI s)), (3, .int (nI k)), (0, .ref (N + 0)), (1, .int (nI a)), (2, .int (nI b))] [] (encR D N c z2 P Q ++ rest) := by
      intro z2 hF2
      refine wp_iinc (q := 163) (L2 := [(4, _), (3, _), (0, _), (1, _), (2, _)]) d_Rf_trip_160 rfl rfl (iinc_1) (by decide) rfl ?_
      refine wp_goto (tgt := 68) d_Rf_trip_163 (by decide) ?_
      exact ih z2 hF2
    exact rt_in em hm hT ha hb hIs hs hn 0 (Nat.zero_le _) z hF
set_option maxHeartbeats 4000000 in
set_option maxRecDepth 100000 in
theorem rt_go {D : xD} {N : Nat} {l : Launch} {d : Nat} {c z : T2} {P Q : Nat → Int32} {rest : List va_E} {K : Option Value → List va_E → Prop} {m : Nat} (em : P 234 = nI m) (hm : m < 14700) (hT : TI c) {a b : Nat} (ha : a < 6) (hb : b < 6) (hab : ¬ b = a) (hK : ∀ z2 : T2, K (some (.int (trv (rdN c (hr m) a 5 b)))) (encR D N c z2 P Q ++ rest)) : Wp D N l (EI M_Rf_trip) M_Rf_trip (Rm (d + 3) 0 0) (Qm D N K 0 0) 0 0 24 [(0, .ref (N + 0)), (1, .int (nI a)), (2, .int (nI b))] [] (encR D N c z P Q ++ rest) := by
  have lp : ∀ k, k ≤ 6 → ∀ z : T2, tG a (rdN c (hr m) a k) (z 1) → Wp D N l (EI M_Rf_trip) M_Rf_trip (Rm (d + 3) 0 0) (Qm D N K 0 0) 0 0 59 [(3, .int (nI k)), (0, .ref (N + 0)), (1, .int (nI a)), (2, .int (nI b))] [] (encR D N c z P Q ++ rest) := by
    refine up_loop ?_ ?_
    · intro z hF
      have hle := (TInv.rd (c := c) (hh := hr m) (a := a) 5).2.1 b hb
      have eb : z 1 b = nI (rdN c (hr m) a 5 b) := by rw [hF b hb, if_neg hab, rd_56 (TW_of hT (hr_lt m)) ha b hb]
      by_cases h6 : rdN c (hr m) a 5 b < 1000000
      · skip
        refine wp_iload_n (q := 60) d_Rf_trip_59 rfl rfl ?_
        refine wp_bipush (q := 62) d_Rf_trip_60 rfl bp_6 ?_
        refine wp_icmp_ge_t (tgt := 172) d_Rf_trip_62 (by decide) (nI_le (Nat.le_refl _) (by decide)) ?_
        refine wp_aload_n (q := 173) d_Rf_trip_172 rfl rfl ?_
        refine wp_get (q := 176) fl_Rf_139 d_Rf_trip_173 rfl rfl rfl ?_
        refine wp_iload_n (q := 177) d_Rf_trip_176 rfl rfl ?_
        refine wp_iald (q := 178) d_Rf_trip_177 rfl (rfl) (by omega) (by decide) ?_
        rw [eb]
        refine wp_ldcw (q := 181) d_Rf_trip_178 rfl kc_Rf_270 ?_
        refine wp_icmp_lt_t (tgt := 189) d_Rf_trip_181 (by decide) (nI_lt h6 (by decide)) ?_
        refine wp_aload_n (q := 190) d_Rf_trip_189 rfl rfl ?_
        refine wp_get (q := 193) fl_Rf_139 d_Rf_trip_190 rfl rfl rfl ?_
        refine wp_iload_n (q := 194) d_Rf_trip_193 rfl rfl ?_
        refine wp_iald (q := 195) d_Rf_trip_194 rfl (rfl) (by omega) (by decide) ?_
        rw [eb]
        refine wp_iret d_Rf_trip_195 rfl (Nat.le_refl _) (Nat.le_refl _) ?_
        have h := hK z
        unfold trv at h
        rw [if_neg (by omega)] at h
        exact h
      · skip
        refine wp_iload_n (q := 60) d_Rf_trip_59 rfl rfl ?_
        refine wp_bipush (q := 62) d_Rf_trip_60 rfl bp_6 ?_
        refine wp_icmp_ge_t (tgt := 172) d_Rf_trip_62 (by decide) (nI_le (Nat.le_refl _) (by decide)) ?_
        refine wp_aload_n (q := 173) d_Rf_trip_172 rfl rfl ?_
        refine wp_get (q := 176) fl_Rf_139 d_Rf_trip_173 rfl rfl rfl ?_
        refine wp_iload_n (q := 177) d_Rf_trip_176 rfl rfl ?_
        refine wp_iald (q := 178) d_Rf_trip_177 rfl (rfl) (by omega) (by decide) ?_
        rw [eb]
        refine wp_ldcw (q := 181) d_Rf_trip_178 rfl kc_Rf_270 ?_
        refine wp_icmp_lt_f (q := 184) (tgt := 189) d_Rf_trip_181 (by decide) rfl (nI_nlt (by omega) (by omega)) ?_
        refine wp_bipush (q := 186) d_Rf_trip_184 rfl bp_m3 ?_
        refine wp_goto (tgt := 195) d_Rf_trip_186 (by decide) ?_
        refine wp_iret d_Rf_trip_195 rfl (Nat.le_refl _) (Nat.le_refl _) ?_
        have h := hK z
        unfold trv at h
        rw [if_pos (by omega)] at h
        exact h
    · intro k hk ih z hF
      refine wp_iload_n (q := 60) d_Rf_trip_59 rfl rfl ?_
      refine wp_bipush (q := 62) d_Rf_trip_60 rfl bp_6 ?_
      refine wp_icmp_ge_f (q := 65) (tgt := 172) d_Rf_trip_62 (by decide) rfl (nI_ge hk (by decide)) ?_
      refine wp_iconst (q := 66) d_Rf_trip_65 rfl ic_0 ?_
      refine wp_istore (q := 68) (L2 := [(4, _), (3, _), (0, _), (1, _), (2, _)]) d_Rf_trip_66 rfl (by decide) rfl ?_
      have hn : ∀ z2 : T2, tG a (rlS c (hr m) a (rdN c (hr m) a k) 6) (z2 1) → Wp D N l (EI M_Rf_trip) M_Rf_trip (Rm (d + 3) 0 0) (Qm D N K 0 0) 0 0 166 [(3, .int (nI k)), (0, .ref (N + 0)), (1, .int (nI a)), (2, .int (nI b))] [] (encR D N c z2 P Q ++ rest) := by
        intro z2 hF2
        refine wp_iinc (q := 169) (L2 := [(3, _), (0, _), (1, _), (2, _)]) d_Rf_trip_166 rfl rfl (iinc_1) (by decide) rfl ?_
        refine wp_goto (tgt := 59) d_Rf_trip_169 (by decide) ?_
        exact ih z2 hF2
      exact rt_mid em hm hT ha hb (TInv.rd k) hn 0 (Nat.zero_le _) z hF
  have l0 : ∀ k, k ≤ 6 → ∀ z : T2, (∀ v, v < k → z 1 v = if v = a then -5 else nI 1000000) → Wp D N l (EI M_Rf_trip) M_Rf_trip (Rm (d + 3) 0 0) (Qm D N K 0 0) 0 0 26 [(3, .int (nI k)), (0, .ref (N + 0)), (1, .int (nI a)), (2, .int (nI b))] [] (encR D N c z P Q ++ rest) := by
    refine up_loop ?_ ?_
    · intro z hF
      refine wp_iload_n (q := 27) d_Rf_trip_26 rfl rfl ?_
      refine wp_bipush (q := 29) d_Rf_trip_27 rfl bp_6 ?_
      refine wp_icmp_ge_t (tgt := 57) d_Rf_trip_29 (by decide) (nI_le (Nat.le_refl _) (by decide)) ?_
      refine wp_iconst (q := 58) d_Rf_trip_57 rfl ic_0 ?_
      refine wp_istore_n (q := 59) (L2 := [(3, _), (0, _), (1, _), (2, _)]) d_Rf_trip_58 rfl (by decide) rfl ?_
      refine lp 0 (Nat.zero_le _) z ?_
      intro v hv
      rw [hF v hv]
      show _ = if v = a then -5 else nI (tr0 a v)
      unfold tr0
      by_cases e : v = a
      · rw [if_pos e, if_pos e]
      · rw [if_neg e, if_neg e, if_neg e]
    · intro k hk ih z hF
      by_cases e1 : k = a
      · skip
        refine wp_iload_n (q := 27) d_Rf_trip_26 rfl rfl ?_
        refine wp_bipush (q := 29) d_Rf_trip_27 rfl bp_6 ?_
        refine wp_icmp_ge_f (q := 32) (tgt := 57) d_Rf_trip_29 (by decide) rfl (nI_ge hk (by decide)) ?_
        refine wp_aload_n (q := 33) d_Rf_trip_32 rfl rfl ?_
        refine wp_get (q := 36) fl_Rf_139 d_Rf_trip_33 rfl rfl rfl ?_
        refine wp_iload_n (q := 37) d_Rf_trip_36 rfl rfl ?_
        refine wp_iload_n (q := 38) d_Rf_trip_37 rfl rfl ?_
        refine wp_iload_n (q := 39) d_Rf_trip_38 rfl rfl ?_
        refine wp_icmp_ne_f (q := 42) (tgt := 47) d_Rf_trip_39 (by decide) rfl (by rw [e1]) ?_
        refine wp_bipush (q := 44) d_Rf_trip_42 rfl bp_m5 ?_
        refine wp_goto (tgt := 50) d_Rf_trip_44 (by decide) ?_
        refine wp_iast (q := 51) d_Rf_trip_50 rfl (rfl) (by omega) (by decide) (fr_z1) ?_
        refine wp_iinc (q := 54) (L2 := [(3, _), (0, _), (1, _), (2, _)]) d_Rf_trip_51 rfl rfl (iinc_1) (by decide) rfl ?_
        refine wp_goto (tgt := 26) d_Rf_trip_54 (by decide) ?_
        refine ih _ ?_
        rw [tput_eq]
        intro v hv
        by_cases e : v = k
        · rw [e, upd_eq, if_pos e1]
        · rw [upd_ne _ _ e]; exact hF v (by omega)
      · skip
        refine wp_iload_n (q := 27) d_Rf_trip_26 rfl rfl ?_
        refine wp_bipush (q := 29) d_Rf_trip_27 rfl bp_6 ?_
        refine wp_icmp_ge_f (q := 32) (tgt := 57) d_Rf_trip_29 (by decide) rfl (nI_ge hk (by decide)) ?_
        refine wp_aload_n (q := 33) d_Rf_trip_32 rfl rfl ?_
        refine wp_get (q := 36) fl_Rf_139 d_Rf_trip_33 rfl rfl rfl ?_
        refine wp_iload_n (q := 37) d_Rf_trip_36 rfl rfl ?_
        refine wp_iload_n (q := 38) d_Rf_trip_37 rfl rfl ?_
        refine wp_iload_n (q := 39) d_Rf_trip_38 rfl rfl ?_
        refine wp_icmp_ne_t (tgt := 47) d_Rf_trip_39 (by decide) (fun e => e1 ((nI_eq (by omega) (by omega)).mp e)) ?_
        refine wp_ldcw (q := 50) d_Rf_trip_47 rfl kc_Rf_270 ?_
        refine wp_iast (q := 51) d_Rf_trip_50 rfl (rfl) (by omega) (by decide) (fr_z1) ?_
        refine wp_iinc (q := 54) (L2 := [(3, _), (0, _), (1, _), (2, _)]) d_Rf_trip_51 rfl rfl (iinc_1) (by decide) rfl ?_
        refine wp_goto (tgt := 26) d_Rf_trip_54 (by decide) ?_
        refine ih _ ?_
        rw [tput_eq]
        intro v hv
        by_cases e : v = k
        · rw [e, upd_eq, if_neg e1]
        · rw [upd_ne _ _ e]; exact hF v (by omega)
  refine wp_iconst (q := 25) d_Rf_trip_24 rfl ic_0 ?_
  refine wp_istore_n (q := 26) (L2 := [(3, _), (0, _), (1, _), (2, _)]) d_Rf_trip_25 rfl (by decide) rfl ?_
  exact l0 0 (Nat.zero_le _) z (fun v hv => absurd hv (Nat.not_lt_zero _))
set_option maxHeartbeats 4000000 in
set_option maxRecDepth 100000 in
theorem ok_Rf_trip {D : xD} {N : Nat} {l : Launch} {d : Nat} {c z : T2} {P Q : Nat → Int32} {rest : List va_E} {K : Option Value → List va_E → Prop} {a b : Int32} {nb m : Nat} (hWV : WV c P nb m) (hm : m ≤ 14400) (hT : TI c) (hK : ∀ z2 : T2, K (some (.int (sp_trip c m a b))) (encR D N c z2 P Q ++ rest)) : Ok D N l (d + 3) M_Rf_trip [.ref (N + 0), .int a, .int b] (encR D N c z P Q ++ rest) 0 0 K := by
  refine ok_of (L := [(0, _), (1, _), (2, _)]) (by decide) (Nat.le_of_ble_eq_true rfl) rfl ?_
  refine wp_iload_n (q := 1) d_Rf_trip_0 rfl rfl ?_
  refine wp_cs1 (q := 4) lk_Rf_163 (ro _ _ _) d_Rf_trip_1 rfl (Nat.le_of_ble_eq_true rfl) (Nat.zero_le _) (Nat.zero_le _) ?_
  refine ok_Rf_isStage (fun a1 ha1 e => ?_) (fun ha1 => ?_)
  · subst e
    refine wp_if_eq_f (q := 7) (tgt := 14) d_Rf_trip_4 (by decide) rfl (by decide) ?_
    refine wp_iload_n (q := 8) d_Rf_trip_7 rfl rfl ?_
    refine wp_cs1 (q := 11) lk_Rf_163 (ro _ _ _) d_Rf_trip_8 rfl (Nat.le_of_ble_eq_true rfl) (Nat.zero_le _) (Nat.zero_le _) ?_
    refine ok_Rf_isStage (fun b1 hb1 e => ?_) (fun hb1 => ?_)
    · subst e
      refine wp_if_ne_t (tgt := 16) d_Rf_trip_11 (by decide) (by decide) ?_
      refine wp_iload_n (q := 17) d_Rf_trip_16 rfl rfl ?_
      refine wp_iload_n (q := 18) d_Rf_trip_17 rfl rfl ?_
      refine wp_icmp_ne (q := 21) (tgt := 24) d_Rf_trip_18 (by decide) rfl (fun hc_18 => ?_) (fun hc_18 => ?_)
      · simp only [sp_trip, inn, btw, inn_t ha1, tnl ha1, inn_t hb1, tnl hb1, hc_18, not_true_eq_false, not_false_eq_true, or_false, false_or, or_true, true_or, and_true, true_and, and_false, false_and, or_self, and_self, if_true, if_false, ite_true, ite_false, eq_self] at hK
        exact rt_go hWV.1.1 (by omega) hT (by omega) (by omega) (fun e => hc_18 (by rw [e])) hK
      · refine wp_bipush (q := 23) d_Rf_trip_21 rfl bp_m2 ?_
        refine wp_iret d_Rf_trip_23 rfl (Nat.le_refl _) (Nat.le_refl _) ?_
        simp only [sp_trip, inn, inb, inm, btw, inn_t ha1, tnl ha1, inn_t hb1, tnl hb1, hc_18, not_true_eq_false, not_false_eq_true, or_false, false_or, or_true, true_or, and_true, true_and, and_false, false_and, or_self, and_self, if_true, if_false, ite_true, ite_false, eq_self] at hK
        first | exact hK _ | (simp (disch := omega) only [tput_eq, tput2, tput_ne, upd_eq, upd_ne, ne_eq, va_upeq, va_upne, va_up2, not_true_eq_false, not_false_eq_true, or_false, false_or, or_true, true_or, and_true, true_and, and_false, false_and, or_self, and_self, if_true, if_false, ite_true, ite_false, eq_self] at hK ⊢; exact hK _) | (simp (disch := omega) only [tput_eq, tput2, tput_ne, upd_eq, upd_ne, ne_eq, va_upeq, va_upne, va_up2, not_true_eq_false, not_false_eq_true, or_false, false_or, or_true, true_or, and_true, true_and, and_false, false_and, or_self, and_self, if_true, if_false, ite_true, ite_false, eq_self]; exact hK _) | (simp (disch := omega) only [tput_eq, tput2, tput_ne, upd_eq, upd_ne, ne_eq, va_upeq, va_upne, va_up2, not_true_eq_false, not_false_eq_true, or_false, false_or, or_true, true_or, and_true, true_and, and_false, false_and, or_self, and_self, if_true, if_false, ite_true, ite_false, eq_self] at hK; exact hK _)
    · refine wp_if_ne_f (q := 14) (tgt := 16) d_Rf_trip_11 (by decide) rfl (by decide) ?_
      refine wp_iconst (q := 15) d_Rf_trip_14 rfl ic_m1 ?_
      refine wp_iret d_Rf_trip_15 rfl (Nat.le_refl _) (Nat.le_refl _) ?_
      simp only [sp_trip, inn, inb, inm, btw, inn_t ha1, tnl ha1, hb1, not_true_eq_false, not_false_eq_true, or_false, false_or, or_true, true_or, and_true, true_and, and_false, false_and, or_self, and_self, if_true, if_false, ite_true, ite_false, eq_self] at hK
      first | exact hK _ | (simp (disch := omega) only [tput_eq, tput2, tput_ne, upd_eq, upd_ne, ne_eq, va_upeq, va_upne, va_up2, not_true_eq_false, not_false_eq_true, or_false, false_or, or_true, true_or, and_true, true_and, and_false, false_and, or_self, and_self, if_true, if_false, ite_true, ite_false, eq_self] at hK ⊢; exact hK _) | (simp (disch := omega) only [tput_eq, tput2, tput_ne, upd_eq, upd_ne, ne_eq, va_upeq, va_upne, va_up2, not_true_eq_false, not_false_eq_true, or_false, false_or, or_true, true_or, and_true, true_and, and_false, false_and, or_self, and_self, if_true, if_false, ite_true, ite_false, eq_self]; exact hK _) | (simp (disch := omega) only [tput_eq, tput2, tput_ne, upd_eq, upd_ne, ne_eq, va_upeq, va_upne, va_up2, not_true_eq_false, not_false_eq_true, or_false, false_or, or_true, true_or, and_true, true_and, and_false, false_and, or_self, and_self, if_true, if_false, ite_true, ite_false, eq_self] at hK; exact hK _)
  · refine wp_if_eq_t (tgt := 14) d_Rf_trip_4 (by decide) (by decide) ?_
    refine wp_iconst (q := 15) d_Rf_trip_14 rfl ic_m1 ?_
    refine wp_iret d_Rf_trip_15 rfl (Nat.le_refl _) (Nat.le_refl _) ?_
    simp only [sp_trip, inn, inb, inm, btw, ha1, not_true_eq_false, not_false_eq_true, or_false, false_or, or_true, true_or, and_true, true_and, and_false, false_and, or_self, and_self, if_true, if_false, ite_true, ite_false, eq_self] at hK
    first | exact hK _ | (simp (disch := omega) only [tput_eq, tput2, tput_ne, upd_eq, upd_ne, ne_eq, va_upeq, va_upne, va_up2, not_true_eq_false, not_false_eq_true, or_false, false_or, or_true, true_or, and_true, true_and, and_false, false_and, or_self, and_self, if_true, if_false, ite_true, ite_false, eq_self] at hK ⊢; exact hK _) | (simp (disch := omega) only [tput_eq, tput2, tput_ne, upd_eq, upd_ne, ne_eq, va_upeq, va_upne, va_up2, not_true_eq_false, not_false_eq_true, or_false, false_or, or_true, true_or, and_true, true_and, and_false, false_and, or_self, and_self, if_true, if_false, ite_true, ite_false, eq_self]; exact hK _) | (simp (disch := omega) only [tput_eq, tput2, tput_ne, upd_eq, upd_ne, ne_eq, va_upeq, va_upne, va_up2, not_true_eq_false, not_false_eq_true, or_false, false_or, or_true, true_or, and_true, true_and, and_false, false_and, or_self, and_self, if_true, if_false, ite_true, ite_false, eq_self] at hK; exact hK _)
