theorem wpR {D : xD} {N : Nat} {l : Launch} {E : EX} {M : MD} {R : Room} {Qf : QF} {k n pc : Nat} {L : List (Nat × Value)} {st : List Value} {c z : T2} {P1 P2 Q : Nat → Int32} {rest : List va_E} (h : Wp D N l E M R Qf k n pc L st (encR D N c z P1 Q ++ rest)) (e : P1 = P2) : Wp D N l E M R Qf k n pc L st (encR D N c z P2 Q ++ rest) := by rw [← e]; exact h
theorem wpC {D : xD} {N : Nat} {l : Launch} {E : EX} {M : MD} {R : Room} {Qf : QF} {k n pc : Nat} {L : List (Nat × Value)} {st : List Value} {c x V : T2} {ln df : Nat → Option Nat} {w : Nat} {P1 P2 : Nat → Int32} {rest : List va_E} (h : Wp D N l E M R Qf k n pc L st (encC D N c x (va_up V w P1) ln df ++ rest)) (e : P1 = P2) : Wp D N l E M R Qf k n pc L st (encC D N c x (va_up V w P2) ln df ++ rest) := by rw [← e]; exact h
theorem add_0 (x : Int32) : x + nI 0 = x := by rw [nI_0]; exact Int32.add_zero x
def cmW (c : T2) (P : Nat → Int32) (k : Nat) : Nat := tn (P k) + (tn (P (36 + k)) + tn (c 3 k)) / 100
def cmK (c : T2) (P : Nat → Int32) (m k : Nat) : Nat := if m % 10 = 9 then (if P 235 = nI 1 then cmW c P k / 50 else cmW c P k / 10) else 0
def cm1 (c : T2) (P : Nat → Int32) (m k : Nat) : Nat → Int32 := upd (upd (upd P (36 + k) (nI ((tn (P (36 + k)) + tn (c 3 k)) % 100))) k (nI (cmW c P k - cmK c P m k))) 236 (P 236 + nI (cmK c P m k))
def cmN (c : T2) (P : Nat → Int32) (m : Nat) : Nat → (Nat → Int32)
  | 0 => P
  | k + 1 => cm1 c (cmN c P m k) m k
theorem cmN_at {c : T2} {P : Nat → Int32} {m : Nat} : ∀ {k i : Nat}, k ≤ 36 → (k ≤ i ∧ i < 36 ∨ 36 + k ≤ i ∧ i ≠ 236) → cmN c P m k i = P i
  | 0, i, _, _ => rfl
  | k + 1, i, hk, h => by
    rw [cmN, cm1, upd_ne _ _ (by omega), upd_ne _ _ (by omega), upd_ne _ _ (by omega)]
    exact cmN_at (by omega) (by omega)
theorem d_Rf_come_0 : decode M_Rf_come.2.1 0 = .ok (.iconst 0, 1) := by decide +kernel
theorem d_Rf_come_1 : decode M_Rf_come.2.1 1 = .ok (.istore_n 1, 1) := by decide +kernel
theorem d_Rf_come_2 : decode M_Rf_come.2.1 2 = .ok (.iload_n 1, 1) := by decide +kernel
theorem d_Rf_come_3 : decode M_Rf_come.2.1 3 = .ok (.bipush 36, 2) := by decide +kernel
theorem d_Rf_come_5 : decode M_Rf_come.2.1 5 = .ok (.if_icmp .ge 144, 3) := by decide +kernel
theorem d_Rf_come_8 : decode M_Rf_come.2.1 8 = .ok (.aload_n 0, 1) := by decide +kernel
theorem d_Rf_come_9 : decode M_Rf_come.2.1 9 = .ok (.getfield 7, 3) := by decide +kernel
theorem d_Rf_come_12 : decode M_Rf_come.2.1 12 = .ok (.bipush 36, 2) := by decide +kernel
theorem d_Rf_come_14 : decode M_Rf_come.2.1 14 = .ok (.iload_n 1, 1) := by decide +kernel
theorem d_Rf_come_15 : decode M_Rf_come.2.1 15 = .ok (.iadd, 1) := by decide +kernel
theorem d_Rf_come_16 : decode M_Rf_come.2.1 16 = .ok (.dup2, 1) := by decide +kernel
theorem d_Rf_come_17 : decode M_Rf_come.2.1 17 = .ok (.iaload, 1) := by decide +kernel
theorem d_Rf_come_18 : decode M_Rf_come.2.1 18 = .ok (.aload_n 0, 1) := by decide +kernel
theorem d_Rf_come_19 : decode M_Rf_come.2.1 19 = .ok (.getfield 22, 3) := by decide +kernel
theorem d_Rf_come_22 : decode M_Rf_come.2.1 22 = .ok (.iload_n 1, 1) := by decide +kernel
theorem d_Rf_come_23 : decode M_Rf_come.2.1 23 = .ok (.iaload, 1) := by decide +kernel
theorem d_Rf_come_24 : decode M_Rf_come.2.1 24 = .ok (.iadd, 1) := by decide +kernel
theorem d_Rf_come_25 : decode M_Rf_come.2.1 25 = .ok (.iastore, 1) := by decide +kernel
theorem d_Rf_come_26 : decode M_Rf_come.2.1 26 = .ok (.aload_n 0, 1) := by decide +kernel
theorem d_Rf_come_27 : decode M_Rf_come.2.1 27 = .ok (.getfield 7, 3) := by decide +kernel
theorem d_Rf_come_30 : decode M_Rf_come.2.1 30 = .ok (.iconst 0, 1) := by decide +kernel
theorem d_Rf_come_31 : decode M_Rf_come.2.1 31 = .ok (.iload_n 1, 1) := by decide +kernel
theorem d_Rf_come_32 : decode M_Rf_come.2.1 32 = .ok (.iadd, 1) := by decide +kernel
theorem d_Rf_come_33 : decode M_Rf_come.2.1 33 = .ok (.dup2, 1) := by decide +kernel
theorem d_Rf_come_34 : decode M_Rf_come.2.1 34 = .ok (.iaload, 1) := by decide +kernel
theorem d_Rf_come_35 : decode M_Rf_come.2.1 35 = .ok (.aload_n 0, 1) := by decide +kernel
theorem d_Rf_come_36 : decode M_Rf_come.2.1 36 = .ok (.getfield 7, 3) := by decide +kernel
theorem d_Rf_come_39 : decode M_Rf_come.2.1 39 = .ok (.bipush 36, 2) := by decide +kernel
theorem d_Rf_come_41 : decode M_Rf_come.2.1 41 = .ok (.iload_n 1, 1) := by decide +kernel
theorem d_Rf_come_42 : decode M_Rf_come.2.1 42 = .ok (.iadd, 1) := by decide +kernel
theorem d_Rf_come_43 : decode M_Rf_come.2.1 43 = .ok (.iaload, 1) := by decide +kernel
theorem d_Rf_come_44 : decode M_Rf_come.2.1 44 = .ok (.bipush 100, 2) := by decide +kernel
theorem d_Rf_come_46 : decode M_Rf_come.2.1 46 = .ok (.idiv, 1) := by decide +kernel
theorem d_Rf_come_47 : decode M_Rf_come.2.1 47 = .ok (.iadd, 1) := by decide +kernel
theorem d_Rf_come_48 : decode M_Rf_come.2.1 48 = .ok (.iastore, 1) := by decide +kernel
theorem d_Rf_come_49 : decode M_Rf_come.2.1 49 = .ok (.aload_n 0, 1) := by decide +kernel
theorem d_Rf_come_50 : decode M_Rf_come.2.1 50 = .ok (.getfield 7, 3) := by decide +kernel
theorem d_Rf_come_53 : decode M_Rf_come.2.1 53 = .ok (.bipush 36, 2) := by decide +kernel
theorem d_Rf_come_55 : decode M_Rf_come.2.1 55 = .ok (.iload_n 1, 1) := by decide +kernel
theorem d_Rf_come_56 : decode M_Rf_come.2.1 56 = .ok (.iadd, 1) := by decide +kernel
theorem d_Rf_come_57 : decode M_Rf_come.2.1 57 = .ok (.dup2, 1) := by decide +kernel
theorem d_Rf_come_58 : decode M_Rf_come.2.1 58 = .ok (.iaload, 1) := by decide +kernel
theorem d_Rf_come_59 : decode M_Rf_come.2.1 59 = .ok (.bipush 100, 2) := by decide +kernel
theorem d_Rf_come_61 : decode M_Rf_come.2.1 61 = .ok (.irem, 1) := by decide +kernel
theorem d_Rf_come_62 : decode M_Rf_come.2.1 62 = .ok (.iastore, 1) := by decide +kernel
theorem d_Rf_come_63 : decode M_Rf_come.2.1 63 = .ok (.aload_n 0, 1) := by decide +kernel
theorem d_Rf_come_64 : decode M_Rf_come.2.1 64 = .ok (.getfield 7, 3) := by decide +kernel
theorem d_Rf_come_67 : decode M_Rf_come.2.1 67 = .ok (.sipush 234, 3) := by decide +kernel
theorem d_Rf_come_70 : decode M_Rf_come.2.1 70 = .ok (.iaload, 1) := by decide +kernel
theorem d_Rf_come_71 : decode M_Rf_come.2.1 71 = .ok (.bipush 10, 2) := by decide +kernel
theorem d_Rf_come_73 : decode M_Rf_come.2.1 73 = .ok (.irem, 1) := by decide +kernel
theorem d_Rf_come_74 : decode M_Rf_come.2.1 74 = .ok (.bipush 9, 2) := by decide +kernel
theorem d_Rf_come_76 : decode M_Rf_come.2.1 76 = .ok (.if_icmp .ne 67, 3) := by decide +kernel
theorem d_Rf_come_79 : decode M_Rf_come.2.1 79 = .ok (.aload_n 0, 1) := by decide +kernel
theorem d_Rf_come_80 : decode M_Rf_come.2.1 80 = .ok (.getfield 7, 3) := by decide +kernel
theorem d_Rf_come_83 : decode M_Rf_come.2.1 83 = .ok (.sipush 235, 3) := by decide +kernel
theorem d_Rf_come_86 : decode M_Rf_come.2.1 86 = .ok (.iaload, 1) := by decide +kernel
theorem d_Rf_come_87 : decode M_Rf_come.2.1 87 = .ok (.iconst 1, 1) := by decide +kernel
theorem d_Rf_come_88 : decode M_Rf_come.2.1 88 = .ok (.if_icmp .ne 19, 3) := by decide +kernel
theorem d_Rf_come_91 : decode M_Rf_come.2.1 91 = .ok (.aload_n 0, 1) := by decide +kernel
theorem d_Rf_come_92 : decode M_Rf_come.2.1 92 = .ok (.getfield 7, 3) := by decide +kernel
theorem d_Rf_come_95 : decode M_Rf_come.2.1 95 = .ok (.iconst 0, 1) := by decide +kernel
theorem d_Rf_come_96 : decode M_Rf_come.2.1 96 = .ok (.iload_n 1, 1) := by decide +kernel
theorem d_Rf_come_97 : decode M_Rf_come.2.1 97 = .ok (.iadd, 1) := by decide +kernel
theorem d_Rf_come_98 : decode M_Rf_come.2.1 98 = .ok (.iaload, 1) := by decide +kernel
theorem d_Rf_come_99 : decode M_Rf_come.2.1 99 = .ok (.iconst 2, 1) := by decide +kernel
theorem d_Rf_come_100 : decode M_Rf_come.2.1 100 = .ok (.imul, 1) := by decide +kernel
theorem d_Rf_come_101 : decode M_Rf_come.2.1 101 = .ok (.bipush 100, 2) := by decide +kernel
theorem d_Rf_come_103 : decode M_Rf_come.2.1 103 = .ok (.idiv, 1) := by decide +kernel
theorem d_Rf_come_104 : decode M_Rf_come.2.1 104 = .ok (.goto 14, 3) := by decide +kernel
theorem d_Rf_come_107 : decode M_Rf_come.2.1 107 = .ok (.aload_n 0, 1) := by decide +kernel
theorem d_Rf_come_108 : decode M_Rf_come.2.1 108 = .ok (.getfield 7, 3) := by decide +kernel
theorem d_Rf_come_111 : decode M_Rf_come.2.1 111 = .ok (.iconst 0, 1) := by decide +kernel
theorem d_Rf_come_112 : decode M_Rf_come.2.1 112 = .ok (.iload_n 1, 1) := by decide +kernel
theorem d_Rf_come_113 : decode M_Rf_come.2.1 113 = .ok (.iadd, 1) := by decide +kernel
theorem d_Rf_come_114 : decode M_Rf_come.2.1 114 = .ok (.iaload, 1) := by decide +kernel
theorem d_Rf_come_115 : decode M_Rf_come.2.1 115 = .ok (.bipush 10, 2) := by decide +kernel
theorem d_Rf_come_117 : decode M_Rf_come.2.1 117 = .ok (.idiv, 1) := by decide +kernel
theorem d_Rf_come_118 : decode M_Rf_come.2.1 118 = .ok (.istore_n 2, 1) := by decide +kernel
theorem d_Rf_come_119 : decode M_Rf_come.2.1 119 = .ok (.aload_n 0, 1) := by decide +kernel
theorem d_Rf_come_120 : decode M_Rf_come.2.1 120 = .ok (.getfield 7, 3) := by decide +kernel
theorem d_Rf_come_123 : decode M_Rf_come.2.1 123 = .ok (.iconst 0, 1) := by decide +kernel
theorem d_Rf_come_124 : decode M_Rf_come.2.1 124 = .ok (.iload_n 1, 1) := by decide +kernel
theorem d_Rf_come_125 : decode M_Rf_come.2.1 125 = .ok (.iadd, 1) := by decide +kernel
theorem d_Rf_come_126 : decode M_Rf_come.2.1 126 = .ok (.dup2, 1) := by decide +kernel
theorem d_Rf_come_127 : decode M_Rf_come.2.1 127 = .ok (.iaload, 1) := by decide +kernel
theorem d_Rf_come_128 : decode M_Rf_come.2.1 128 = .ok (.iload_n 2, 1) := by decide +kernel
theorem d_Rf_come_129 : decode M_Rf_come.2.1 129 = .ok (.isub, 1) := by decide +kernel
theorem d_Rf_come_130 : decode M_Rf_come.2.1 130 = .ok (.iastore, 1) := by decide +kernel
theorem d_Rf_come_131 : decode M_Rf_come.2.1 131 = .ok (.aload_n 0, 1) := by decide +kernel
theorem d_Rf_come_132 : decode M_Rf_come.2.1 132 = .ok (.getfield 7, 3) := by decide +kernel
theorem d_Rf_come_135 : decode M_Rf_come.2.1 135 = .ok (.sipush 236, 3) := by decide +kernel
theorem d_Rf_come_138 : decode M_Rf_come.2.1 138 = .ok (.dup2, 1) := by decide +kernel
theorem d_Rf_come_139 : decode M_Rf_come.2.1 139 = .ok (.iaload, 1) := by decide +kernel
theorem d_Rf_come_140 : decode M_Rf_come.2.1 140 = .ok (.iload_n 2, 1) := by decide +kernel
theorem d_Rf_come_141 : decode M_Rf_come.2.1 141 = .ok (.iadd, 1) := by decide +kernel
theorem d_Rf_come_142 : decode M_Rf_come.2.1 142 = .ok (.iastore, 1) := by decide +kernel
theorem d_Rf_come_143 : decode M_Rf_come.2.1 143 = .ok (.iinc 1 1, 3) := by decide +kernel
theorem d_Rf_come_146 : decode M_Rf_come.2.1 146 = .ok (.goto (-144), 3) := by decide +kernel
theorem d_Rf_come_149 : decode M_Rf_come.2.1 149 = .ok (.return_, 1) := by decide +kernel
set_option maxHeartbeats 4000000 in
set_option maxRecDepth 100000 in
theorem ok_Rf_come {D : xD} {N : Nat} {l : Launch} {d : Nat} {c z : T2} {P Q : Nat → Int32} {rest : List va_E} {K : Option Value → List va_E → Prop} {m : Nat} (em : P 234 = nI m) (hm : m < 14700) (hc : ∀ k, k < 36 → isN (P k) 600) (hp : ∀ k, k < 36 → isN (P (36 + k)) 100) (hr : ∀ k, k < 36 → isN (c 3 k) 100) (hK : K none (encR D N c z (cmN c P m 36) Q ++ rest)) : Ok D N l d M_Rf_come [.ref (N + 0)] (encR D N c z P Q ++ rest) 0 0 K := by
  have lp : ∀ k : Nat, k ≤ 36 → Wp D N l (EI M_Rf_come) M_Rf_come (Rm d 0 0) (Qm D N K 0 0) 0 0 2 [(1, .int (nI k)), (0, .ref (N + 0))] [] (encR D N c z (cmN c P m k) Q ++ rest) := by
    refine up_loop ?_ ?_
    · skip
      refine wp_iload_n (q := 3) d_Rf_come_2 rfl rfl ?_
      refine wp_bipush (q := 5) d_Rf_come_3 rfl bp_36 ?_
      refine wp_icmp_ge_t (tgt := 149) d_Rf_come_5 (by decide) (nI_le (Nat.le_refl _) (by decide)) ?_
      refine wp_vret d_Rf_come_149 rfl (Nat.le_refl _) (Nat.le_refl _) ?_
      exact hK
    · intro k hk ih
      rw [cmN] at ih
      obtain ⟨e1, l1⟩ := hc k hk
      obtain ⟨e2, l2⟩ := hp k hk
      obtain ⟨e3, l3⟩ := hr k hk
      have f1 : cmN c P m k k = nI (tn (P k)) := by rw [cmN_at (by omega) (by omega)]; exact e1
      have f2 : cmN c P m k (36 + k) = nI (tn (P (36 + k))) := by rw [cmN_at (by omega) (by omega)]; exact e2
      have f4 : cmN c P m k 234 = nI m := by rw [cmN_at (by omega) (by omega)]; exact em
      generalize tn (P k) = u1 at f1 l1
      generalize tn (P (36 + k)) = u2 at f2 l2
      generalize hu3 : tn (c 3 k) = u3 at e3 l3
      generalize cmN c P m k = P' at ih f1 f2 f4 ⊢
      refine wp_iload_n (q := 3) d_Rf_come_2 rfl rfl ?_
      refine wp_bipush (q := 5) d_Rf_come_3 rfl bp_36 ?_
      refine wp_icmp_ge_f (q := 8) (tgt := 149) d_Rf_come_5 (by decide) rfl (nI_ge hk (by decide)) ?_
      refine wp_aload_n (q := 9) d_Rf_come_8 rfl rfl ?_
      refine wp_get (q := 12) fl_Rf_7 d_Rf_come_9 rfl rfl rfl ?_
      refine wp_bipush (q := 14) d_Rf_come_12 rfl bp_36 ?_
      refine wp_iload_n (q := 15) d_Rf_come_14 rfl rfl ?_
      first | refine wp_iaddN (q := 16) d_Rf_come_15 rfl ?_ | refine wp_iadd (q := 16) d_Rf_come_15 rfl ?_
      refine wp_dup2 (q := 17) d_Rf_come_16 rfl rfl rfl ?_
      refine wp_iald (q := 18) d_Rf_come_17 rfl (rfl) (by omega) (by decide) ?_
      rw [f2]
      refine wp_aload_n (q := 19) d_Rf_come_18 rfl rfl ?_
      refine wp_get (q := 22) fl_Rf_22 d_Rf_come_19 rfl rfl rfl ?_
      refine wp_iload_n (q := 23) d_Rf_come_22 rfl rfl ?_
      refine wp_iald (q := 24) d_Rf_come_23 rfl (rfl) (by omega) (by decide) ?_
      rw [e3]
      first | refine wp_iaddN (q := 25) d_Rf_come_24 rfl ?_ | refine wp_iadd (q := 25) d_Rf_come_24 rfl ?_
      refine wp_iast (q := 26) d_Rf_come_25 rfl (rfl) (by omega) (by decide) (fr_P) ?_
      refine wp_aload_n (q := 27) d_Rf_come_26 rfl rfl ?_
      refine wp_get (q := 30) fl_Rf_7 d_Rf_come_27 rfl rfl rfl ?_
      refine wp_iconst (q := 31) d_Rf_come_30 rfl ic_0 ?_
      refine wp_iload_n (q := 32) d_Rf_come_31 rfl rfl ?_
      first | refine wp_iaddN (q := 33) d_Rf_come_32 rfl ?_ | refine wp_iadd (q := 33) d_Rf_come_32 rfl ?_
      rw [Nat.zero_add]
      refine wp_dup2 (q := 34) d_Rf_come_33 rfl rfl rfl ?_
      refine wp_iald (q := 35) d_Rf_come_34 rfl (rfl) (by omega) (by decide) ?_
      simp (disch := omega) only [upd_ne, upd_eq]
      rw [f1]
      refine wp_aload_n (q := 36) d_Rf_come_35 rfl rfl ?_
      refine wp_get (q := 39) fl_Rf_7 d_Rf_come_36 rfl rfl rfl ?_
      refine wp_bipush (q := 41) d_Rf_come_39 rfl bp_36 ?_
      refine wp_iload_n (q := 42) d_Rf_come_41 rfl rfl ?_
      first | refine wp_iaddN (q := 43) d_Rf_come_42 rfl ?_ | refine wp_iadd (q := 43) d_Rf_come_42 rfl ?_
      refine wp_iald (q := 44) d_Rf_come_43 rfl (rfl) (by omega) (by decide) ?_
      simp (disch := omega) only [upd_ne, upd_eq]
      refine wp_bipush (q := 46) d_Rf_come_44 rfl bp_100 ?_
      refine wp_idivN (q := 47) d_Rf_come_46 rfl (by omega) (by decide) (by decide) ?_
      first | refine wp_iaddN (q := 48) d_Rf_come_47 rfl ?_ | refine wp_iadd (q := 48) d_Rf_come_47 rfl ?_
      refine wp_iast (q := 49) d_Rf_come_48 rfl (rfl) (by omega) (by decide) (fr_P) ?_
      refine wp_aload_n (q := 50) d_Rf_come_49 rfl rfl ?_
      refine wp_get (q := 53) fl_Rf_7 d_Rf_come_50 rfl rfl rfl ?_
      refine wp_bipush (q := 55) d_Rf_come_53 rfl bp_36 ?_
      refine wp_iload_n (q := 56) d_Rf_come_55 rfl rfl ?_
      first | refine wp_iaddN (q := 57) d_Rf_come_56 rfl ?_ | refine wp_iadd (q := 57) d_Rf_come_56 rfl ?_
      refine wp_dup2 (q := 58) d_Rf_come_57 rfl rfl rfl ?_
      refine wp_iald (q := 59) d_Rf_come_58 rfl (rfl) (by omega) (by decide) ?_
      simp (disch := omega) only [upd_ne, upd_eq]
      refine wp_bipush (q := 61) d_Rf_come_59 rfl bp_100 ?_
      refine wp_iremN (q := 62) d_Rf_come_61 rfl (by omega) (by decide) (by decide) ?_
      refine wp_iast (q := 63) d_Rf_come_62 rfl (rfl) (by omega) (by decide) (fr_P) ?_
      refine wp_aload_n (q := 64) d_Rf_come_63 rfl rfl ?_
      refine wp_get (q := 67) fl_Rf_7 d_Rf_come_64 rfl rfl rfl ?_
      refine wp_sipush (q := 70) d_Rf_come_67 rfl sp_234 ?_
      refine wp_iald (q := 71) d_Rf_come_70 rfl (rfl) (by omega) (by decide) ?_
      simp (disch := omega) only [upd_ne, upd_eq]
      rw [f4]
      refine wp_bipush (q := 73) d_Rf_come_71 rfl bp_10 ?_
      refine wp_iremN (q := 74) d_Rf_come_73 rfl (by omega) (by decide) (by decide) ?_
      refine wp_bipush (q := 76) d_Rf_come_74 rfl bp_9 ?_
      refine wp_icmp_ne (q := 79) (tgt := 143) d_Rf_come_76 (by decide) rfl (fun hc_76 => ?_) (fun hc_76 => ?_)
      · have h9 : ¬ m % 10 = 9 := fun z => hc_76 (by rw [z])
        refine wp_iinc (q := 146) (L2 := [(1, _), (0, _)]) d_Rf_come_143 rfl rfl (iinc_1) (by decide) rfl ?_
        refine wp_goto (tgt := 2) d_Rf_come_146 (by decide) ?_
        first
          | (refine wpR ih ?_
             rw [cm1, cmW, cmK, if_neg h9, f1, f2, hu3, tnt l1, tnt l2, add_0, Nat.sub_zero]
             try simp (disch := omega) only [upd_ne, upd_eq]
             funext i; simp only [upd]; repeat' split
             all_goals first | rfl | omega | (subst_vars; rfl) | (congr 1; omega))
          | (refine wpR ih ?_
             rw [cm1, cmW, cmK, if_pos h9, if_neg hc_88, cmW, f1, f2, hu3, tnt l1, tnt l2]
             try simp (disch := omega) only [upd_ne, upd_eq]
             funext i; simp only [upd]; repeat' split
             all_goals first | rfl | omega | (congr 1; omega))
          | (refine wpR ih ?_
             rw [cm1, cmW, cmK, if_pos h9, if_pos hc_88, cmW, f1, f2, hu3, tnt l1, tnt l2]
             try simp (disch := omega) only [upd_ne, upd_eq]
             rw [show 2 * (u1 + (u2 + u3) / 100) / 100 = (u1 + (u2 + u3) / 100) / 50 by omega]
             funext i; simp only [upd]; repeat' split
             all_goals first | rfl | omega | (congr 1; omega))
      · have h9 : m % 10 = 9 := (nI_eq (by omega) (by decide)).mp hc_76
        refine wp_aload_n (q := 80) d_Rf_come_79 rfl rfl ?_
        refine wp_get (q := 83) fl_Rf_7 d_Rf_come_80 rfl rfl rfl ?_
        refine wp_sipush (q := 86) d_Rf_come_83 rfl sp_235 ?_
        refine wp_iald (q := 87) d_Rf_come_86 rfl (rfl) (by omega) (by decide) ?_
        simp (disch := omega) only [upd_ne, upd_eq]
        refine wp_iconst (q := 88) d_Rf_come_87 rfl ic_1 ?_
        refine wp_icmp_ne (q := 91) (tgt := 107) d_Rf_come_88 (by decide) rfl (fun hc_88 => ?_) (fun hc_88 => ?_)
        · refine wp_aload_n (q := 108) d_Rf_come_107 rfl rfl ?_
          refine wp_get (q := 111) fl_Rf_7 d_Rf_come_108 rfl rfl rfl ?_
          refine wp_iconst (q := 112) d_Rf_come_111 rfl ic_0 ?_
          refine wp_iload_n (q := 113) d_Rf_come_112 rfl rfl ?_
          first | refine wp_iaddN (q := 114) d_Rf_come_113 rfl ?_ | refine wp_iadd (q := 114) d_Rf_come_113 rfl ?_
          rw [Nat.zero_add]
          refine wp_iald (q := 115) d_Rf_come_114 rfl (rfl) (by omega) (by decide) ?_
          simp (disch := omega) only [upd_ne, upd_eq]
          refine wp_bipush (q := 117) d_Rf_come_115 rfl bp_10 ?_
          refine wp_idivN (q := 118) d_Rf_come_117 rfl (by omega) (by decide) (by decide) ?_
          refine wp_istore_n (q := 119) (L2 := [(2, _), (1, _), (0, _)]) d_Rf_come_118 rfl (by decide) rfl ?_
          refine wp_aload_n (q := 120) d_Rf_come_119 rfl rfl ?_
          refine wp_get (q := 123) fl_Rf_7 d_Rf_come_120 rfl rfl rfl ?_
          refine wp_iconst (q := 124) d_Rf_come_123 rfl ic_0 ?_
          refine wp_iload_n (q := 125) d_Rf_come_124 rfl rfl ?_
          first | refine wp_iaddN (q := 126) d_Rf_come_125 rfl ?_ | refine wp_iadd (q := 126) d_Rf_come_125 rfl ?_
          rw [Nat.zero_add]
          refine wp_dup2 (q := 127) d_Rf_come_126 rfl rfl rfl ?_
          refine wp_iald (q := 128) d_Rf_come_127 rfl (rfl) (by omega) (by decide) ?_
          simp (disch := omega) only [upd_ne, upd_eq]
          refine wp_iload_n (q := 129) d_Rf_come_128 rfl rfl ?_
          refine wp_isubN (q := 130) d_Rf_come_129 rfl (by omega) ?_
          refine wp_iast (q := 131) d_Rf_come_130 rfl (rfl) (by omega) (by decide) (fr_P) ?_
          refine wp_aload_n (q := 132) d_Rf_come_131 rfl rfl ?_
          refine wp_get (q := 135) fl_Rf_7 d_Rf_come_132 rfl rfl rfl ?_
          refine wp_sipush (q := 138) d_Rf_come_135 rfl sp_236 ?_
          refine wp_dup2 (q := 139) d_Rf_come_138 rfl rfl rfl ?_
          refine wp_iald (q := 140) d_Rf_come_139 rfl (rfl) (by omega) (by decide) ?_
          refine wp_iload_n (q := 141) d_Rf_come_140 rfl rfl ?_
          first | refine wp_iaddN (q := 142) d_Rf_come_141 rfl ?_ | refine wp_iadd (q := 142) d_Rf_come_141 rfl ?_
          refine wp_iast (q := 143) d_Rf_come_142 rfl (rfl) (by omega) (by decide) (fr_P) ?_
          refine wp_iinc (q := 146) (L2 := [(1, _), (2, _), (0, _)]) d_Rf_come_143 rfl rfl (iinc_1) (by decide) rfl ?_
          refine wp_goto (tgt := 2) d_Rf_come_146 (by decide) ?_
          refine wp_sub [0, 2] rfl ?_
          first
            | (refine wpR ih ?_
               rw [cm1, cmW, cmK, if_neg h9, f1, f2, hu3, tnt l1, tnt l2, add_0, Nat.sub_zero]
               try simp (disch := omega) only [upd_ne, upd_eq]
               funext i; simp only [upd]; repeat' split
               all_goals first | rfl | omega | (subst_vars; rfl) | (congr 1; omega))
            | (refine wpR ih ?_
               rw [cm1, cmW, cmK, if_pos h9, if_neg hc_88, cmW, f1, f2, hu3, tnt l1, tnt l2]
               try simp (disch := omega) only [upd_ne, upd_eq]
               funext i; simp only [upd]; repeat' split
               all_goals first | rfl | omega | (congr 1; omega))
            | (refine wpR ih ?_
               rw [cm1, cmW, cmK, if_pos h9, if_pos hc_88, cmW, f1, f2, hu3, tnt l1, tnt l2]
               try simp (disch := omega) only [upd_ne, upd_eq]
               rw [show 2 * (u1 + (u2 + u3) / 100) / 100 = (u1 + (u2 + u3) / 100) / 50 by omega]
               funext i; simp only [upd]; repeat' split
               all_goals first | rfl | omega | (congr 1; omega))
        · refine wp_aload_n (q := 92) d_Rf_come_91 rfl rfl ?_
          refine wp_get (q := 95) fl_Rf_7 d_Rf_come_92 rfl rfl rfl ?_
          refine wp_iconst (q := 96) d_Rf_come_95 rfl ic_0 ?_
          refine wp_iload_n (q := 97) d_Rf_come_96 rfl rfl ?_
          first | refine wp_iaddN (q := 98) d_Rf_come_97 rfl ?_ | refine wp_iadd (q := 98) d_Rf_come_97 rfl ?_
          rw [Nat.zero_add]
          refine wp_iald (q := 99) d_Rf_come_98 rfl (rfl) (by omega) (by decide) ?_
          simp (disch := omega) only [upd_ne, upd_eq]
          refine wp_iconst (q := 100) d_Rf_come_99 rfl ic_2 ?_
          first | refine wp_imulC (q := 101) d_Rf_come_100 rfl ?_ | refine wp_imul (q := 101) d_Rf_come_100 rfl ?_
          refine wp_bipush (q := 103) d_Rf_come_101 rfl bp_100 ?_
          refine wp_idivN (q := 104) d_Rf_come_103 rfl (by omega) (by decide) (by decide) ?_
          refine wp_goto (tgt := 118) d_Rf_come_104 (by decide) ?_
          refine wp_istore_n (q := 119) (L2 := [(2, _), (1, _), (0, _)]) d_Rf_come_118 rfl (by decide) rfl ?_
          refine wp_aload_n (q := 120) d_Rf_come_119 rfl rfl ?_
          refine wp_get (q := 123) fl_Rf_7 d_Rf_come_120 rfl rfl rfl ?_
          refine wp_iconst (q := 124) d_Rf_come_123 rfl ic_0 ?_
          refine wp_iload_n (q := 125) d_Rf_come_124 rfl rfl ?_
          first | refine wp_iaddN (q := 126) d_Rf_come_125 rfl ?_ | refine wp_iadd (q := 126) d_Rf_come_125 rfl ?_
          rw [Nat.zero_add]
          refine wp_dup2 (q := 127) d_Rf_come_126 rfl rfl rfl ?_
          refine wp_iald (q := 128) d_Rf_come_127 rfl (rfl) (by omega) (by decide) ?_
          simp (disch := omega) only [upd_ne, upd_eq]
          refine wp_iload_n (q := 129) d_Rf_come_128 rfl rfl ?_
          refine wp_isubN (q := 130) d_Rf_come_129 rfl (by omega) ?_
          refine wp_iast (q := 131) d_Rf_come_130 rfl (rfl) (by omega) (by decide) (fr_P) ?_
          refine wp_aload_n (q := 132) d_Rf_come_131 rfl rfl ?_
          refine wp_get (q := 135) fl_Rf_7 d_Rf_come_132 rfl rfl rfl ?_
          refine wp_sipush (q := 138) d_Rf_come_135 rfl sp_236 ?_
          refine wp_dup2 (q := 139) d_Rf_come_138 rfl rfl rfl ?_
          refine wp_iald (q := 140) d_Rf_come_139 rfl (rfl) (by omega) (by decide) ?_
          refine wp_iload_n (q := 141) d_Rf_come_140 rfl rfl ?_
          first | refine wp_iaddN (q := 142) d_Rf_come_141 rfl ?_ | refine wp_iadd (q := 142) d_Rf_come_141 rfl ?_
          refine wp_iast (q := 143) d_Rf_come_142 rfl (rfl) (by omega) (by decide) (fr_P) ?_
          refine wp_iinc (q := 146) (L2 := [(1, _), (2, _), (0, _)]) d_Rf_come_143 rfl rfl (iinc_1) (by decide) rfl ?_
          refine wp_goto (tgt := 2) d_Rf_come_146 (by decide) ?_
          refine wp_sub [0, 2] rfl ?_
          first
            | (refine wpR ih ?_
               rw [cm1, cmW, cmK, if_neg h9, f1, f2, hu3, tnt l1, tnt l2, add_0, Nat.sub_zero]
               try simp (disch := omega) only [upd_ne, upd_eq]
               funext i; simp only [upd]; repeat' split
               all_goals first | rfl | omega | (subst_vars; rfl) | (congr 1; omega))
            | (refine wpR ih ?_
               rw [cm1, cmW, cmK, if_pos h9, if_neg hc_88, cmW, f1, f2, hu3, tnt l1, tnt l2]
               try simp (disch := omega) only [upd_ne, upd_eq]
               funext i; simp only [upd]; repeat' split
               all_goals first | rfl | omega | (congr 1; omega))
            | (refine wpR ih ?_
               rw [cm1, cmW, cmK, if_pos h9, if_pos hc_88, cmW, f1, f2, hu3, tnt l1, tnt l2]
               try simp (disch := omega) only [upd_ne, upd_eq]
               rw [show 2 * (u1 + (u2 + u3) / 100) / 100 = (u1 + (u2 + u3) / 100) / 50 by omega]
               funext i; simp only [upd]; repeat' split
               all_goals first | rfl | omega | (congr 1; omega))
  refine ok_of (L := [(0, _)]) (by decide) (Nat.le_of_ble_eq_true rfl) rfl ?_
  refine wp_iconst (q := 1) d_Rf_come_0 rfl ic_0 ?_
  refine wp_istore_n (q := 2) (L2 := [(1, _), (0, _)]) d_Rf_come_1 rfl (by decide) rfl ?_
  exact lp 0 (Nat.zero_le _)
theorem d_Tn_comeAndWalk_0 : decode M_Tn_comeAndWalk.2.1 0 = .ok (.iconst 0, 1) := by decide +kernel
theorem d_Tn_comeAndWalk_1 : decode M_Tn_comeAndWalk.2.1 1 = .ok (.istore_n 2, 1) := by decide +kernel
theorem d_Tn_comeAndWalk_2 : decode M_Tn_comeAndWalk.2.1 2 = .ok (.iload_n 2, 1) := by decide +kernel
theorem d_Tn_comeAndWalk_3 : decode M_Tn_comeAndWalk.2.1 3 = .ok (.bipush 36, 2) := by decide +kernel
theorem d_Tn_comeAndWalk_5 : decode M_Tn_comeAndWalk.2.1 5 = .ok (.if_icmp .ge 114, 3) := by decide +kernel
theorem d_Tn_comeAndWalk_8 : decode M_Tn_comeAndWalk.2.1 8 = .ok (.aload_n 1, 1) := by decide +kernel
theorem d_Tn_comeAndWalk_9 : decode M_Tn_comeAndWalk.2.1 9 = .ok (.getfield 169, 3) := by decide +kernel
theorem d_Tn_comeAndWalk_12 : decode M_Tn_comeAndWalk.2.1 12 = .ok (.iload_n 2, 1) := by decide +kernel
theorem d_Tn_comeAndWalk_13 : decode M_Tn_comeAndWalk.2.1 13 = .ok (.iaload, 1) := by decide +kernel
theorem d_Tn_comeAndWalk_14 : decode M_Tn_comeAndWalk.2.1 14 = .ok (.aload_n 0, 1) := by decide +kernel
theorem d_Tn_comeAndWalk_15 : decode M_Tn_comeAndWalk.2.1 15 = .ok (.getfield 15, 3) := by decide +kernel
theorem d_Tn_comeAndWalk_18 : decode M_Tn_comeAndWalk.2.1 18 = .ok (.iload_n 2, 1) := by decide +kernel
theorem d_Tn_comeAndWalk_19 : decode M_Tn_comeAndWalk.2.1 19 = .ok (.iaload, 1) := by decide +kernel
theorem d_Tn_comeAndWalk_20 : decode M_Tn_comeAndWalk.2.1 20 = .ok (.iadd, 1) := by decide +kernel
theorem d_Tn_comeAndWalk_21 : decode M_Tn_comeAndWalk.2.1 21 = .ok (.istore_n 3, 1) := by decide +kernel
theorem d_Tn_comeAndWalk_22 : decode M_Tn_comeAndWalk.2.1 22 = .ok (.aload_n 1, 1) := by decide +kernel
theorem d_Tn_comeAndWalk_23 : decode M_Tn_comeAndWalk.2.1 23 = .ok (.getfield 149, 3) := by decide +kernel
theorem d_Tn_comeAndWalk_26 : decode M_Tn_comeAndWalk.2.1 26 = .ok (.iload_n 2, 1) := by decide +kernel
theorem d_Tn_comeAndWalk_27 : decode M_Tn_comeAndWalk.2.1 27 = .ok (.dup2, 1) := by decide +kernel
theorem d_Tn_comeAndWalk_28 : decode M_Tn_comeAndWalk.2.1 28 = .ok (.iaload, 1) := by decide +kernel
theorem d_Tn_comeAndWalk_29 : decode M_Tn_comeAndWalk.2.1 29 = .ok (.iload_n 3, 1) := by decide +kernel
theorem d_Tn_comeAndWalk_30 : decode M_Tn_comeAndWalk.2.1 30 = .ok (.bipush 100, 2) := by decide +kernel
theorem d_Tn_comeAndWalk_32 : decode M_Tn_comeAndWalk.2.1 32 = .ok (.idiv, 1) := by decide +kernel
theorem d_Tn_comeAndWalk_33 : decode M_Tn_comeAndWalk.2.1 33 = .ok (.iadd, 1) := by decide +kernel
theorem d_Tn_comeAndWalk_34 : decode M_Tn_comeAndWalk.2.1 34 = .ok (.iastore, 1) := by decide +kernel
theorem d_Tn_comeAndWalk_35 : decode M_Tn_comeAndWalk.2.1 35 = .ok (.aload_n 1, 1) := by decide +kernel
theorem d_Tn_comeAndWalk_36 : decode M_Tn_comeAndWalk.2.1 36 = .ok (.getfield 169, 3) := by decide +kernel
theorem d_Tn_comeAndWalk_39 : decode M_Tn_comeAndWalk.2.1 39 = .ok (.iload_n 2, 1) := by decide +kernel
theorem d_Tn_comeAndWalk_40 : decode M_Tn_comeAndWalk.2.1 40 = .ok (.iload_n 3, 1) := by decide +kernel
theorem d_Tn_comeAndWalk_41 : decode M_Tn_comeAndWalk.2.1 41 = .ok (.bipush 100, 2) := by decide +kernel
theorem d_Tn_comeAndWalk_43 : decode M_Tn_comeAndWalk.2.1 43 = .ok (.irem, 1) := by decide +kernel
theorem d_Tn_comeAndWalk_44 : decode M_Tn_comeAndWalk.2.1 44 = .ok (.iastore, 1) := by decide +kernel
theorem d_Tn_comeAndWalk_45 : decode M_Tn_comeAndWalk.2.1 45 = .ok (.aload_n 1, 1) := by decide +kernel
theorem d_Tn_comeAndWalk_46 : decode M_Tn_comeAndWalk.2.1 46 = .ok (.getfield 121, 3) := by decide +kernel
theorem d_Tn_comeAndWalk_49 : decode M_Tn_comeAndWalk.2.1 49 = .ok (.bipush 10, 2) := by decide +kernel
theorem d_Tn_comeAndWalk_51 : decode M_Tn_comeAndWalk.2.1 51 = .ok (.irem, 1) := by decide +kernel
theorem d_Tn_comeAndWalk_52 : decode M_Tn_comeAndWalk.2.1 52 = .ok (.bipush 9, 2) := by decide +kernel
theorem d_Tn_comeAndWalk_54 : decode M_Tn_comeAndWalk.2.1 54 = .ok (.if_icmp .eq 6, 3) := by decide +kernel
theorem d_Tn_comeAndWalk_57 : decode M_Tn_comeAndWalk.2.1 57 = .ok (.goto 56, 3) := by decide +kernel
theorem d_Tn_comeAndWalk_60 : decode M_Tn_comeAndWalk.2.1 60 = .ok (.aload_n 1, 1) := by decide +kernel
theorem d_Tn_comeAndWalk_61 : decode M_Tn_comeAndWalk.2.1 61 = .ok (.getfield 132, 3) := by decide +kernel
theorem d_Tn_comeAndWalk_64 : decode M_Tn_comeAndWalk.2.1 64 = .ok (.iconst 1, 1) := by decide +kernel
theorem d_Tn_comeAndWalk_65 : decode M_Tn_comeAndWalk.2.1 65 = .ok (.if_icmp .ne 15, 3) := by decide +kernel
theorem d_Tn_comeAndWalk_68 : decode M_Tn_comeAndWalk.2.1 68 = .ok (.aload_n 1, 1) := by decide +kernel
theorem d_Tn_comeAndWalk_69 : decode M_Tn_comeAndWalk.2.1 69 = .ok (.getfield 149, 3) := by decide +kernel
theorem d_Tn_comeAndWalk_72 : decode M_Tn_comeAndWalk.2.1 72 = .ok (.iload_n 2, 1) := by decide +kernel
theorem d_Tn_comeAndWalk_73 : decode M_Tn_comeAndWalk.2.1 73 = .ok (.iaload, 1) := by decide +kernel
theorem d_Tn_comeAndWalk_74 : decode M_Tn_comeAndWalk.2.1 74 = .ok (.bipush 50, 2) := by decide +kernel
theorem d_Tn_comeAndWalk_76 : decode M_Tn_comeAndWalk.2.1 76 = .ok (.idiv, 1) := by decide +kernel
theorem d_Tn_comeAndWalk_77 : decode M_Tn_comeAndWalk.2.1 77 = .ok (.goto 12, 3) := by decide +kernel
theorem d_Tn_comeAndWalk_80 : decode M_Tn_comeAndWalk.2.1 80 = .ok (.aload_n 1, 1) := by decide +kernel
theorem d_Tn_comeAndWalk_81 : decode M_Tn_comeAndWalk.2.1 81 = .ok (.getfield 149, 3) := by decide +kernel
theorem d_Tn_comeAndWalk_84 : decode M_Tn_comeAndWalk.2.1 84 = .ok (.iload_n 2, 1) := by decide +kernel
theorem d_Tn_comeAndWalk_85 : decode M_Tn_comeAndWalk.2.1 85 = .ok (.iaload, 1) := by decide +kernel
theorem d_Tn_comeAndWalk_86 : decode M_Tn_comeAndWalk.2.1 86 = .ok (.bipush 10, 2) := by decide +kernel
theorem d_Tn_comeAndWalk_88 : decode M_Tn_comeAndWalk.2.1 88 = .ok (.idiv, 1) := by decide +kernel
theorem d_Tn_comeAndWalk_89 : decode M_Tn_comeAndWalk.2.1 89 = .ok (.istore 4, 2) := by decide +kernel
theorem d_Tn_comeAndWalk_91 : decode M_Tn_comeAndWalk.2.1 91 = .ok (.aload_n 1, 1) := by decide +kernel
theorem d_Tn_comeAndWalk_92 : decode M_Tn_comeAndWalk.2.1 92 = .ok (.getfield 149, 3) := by decide +kernel
theorem d_Tn_comeAndWalk_95 : decode M_Tn_comeAndWalk.2.1 95 = .ok (.iload_n 2, 1) := by decide +kernel
theorem d_Tn_comeAndWalk_96 : decode M_Tn_comeAndWalk.2.1 96 = .ok (.dup2, 1) := by decide +kernel
theorem d_Tn_comeAndWalk_97 : decode M_Tn_comeAndWalk.2.1 97 = .ok (.iaload, 1) := by decide +kernel
theorem d_Tn_comeAndWalk_98 : decode M_Tn_comeAndWalk.2.1 98 = .ok (.iload 4, 2) := by decide +kernel
theorem d_Tn_comeAndWalk_100 : decode M_Tn_comeAndWalk.2.1 100 = .ok (.isub, 1) := by decide +kernel
theorem d_Tn_comeAndWalk_101 : decode M_Tn_comeAndWalk.2.1 101 = .ok (.iastore, 1) := by decide +kernel
theorem d_Tn_comeAndWalk_102 : decode M_Tn_comeAndWalk.2.1 102 = .ok (.aload_n 1, 1) := by decide +kernel
theorem d_Tn_comeAndWalk_103 : decode M_Tn_comeAndWalk.2.1 103 = .ok (.dup, 1) := by decide +kernel
theorem d_Tn_comeAndWalk_104 : decode M_Tn_comeAndWalk.2.1 104 = .ok (.getfield 172, 3) := by decide +kernel
theorem d_Tn_comeAndWalk_107 : decode M_Tn_comeAndWalk.2.1 107 = .ok (.iload 4, 2) := by decide +kernel
theorem d_Tn_comeAndWalk_109 : decode M_Tn_comeAndWalk.2.1 109 = .ok (.iadd, 1) := by decide +kernel
theorem d_Tn_comeAndWalk_110 : decode M_Tn_comeAndWalk.2.1 110 = .ok (.putfield 172, 3) := by decide +kernel
theorem d_Tn_comeAndWalk_113 : decode M_Tn_comeAndWalk.2.1 113 = .ok (.iinc 2 1, 3) := by decide +kernel
theorem d_Tn_comeAndWalk_116 : decode M_Tn_comeAndWalk.2.1 116 = .ok (.goto (-114), 3) := by decide +kernel
theorem d_Tn_comeAndWalk_119 : decode M_Tn_comeAndWalk.2.1 119 = .ok (.return_, 1) := by decide +kernel
set_option maxHeartbeats 4000000 in
set_option maxRecDepth 100000 in
theorem ok_Tn_comeAndWalk {D : xD} {N : Nat} {l : Launch} {d : Nat} {c x V : T2} {P : Nat → Int32} {w : Nat} {ln df : Nat → Option Nat} {rest : List va_E} {K : Option Value → List va_E → Prop} (hw : w < 3) {m : Nat} (em : P 234 = nI m) (hm : m < 14700) (hc : ∀ k, k < 36 → isN (P k) 600) (hp : ∀ k, k < 36 → isN (P (36 + k)) 100) (hr : ∀ k, k < 36 → isN (c 3 k) 100) (hK : K none (encC D N c x (va_up V w (cmN c P m 36)) ln df ++ rest)) : Ok D N l d M_Tn_comeAndWalk [.ref (N + 1), .ref (N + wA w)] (encC D N c x (va_up V w P) ln df ++ rest) 0 0 K := by
  have lp : ∀ k : Nat, k ≤ 36 → Wp D N l (EI M_Tn_comeAndWalk) M_Tn_comeAndWalk (Rm d 0 0) (Qm D N K 0 0) 0 0 2 [(2, .int (nI k)), (0, .ref (N + 1)), (1, .ref (N + wA w))] [] (encC D N c x (va_up V w (cmN c P m k)) ln df ++ rest) := by
    refine up_loop ?_ ?_
    · skip
      refine wp_iload_n (q := 3) d_Tn_comeAndWalk_2 rfl rfl ?_
      refine wp_bipush (q := 5) d_Tn_comeAndWalk_3 rfl bp_36 ?_
      refine wp_icmp_ge_t (tgt := 119) d_Tn_comeAndWalk_5 (by decide) (nI_le (Nat.le_refl _) (by decide)) ?_
      refine wp_vret d_Tn_comeAndWalk_119 rfl (Nat.le_refl _) (Nat.le_refl _) ?_
      exact hK
    · intro k hk ih
      rw [cmN] at ih
      obtain ⟨e1, l1⟩ := hc k hk
      obtain ⟨e2, l2⟩ := hp k hk
      obtain ⟨e3, l3⟩ := hr k hk
      have f1 : cmN c P m k k = nI (tn (P k)) := by rw [cmN_at (by omega) (by omega)]; exact e1
      have f2 : cmN c P m k (36 + k) = nI (tn (P (36 + k))) := by rw [cmN_at (by omega) (by omega)]; exact e2
      have f4 : cmN c P m k 234 = nI m := by rw [cmN_at (by omega) (by omega)]; exact em
      generalize tn (P k) = u1 at f1 l1
      generalize tn (P (36 + k)) = u2 at f2 l2
      generalize hu3 : tn (c 3 k) = u3 at e3 l3
      generalize cmN c P m k = P' at ih f1 f2 f4 ⊢
      refine wp_iload_n (q := 3) d_Tn_comeAndWalk_2 rfl rfl ?_
      refine wp_bipush (q := 5) d_Tn_comeAndWalk_3 rfl bp_36 ?_
      refine wp_icmp_ge_f (q := 8) (tgt := 119) d_Tn_comeAndWalk_5 (by decide) rfl (nI_ge hk (by decide)) ?_
      refine wp_aload_n (q := 9) d_Tn_comeAndWalk_8 rfl rfl ?_
      refine wp_get (q := 12) fl_Tn_169 d_Tn_comeAndWalk_9 rfl (rdO (w := w) hw) rfl ?_
      refine wp_iload_n (q := 13) d_Tn_comeAndWalk_12 rfl rfl ?_
      refine wp_iald (q := 14) d_Tn_comeAndWalk_13 rfl (rd2 (w := w) hw) (by omega) (by decide) ?_
      rw [sl_at (show k < 36 by omega)]
      rw [f2]
      refine wp_aload_n (q := 15) d_Tn_comeAndWalk_14 rfl rfl ?_
      refine wp_get (q := 18) fl_Tn_15 d_Tn_comeAndWalk_15 rfl rfl rfl ?_
      refine wp_iload_n (q := 19) d_Tn_comeAndWalk_18 rfl rfl ?_
      refine wp_iald (q := 20) d_Tn_comeAndWalk_19 rfl (rfl) (by omega) (by decide) ?_
      rw [e3]
      first | refine wp_iaddN (q := 21) d_Tn_comeAndWalk_20 rfl ?_ | refine wp_iadd (q := 21) d_Tn_comeAndWalk_20 rfl ?_
      refine wp_istore_n (q := 22) (L2 := [(3, _), (2, _), (0, _), (1, _)]) d_Tn_comeAndWalk_21 rfl (by decide) rfl ?_
      refine wp_aload_n (q := 23) d_Tn_comeAndWalk_22 rfl rfl ?_
      refine wp_get (q := 26) fl_Tn_149 d_Tn_comeAndWalk_23 rfl (rdO (w := w) hw) rfl ?_
      refine wp_iload_n (q := 27) d_Tn_comeAndWalk_26 rfl rfl ?_
      refine wp_dup2 (q := 28) d_Tn_comeAndWalk_27 rfl rfl rfl ?_
      refine wp_iald (q := 29) d_Tn_comeAndWalk_28 rfl (rd1 (w := w) hw) (by omega) (by decide) ?_
      rw [sl_at (show k < 36 by omega)]
      rw [Nat.zero_add, f1]
      refine wp_iload_n (q := 30) d_Tn_comeAndWalk_29 rfl rfl ?_
      refine wp_bipush (q := 32) d_Tn_comeAndWalk_30 rfl bp_100 ?_
      refine wp_idivN (q := 33) d_Tn_comeAndWalk_32 rfl (by omega) (by decide) (by decide) ?_
      first | refine wp_iaddN (q := 34) d_Tn_comeAndWalk_33 rfl ?_ | refine wp_iadd (q := 34) d_Tn_comeAndWalk_33 rfl ?_
      refine wp_iast (q := 35) d_Tn_comeAndWalk_34 rfl (rd1 (w := w) hw) (by omega) (by decide) (fdw (w := w) (i := 1) hw (by decide) (ws_c (by omega))) ?_
      refine wp_aload_n (q := 36) d_Tn_comeAndWalk_35 rfl rfl ?_
      refine wp_get (q := 39) fl_Tn_169 d_Tn_comeAndWalk_36 rfl (rdO (w := w) hw) rfl ?_
      refine wp_iload_n (q := 40) d_Tn_comeAndWalk_39 rfl rfl ?_
      refine wp_iload_n (q := 41) d_Tn_comeAndWalk_40 rfl rfl ?_
      refine wp_bipush (q := 43) d_Tn_comeAndWalk_41 rfl bp_100 ?_
      refine wp_iremN (q := 44) d_Tn_comeAndWalk_43 rfl (by omega) (by decide) (by decide) ?_
      refine wp_iast (q := 45) d_Tn_comeAndWalk_44 rfl (rd2 (w := w) hw) (by omega) (by decide) (fdw (w := w) (i := 2) hw (by decide) (ws_p (by omega))) ?_
      refine wp_aload_n (q := 46) d_Tn_comeAndWalk_45 rfl rfl ?_
      refine wp_get (q := 49) fl_Tn_121 d_Tn_comeAndWalk_46 rfl (rdO (w := w) hw) rfl ?_
      simp (disch := omega) only [upd_ne, upd_eq]
      rw [f4]
      refine wp_bipush (q := 51) d_Tn_comeAndWalk_49 rfl bp_10 ?_
      refine wp_iremN (q := 52) d_Tn_comeAndWalk_51 rfl (by omega) (by decide) (by decide) ?_
      refine wp_bipush (q := 54) d_Tn_comeAndWalk_52 rfl bp_9 ?_
      refine wp_icmp_eq (q := 57) (tgt := 60) d_Tn_comeAndWalk_54 (by decide) rfl (fun hc_54 => ?_) (fun hc_54 => ?_)
      · have h9 : m % 10 = 9 := (nI_eq (by omega) (by decide)).mp hc_54
        refine wp_aload_n (q := 61) d_Tn_comeAndWalk_60 rfl rfl ?_
        refine wp_get (q := 64) fl_Tn_132 d_Tn_comeAndWalk_61 rfl (rdO (w := w) hw) rfl ?_
        simp (disch := omega) only [upd_ne, upd_eq]
        refine wp_iconst (q := 65) d_Tn_comeAndWalk_64 rfl ic_1 ?_
        refine wp_icmp_ne (q := 68) (tgt := 80) d_Tn_comeAndWalk_65 (by decide) rfl (fun hc_65 => ?_) (fun hc_65 => ?_)
        · refine wp_aload_n (q := 81) d_Tn_comeAndWalk_80 rfl rfl ?_
          refine wp_get (q := 84) fl_Tn_149 d_Tn_comeAndWalk_81 rfl (rdO (w := w) hw) rfl ?_
          refine wp_iload_n (q := 85) d_Tn_comeAndWalk_84 rfl rfl ?_
          refine wp_iald (q := 86) d_Tn_comeAndWalk_85 rfl (rd1 (w := w) hw) (by omega) (by decide) ?_
          rw [sl_at (show k < 36 by omega)]
          simp (disch := omega) only [upd_ne, upd_eq]
          refine wp_bipush (q := 88) d_Tn_comeAndWalk_86 rfl bp_10 ?_
          refine wp_idivN (q := 89) d_Tn_comeAndWalk_88 rfl (by omega) (by decide) (by decide) ?_
          refine wp_istore (q := 91) (L2 := [(4, _), (3, _), (2, _), (0, _), (1, _)]) d_Tn_comeAndWalk_89 rfl (by decide) rfl ?_
          refine wp_aload_n (q := 92) d_Tn_comeAndWalk_91 rfl rfl ?_
          refine wp_get (q := 95) fl_Tn_149 d_Tn_comeAndWalk_92 rfl (rdO (w := w) hw) rfl ?_
          refine wp_iload_n (q := 96) d_Tn_comeAndWalk_95 rfl rfl ?_
          refine wp_dup2 (q := 97) d_Tn_comeAndWalk_96 rfl rfl rfl ?_
          refine wp_iald (q := 98) d_Tn_comeAndWalk_97 rfl (rd1 (w := w) hw) (by omega) (by decide) ?_
          rw [sl_at (show k < 36 by omega)]
          simp (disch := omega) only [upd_ne, upd_eq]
          refine wp_iload (q := 100) d_Tn_comeAndWalk_98 rfl rfl ?_
          refine wp_isubN (q := 101) d_Tn_comeAndWalk_100 rfl (by omega) ?_
          refine wp_iast (q := 102) d_Tn_comeAndWalk_101 rfl (rd1 (w := w) hw) (by omega) (by decide) (fdw (w := w) (i := 1) hw (by decide) (ws_c (by omega))) ?_
          refine wp_aload_n (q := 103) d_Tn_comeAndWalk_102 rfl rfl ?_
          refine wp_dup (q := 104) d_Tn_comeAndWalk_103 rfl rfl ?_
          refine wp_get (q := 107) fl_Tn_172 d_Tn_comeAndWalk_104 rfl (rdO (w := w) hw) rfl ?_
          simp (disch := omega) only [upd_ne, upd_eq]
          refine wp_iload (q := 109) d_Tn_comeAndWalk_107 rfl rfl ?_
          first | refine wp_iaddN (q := 110) d_Tn_comeAndWalk_109 rfl ?_ | refine wp_iadd (q := 110) d_Tn_comeAndWalk_109 rfl ?_
          refine wp_put (q := 113) fl_Tn_172 d_Tn_comeAndWalk_110 rfl (rdO (w := w) hw) (Nat.le_of_ble_eq_true rfl) rfl rfl (fdw (w := w) (i := 0) hw (by decide) ws_o2) ?_
          refine wp_iinc (q := 116) (L2 := [(2, _), (4, _), (3, _), (0, _), (1, _)]) d_Tn_comeAndWalk_113 rfl rfl (iinc_1) (by decide) rfl ?_
          refine wp_goto (tgt := 2) d_Tn_comeAndWalk_116 (by decide) ?_
          refine wp_sub [0, 3, 4] rfl ?_
          first
            | (refine wpC ih ?_
               rw [cm1, cmW, cmK, if_neg h9, f1, f2, hu3, tnt l1, tnt l2, add_0, Nat.sub_zero]
               try simp (disch := omega) only [upd_ne, upd_eq, Nat.zero_add]
               funext i; simp only [upd]; repeat' split
               all_goals first | rfl | omega | (subst_vars; rfl) | (congr 1; omega))
            | (refine wpC ih ?_
               rw [cm1, cmW, cmK, if_pos h9, if_neg hc_65, cmW, f1, f2, hu3, tnt l1, tnt l2]
               try simp (disch := omega) only [upd_ne, upd_eq, Nat.zero_add]
               funext i; simp only [upd]; repeat' split
               all_goals first | rfl | omega | (congr 1; omega))
            | (refine wpC ih ?_
               rw [cm1, cmW, cmK, if_pos h9, if_pos hc_65, cmW, f1, f2, hu3, tnt l1, tnt l2]
               try simp (disch := omega) only [upd_ne, upd_eq, Nat.zero_add]
               funext i; simp only [upd]; repeat' split
               all_goals first | rfl | omega | (congr 1; omega))
        · refine wp_aload_n (q := 69) d_Tn_comeAndWalk_68 rfl rfl ?_
          refine wp_get (q := 72) fl_Tn_149 d_Tn_comeAndWalk_69 rfl (rdO (w := w) hw) rfl ?_
          refine wp_iload_n (q := 73) d_Tn_comeAndWalk_72 rfl rfl ?_
          refine wp_iald (q := 74) d_Tn_comeAndWalk_73 rfl (rd1 (w := w) hw) (by omega) (by decide) ?_
          rw [sl_at (show k < 36 by omega)]
          simp (disch := omega) only [upd_ne, upd_eq]
          refine wp_bipush (q := 76) d_Tn_comeAndWalk_74 rfl bp_50 ?_
          refine wp_idivN (q := 77) d_Tn_comeAndWalk_76 rfl (by omega) (by decide) (by decide) ?_
          refine wp_goto (tgt := 89) d_Tn_comeAndWalk_77 (by decide) ?_
          refine wp_istore (q := 91) (L2 := [(4, _), (3, _), (2, _), (0, _), (1, _)]) d_Tn_comeAndWalk_89 rfl (by decide) rfl ?_
          refine wp_aload_n (q := 92) d_Tn_comeAndWalk_91 rfl rfl ?_
          refine wp_get (q := 95) fl_Tn_149 d_Tn_comeAndWalk_92 rfl (rdO (w := w) hw) rfl ?_
          refine wp_iload_n (q := 96) d_Tn_comeAndWalk_95 rfl rfl ?_
          refine wp_dup2 (q := 97) d_Tn_comeAndWalk_96 rfl rfl rfl ?_
          refine wp_iald (q := 98) d_Tn_comeAndWalk_97 rfl (rd1 (w := w) hw) (by omega) (by decide) ?_
          rw [sl_at (show k < 36 by omega)]
          simp (disch := omega) only [upd_ne, upd_eq]
          refine wp_iload (q := 100) d_Tn_comeAndWalk_98 rfl rfl ?_
          refine wp_isubN (q := 101) d_Tn_comeAndWalk_100 rfl (by omega) ?_
          refine wp_iast (q := 102) d_Tn_comeAndWalk_101 rfl (rd1 (w := w) hw) (by omega) (by decide) (fdw (w := w) (i := 1) hw (by decide) (ws_c (by omega))) ?_
          refine wp_aload_n (q := 103) d_Tn_comeAndWalk_102 rfl rfl ?_
          refine wp_dup (q := 104) d_Tn_comeAndWalk_103 rfl rfl ?_
          refine wp_get (q := 107) fl_Tn_172 d_Tn_comeAndWalk_104 rfl (rdO (w := w) hw) rfl ?_
          simp (disch := omega) only [upd_ne, upd_eq]
          refine wp_iload (q := 109) d_Tn_comeAndWalk_107 rfl rfl ?_
          first | refine wp_iaddN (q := 110) d_Tn_comeAndWalk_109 rfl ?_ | refine wp_iadd (q := 110) d_Tn_comeAndWalk_109 rfl ?_
          refine wp_put (q := 113) fl_Tn_172 d_Tn_comeAndWalk_110 rfl (rdO (w := w) hw) (Nat.le_of_ble_eq_true rfl) rfl rfl (fdw (w := w) (i := 0) hw (by decide) ws_o2) ?_
          refine wp_iinc (q := 116) (L2 := [(2, _), (4, _), (3, _), (0, _), (1, _)]) d_Tn_comeAndWalk_113 rfl rfl (iinc_1) (by decide) rfl ?_
          refine wp_goto (tgt := 2) d_Tn_comeAndWalk_116 (by decide) ?_
          refine wp_sub [0, 3, 4] rfl ?_
          first
            | (refine wpC ih ?_
               rw [cm1, cmW, cmK, if_neg h9, f1, f2, hu3, tnt l1, tnt l2, add_0, Nat.sub_zero]
               try simp (disch := omega) only [upd_ne, upd_eq, Nat.zero_add]
               funext i; simp only [upd]; repeat' split
               all_goals first | rfl | omega | (subst_vars; rfl) | (congr 1; omega))
            | (refine wpC ih ?_
               rw [cm1, cmW, cmK, if_pos h9, if_neg hc_65, cmW, f1, f2, hu3, tnt l1, tnt l2]
               try simp (disch := omega) only [upd_ne, upd_eq, Nat.zero_add]
               funext i; simp only [upd]; repeat' split
               all_goals first | rfl | omega | (congr 1; omega))
            | (refine wpC ih ?_
               rw [cm1, cmW, cmK, if_pos h9, if_pos hc_65, cmW, f1, f2, hu3, tnt l1, tnt l2]
               try simp (disch := omega) only [upd_ne, upd_eq, Nat.zero_add]
               funext i; simp only [upd]; repeat' split
               all_goals first | rfl | omega | (congr 1; omega))
      · have h9 : ¬ m % 10 = 9 := fun z => hc_54 (by rw [z])
        refine wp_goto (tgt := 113) d_Tn_comeAndWalk_57 (by decide) ?_
        refine wp_iinc (q := 116) (L2 := [(2, _), (3, _), (0, _), (1, _)]) d_Tn_comeAndWalk_113 rfl rfl (iinc_1) (by decide) rfl ?_
        refine wp_goto (tgt := 2) d_Tn_comeAndWalk_116 (by decide) ?_
        refine wp_sub [0, 2, 3] rfl ?_
        first
          | (refine wpC ih ?_
             rw [cm1, cmW, cmK, if_neg h9, f1, f2, hu3, tnt l1, tnt l2, add_0, Nat.sub_zero]
             try simp (disch := omega) only [upd_ne, upd_eq, Nat.zero_add]
             funext i; simp only [upd]; repeat' split
             all_goals first | rfl | omega | (subst_vars; rfl) | (congr 1; omega))
          | (refine wpC ih ?_
             rw [cm1, cmW, cmK, if_pos h9, if_neg hc_65, cmW, f1, f2, hu3, tnt l1, tnt l2]
             try simp (disch := omega) only [upd_ne, upd_eq, Nat.zero_add]
             funext i; simp only [upd]; repeat' split
             all_goals first | rfl | omega | (congr 1; omega))
          | (refine wpC ih ?_
             rw [cm1, cmW, cmK, if_pos h9, if_pos hc_65, cmW, f1, f2, hu3, tnt l1, tnt l2]
             try simp (disch := omega) only [upd_ne, upd_eq, Nat.zero_add]
             funext i; simp only [upd]; repeat' split
             all_goals first | rfl | omega | (congr 1; omega))
  refine ok_of (L := [(0, _), (1, _)]) (by decide) (Nat.le_of_ble_eq_true rfl) rfl ?_
  refine wp_iconst (q := 1) d_Tn_comeAndWalk_0 rfl ic_0 ?_
  refine wp_istore_n (q := 2) (L2 := [(2, _), (0, _), (1, _)]) d_Tn_comeAndWalk_1 rfl (by decide) rfl ?_
  exact lp 0 (Nat.zero_le _)
