def plC (c : T2) (v : Int32) : T2 := tput c 32 (upd (c 32) 2 v)
theorem plC_0 (c : T2) : plC c (c 32 2) = c := by unfold plC; rw [upd_id rfl, tput_id]
theorem plC_2 {c : T2} {a b : Int32} : tput (plC c a) 32 (upd (plC c a 32) 2 b) = plC c b := by
  unfold plC
  rw [tput_eq, tput2, upd_upd]
def plN (c : T2) (P : Nat → Int32) (nb m s : Nat) (t : Int32) (n : Nat) : Nat → Option Int64 × Int32
  | 0 => (none, c 32 2)
  | k + 1 => if ¬ nI (bcN k 6) ≤ t then plN c P nb m s t n k else match plV (plC c (plN c P nb m s t n k).2) P nb m s n k with
    | none => plN c P nb m s t n k
    | some v => match (plN c P nb m s t n k).1 with
      | none => (some v, nI k)
      | some w => if v < w then (some v, nI k) else plN c P nb m s t n k
section PL
variable {c : T2} {P : Nat → Int32} {nb m s n k : Nat} {t : Int32}
theorem pl_a (h : ¬ nI (bcN k 6) ≤ t) : plN c P nb m s t n (k + 1) = plN c P nb m s t n k := by rw [plN, if_pos h]
theorem pl_b (h : nI (bcN k 6) ≤ t) (hv : plV (plC c (plN c P nb m s t n k).2) P nb m s n k = none) : plN c P nb m s t n (k + 1) = plN c P nb m s t n k := by rw [plN, if_neg (fun g => g h), hv]
theorem pl_c {v : Int64} (h : nI (bcN k 6) ≤ t) (hv : plV (plC c (plN c P nb m s t n k).2) P nb m s n k = some v) (hw : (plN c P nb m s t n k).1 = none) : plN c P nb m s t n (k + 1) = (some v, nI k) := by
  rw [plN, if_neg (fun g => g h), hv]
  dsimp only
  rw [hw]
theorem pl_d {v w : Int64} (h : nI (bcN k 6) ≤ t) (hv : plV (plC c (plN c P nb m s t n k).2) P nb m s n k = some v) (hw : (plN c P nb m s t n k).1 = some w) (hvw : v < w) : plN c P nb m s t n (k + 1) = (some v, nI k) := by
  rw [plN, if_neg (fun g => g h), hv]
  dsimp only
  rw [hw]
  exact if_pos hvw
theorem pl_e {v w : Int64} (h : nI (bcN k 6) ≤ t) (hv : plV (plC c (plN c P nb m s t n k).2) P nb m s n k = some v) (hw : (plN c P nb m s t n k).1 = some w) (hvw : ¬ v < w) : plN c P nb m s t n (k + 1) = plN c P nb m s t n k := by
  rw [plN, if_neg (fun g => g h), hv]
  dsimp only
  rw [hw]
  exact if_neg hvw
end PL
theorem plV_some {c : T2} {P : Nat → Int32} {nb m s n set q h : Nat} {v : Int64} (hWV : WV c P nb m) (hSt : St P q) (hq : q < 800000000) (ht : tpl c s) (hnb : c 32 1 = nI nb) (h12 : nb ≤ 12) (hT : TI c) (hSE : SE c) (eh : tn (c 30 s) / 2 = h) (hs : set < 2 ^ h) (hmn : m + n ≤ 14400) (e : plV c P nb m s n set = some v) : ∃ a, a < 1000000000 ∧ v = (nI a).toInt64 := by
  have hh : h < 6 := by have := ht.2.2.1; omega
  unfold plV at e
  cases hp : qp c P s set 5 with
  | none => rw [hp] at e; cases e
  | some R =>
    rw [hp] at e
    obtain ⟨w, st, e8⟩ := qp_WV hWV hSt hq ht hnb h12 hSE eh hs hh 5 (by decide) R hp
    obtain ⟨a, ha, ea⟩ := df_238 hWV w e8 hT hSE h12 hmn
    exact ⟨a, ha, by rw [← ea]; exact (Option.some.inj e).symm⟩
theorem pl_some {c : T2} {P : Nat → Int32} {nb m s n q h : Nat} {t : Int32} (hWV : WV c P nb m) (hSt : St P q) (hq : q < 800000000) (ht : tpl c s) (hnb : c 32 1 = nI nb) (h12 : nb ≤ 12) (hT : TI c) (hSE : SE c) (eh : tn (c 30 s) / 2 = h) (hmn : m + n ≤ 14400) : ∀ k, k ≤ 2 ^ h → ∀ w, (plN c P nb m s t n k).1 = some w → ∃ a, a < 1000000000 ∧ w = (nI a).toInt64
  | 0, _, w, e => by cases e
  | k + 1, hk, w, e => by
    have ih := pl_some (t := t) hWV hSt hq ht hnb h12 hT hSE eh hmn k (by omega)
    by_cases hb : nI (bcN k 6) ≤ t
    · cases hv : plV (plC c (plN c P nb m s t n k).2) P nb m s n k with
      | none => rw [pl_b hb hv] at e; exact ih w e
      | some v =>
        obtain ⟨a, ha, ea⟩ := plV_some (c := plC c (plN c P nb m s t n k).2) hWV hSt hq ht hnb h12 hT hSE eh (show k < 2 ^ h by omega) hmn hv
        cases hw : (plN c P nb m s t n k).1 with
        | none =>
          rw [pl_c hb hv hw] at e
          have := Option.some.inj e
          exact ⟨a, ha, by rw [← this]; exact ea⟩
        | some u =>
          by_cases hvu : v < u
          · rw [pl_d hb hv hw hvu] at e
            have := Option.some.inj e
            exact ⟨a, ha, by rw [← this]; exact ea⟩
          · rw [pl_e hb hv hw hvu] at e; exact ih w e
    · rw [pl_a hb] at e; exact ih w e
theorem pl_is {c : T2} {P : Nat → Int32} {nb m s n : Nat} {t : Int32} (ht : nI 0 ≤ t) : ∀ k, ∃ v, (plN c P nb m s t n (k + 1)).1 = some v
  | 0 => by
    have hq : ∀ j, qp (plC c (plN c P nb m s t n 0).2) P s 0 j = some P := by
      intro j
      induction j with
      | zero => rfl
      | succ j ih =>
        rw [qp, ih]
        exact if_pos (by unfold bit; rw [show nI 0 = 0 from nI_0]; simp)
    have hv : plV (plC c (plN c P nb m s t n 0).2) P nb m s n 0 = some ((pN (plC c (plN c P nb m s t n 0).2) P nb m n 238).toInt64 - (P 238).toInt64) := by
      unfold plV; rw [hq 5]
    rw [pl_c (by rw [show bcN 0 6 = 0 by decide]; exact ht) hv rfl]
    exact ⟨_, rfl⟩
  | k + 1 => by
    obtain ⟨w, hw⟩ := pl_is (c := c) (P := P) (nb := nb) (m := m) (s := s) (n := n) ht k
    by_cases hb : nI (bcN (k + 1) 6) ≤ t
    · cases hv : plV (plC c (plN c P nb m s t n (k + 1)).2) P nb m s n (k + 1) with
      | none => rw [pl_b hb hv]; exact ⟨w, hw⟩
      | some v =>
        by_cases hvu : v < w
        · rw [pl_d hb hv hw hvu]; exact ⟨_, rfl⟩
        · rw [pl_e hb hv hw hvu]; exact ⟨w, hw⟩
    · rw [pl_a hb]; exact ⟨w, hw⟩
noncomputable def sp_plan (c : T2) (P : Nat → Int32) (nb m : Nat) (s t n : Int32) : Int64 × T2 := @ite _ (plOK c m s t n) (Classical.propDecidable _) (ovL (plN c P nb m (tn s) t (tn n) (2 ^ (tn (c 30 (tn s)) / 2))).1, plC c (plN c P nb m (tn s) t (tn n) (2 ^ (tn (c 30 (tn s)) / 2))).2) ((-4611686018427387904), c)
theorem spp_y {c : T2} {P : Nat → Int32} {nb m : Nat} {s t n : Int32} (h : plOK c m s t n) : sp_plan c P nb m s t n = (ovL (plN c P nb m (tn s) t (tn n) (2 ^ (tn (c 30 (tn s)) / 2))).1, plC c (plN c P nb m (tn s) t (tn n) (2 ^ (tn (c 30 (tn s)) / 2))).2) := if_pos h
theorem spp_n {c : T2} {P : Nat → Int32} {nb m : Nat} {s t n : Int32} (h : ¬ plOK c m s t n) : sp_plan c P nb m s t n = ((-4611686018427387904), c) := if_neg h
theorem i64_0 {a : Nat} (ha : a < 1000000000) : ¬ lg_cmp (nI a).toInt64 0 < 0 := by
  rw [lg_cmp_lt, Int64.lt_iff_toInt_lt, Int32.toInt_toInt64, nI_toInt (by omega)]
  have : (0 : Int64).toInt = 0 := by decide
  omega
theorem i64_m {a : Nat} (ha : a < 1000000000) : ¬ 0 ≤ lg_cmp (nI a).toInt64 4611686018427387903 := by
  rw [lg_cmp_ge, Int64.le_iff_toInt_le, Int32.toInt_toInt64, nI_toInt (by omega)]
  have : (4611686018427387903 : Int64).toInt = 4611686018427387903 := by decide
  omega
theorem nlt64 {a b : Int64} (h : b ≤ a) : ¬ a < b := by
  rw [Int64.lt_iff_toInt_lt]; rw [Int64.le_iff_toInt_le] at h; omega
theorem nle64 {a b : Int64} (h : ¬ b ≤ a) : a < b := by
  rw [Int64.lt_iff_toInt_lt]; rw [Int64.le_iff_toInt_le] at h; omega
theorem vz {V : T2} {P Z : Nat → Int32} : va_up (va_up (va_up V 0 P) 1 Z) 0 P = va_up (va_up V 0 P) 1 Z := by
  funext j
  by_cases h0 : j = 0
  · subst h0; rw [va_upeq, va_upne _ _ (by decide), va_upeq]
  · rw [va_upne _ _ h0]
theorem d_FG_plan_0 : decode M_FG_plan.2.1 0 = .ok (.iload_n 1, 1) := by decide +kernel
theorem d_FG_plan_1 : decode M_FG_plan.2.1 1 = .ok (.invokestatic 255, 3) := by decide +kernel
theorem d_FG_plan_4 : decode M_FG_plan.2.1 4 = .ok (.ifCond .eq 22, 3) := by decide +kernel
theorem d_FG_plan_7 : decode M_FG_plan.2.1 7 = .ok (.iload_n 2, 1) := by decide +kernel
theorem d_FG_plan_8 : decode M_FG_plan.2.1 8 = .ok (.iconst 0, 1) := by decide +kernel
theorem d_FG_plan_9 : decode M_FG_plan.2.1 9 = .ok (.iconst 5, 1) := by decide +kernel
theorem d_FG_plan_10 : decode M_FG_plan.2.1 10 = .ok (.invokestatic 61, 3) := by decide +kernel
theorem d_FG_plan_13 : decode M_FG_plan.2.1 13 = .ok (.ifCond .eq 13, 3) := by decide +kernel
theorem d_FG_plan_16 : decode M_FG_plan.2.1 16 = .ok (.iload_n 3, 1) := by decide +kernel
theorem d_FG_plan_17 : decode M_FG_plan.2.1 17 = .ok (.iconst 1, 1) := by decide +kernel
theorem d_FG_plan_18 : decode M_FG_plan.2.1 18 = .ok (.bipush 120, 2) := by decide +kernel
theorem d_FG_plan_20 : decode M_FG_plan.2.1 20 = .ok (.invokestatic 61, 3) := by decide +kernel
theorem d_FG_plan_23 : decode M_FG_plan.2.1 23 = .ok (.ifCond .ne 7, 3) := by decide +kernel
theorem d_FG_plan_26 : decode M_FG_plan.2.1 26 = .ok (.ldc2_w 253, 3) := by decide +kernel
theorem d_FG_plan_29 : decode M_FG_plan.2.1 29 = .ok (.lreturn, 1) := by decide +kernel
theorem d_FG_plan_30 : decode M_FG_plan.2.1 30 = .ok (.aload_n 0, 1) := by decide +kernel
theorem d_FG_plan_31 : decode M_FG_plan.2.1 31 = .ok (.getfield 19, 3) := by decide +kernel
theorem d_FG_plan_34 : decode M_FG_plan.2.1 34 = .ok (.getfield 111, 3) := by decide +kernel
theorem d_FG_plan_37 : decode M_FG_plan.2.1 37 = .ok (.iload_n 3, 1) := by decide +kernel
theorem d_FG_plan_38 : decode M_FG_plan.2.1 38 = .ok (.iadd, 1) := by decide +kernel
theorem d_FG_plan_39 : decode M_FG_plan.2.1 39 = .ok (.sipush 14400, 3) := by decide +kernel
theorem d_FG_plan_42 : decode M_FG_plan.2.1 42 = .ok (.if_icmp .gt 11, 3) := by decide +kernel
theorem d_FG_plan_45 : decode M_FG_plan.2.1 45 = .ok (.aload_n 0, 1) := by decide +kernel
theorem d_FG_plan_46 : decode M_FG_plan.2.1 46 = .ok (.iload_n 1, 1) := by decide +kernel
theorem d_FG_plan_47 : decode M_FG_plan.2.1 47 = .ok (.invokevirtual 258, 3) := by decide +kernel
theorem d_FG_plan_50 : decode M_FG_plan.2.1 50 = .ok (.ifCond .ne 7, 3) := by decide +kernel
theorem d_FG_plan_53 : decode M_FG_plan.2.1 53 = .ok (.ldc2_w 253, 3) := by decide +kernel
theorem d_FG_plan_56 : decode M_FG_plan.2.1 56 = .ok (.lreturn, 1) := by decide +kernel
theorem d_FG_plan_57 : decode M_FG_plan.2.1 57 = .ok (.iconst 1, 1) := by decide +kernel
theorem d_FG_plan_58 : decode M_FG_plan.2.1 58 = .ok (.aload_n 0, 1) := by decide +kernel
theorem d_FG_plan_59 : decode M_FG_plan.2.1 59 = .ok (.getfield 50, 3) := by decide +kernel
theorem d_FG_plan_62 : decode M_FG_plan.2.1 62 = .ok (.iload_n 1, 1) := by decide +kernel
theorem d_FG_plan_63 : decode M_FG_plan.2.1 63 = .ok (.iaload, 1) := by decide +kernel
theorem d_FG_plan_64 : decode M_FG_plan.2.1 64 = .ok (.iconst 2, 1) := by decide +kernel
theorem d_FG_plan_65 : decode M_FG_plan.2.1 65 = .ok (.idiv, 1) := by decide +kernel
theorem d_FG_plan_66 : decode M_FG_plan.2.1 66 = .ok (.ishl, 1) := by decide +kernel
theorem d_FG_plan_67 : decode M_FG_plan.2.1 67 = .ok (.istore 4, 2) := by decide +kernel
theorem d_FG_plan_69 : decode M_FG_plan.2.1 69 = .ok (.ldc2_w 261, 3) := by decide +kernel
theorem d_FG_plan_72 : decode M_FG_plan.2.1 72 = .ok (.lstore 5, 2) := by decide +kernel
theorem d_FG_plan_74 : decode M_FG_plan.2.1 74 = .ok (.iconst 0, 1) := by decide +kernel
theorem d_FG_plan_75 : decode M_FG_plan.2.1 75 = .ok (.istore 7, 2) := by decide +kernel
theorem d_FG_plan_77 : decode M_FG_plan.2.1 77 = .ok (.iload 7, 2) := by decide +kernel
theorem d_FG_plan_79 : decode M_FG_plan.2.1 79 = .ok (.iload 4, 2) := by decide +kernel
theorem d_FG_plan_81 : decode M_FG_plan.2.1 81 = .ok (.if_icmp .ge 68, 3) := by decide +kernel
theorem d_FG_plan_84 : decode M_FG_plan.2.1 84 = .ok (.iload 7, 2) := by decide +kernel
theorem d_FG_plan_86 : decode M_FG_plan.2.1 86 = .ok (.invokestatic 263, 3) := by decide +kernel
theorem d_FG_plan_89 : decode M_FG_plan.2.1 89 = .ok (.iload_n 2, 1) := by decide +kernel
theorem d_FG_plan_90 : decode M_FG_plan.2.1 90 = .ok (.if_icmp .le 6, 3) := by decide +kernel
theorem d_FG_plan_93 : decode M_FG_plan.2.1 93 = .ok (.goto 50, 3) := by decide +kernel
theorem d_FG_plan_96 : decode M_FG_plan.2.1 96 = .ok (.aload_n 0, 1) := by decide +kernel
theorem d_FG_plan_97 : decode M_FG_plan.2.1 97 = .ok (.aload_n 0, 1) := by decide +kernel
theorem d_FG_plan_98 : decode M_FG_plan.2.1 98 = .ok (.getfield 47, 3) := by decide +kernel
theorem d_FG_plan_101 : decode M_FG_plan.2.1 101 = .ok (.iload_n 1, 1) := by decide +kernel
theorem d_FG_plan_102 : decode M_FG_plan.2.1 102 = .ok (.aaload, 1) := by decide +kernel
theorem d_FG_plan_103 : decode M_FG_plan.2.1 103 = .ok (.iload 7, 2) := by decide +kernel
theorem d_FG_plan_105 : decode M_FG_plan.2.1 105 = .ok (.iload_n 3, 1) := by decide +kernel
theorem d_FG_plan_106 : decode M_FG_plan.2.1 106 = .ok (.invokevirtual 268, 3) := by decide +kernel
theorem d_FG_plan_109 : decode M_FG_plan.2.1 109 = .ok (.lstore 8, 2) := by decide +kernel
theorem d_FG_plan_111 : decode M_FG_plan.2.1 111 = .ok (.lload 8, 2) := by decide +kernel
theorem d_FG_plan_113 : decode M_FG_plan.2.1 113 = .ok (.lconst 0, 1) := by decide +kernel
theorem d_FG_plan_114 : decode M_FG_plan.2.1 114 = .ok (.lcmp, 1) := by decide +kernel
theorem d_FG_plan_115 : decode M_FG_plan.2.1 115 = .ok (.ifCond .lt 28, 3) := by decide +kernel
theorem d_FG_plan_118 : decode M_FG_plan.2.1 118 = .ok (.lload 5, 2) := by decide +kernel
theorem d_FG_plan_120 : decode M_FG_plan.2.1 120 = .ok (.lconst 0, 1) := by decide +kernel
theorem d_FG_plan_121 : decode M_FG_plan.2.1 121 = .ok (.lcmp, 1) := by decide +kernel
theorem d_FG_plan_122 : decode M_FG_plan.2.1 122 = .ok (.ifCond .lt 11, 3) := by decide +kernel
theorem d_FG_plan_125 : decode M_FG_plan.2.1 125 = .ok (.lload 8, 2) := by decide +kernel
theorem d_FG_plan_127 : decode M_FG_plan.2.1 127 = .ok (.lload 5, 2) := by decide +kernel
theorem d_FG_plan_129 : decode M_FG_plan.2.1 129 = .ok (.lcmp, 1) := by decide +kernel
theorem d_FG_plan_130 : decode M_FG_plan.2.1 130 = .ok (.ifCond .ge 13, 3) := by decide +kernel
theorem d_FG_plan_133 : decode M_FG_plan.2.1 133 = .ok (.lload 8, 2) := by decide +kernel
theorem d_FG_plan_135 : decode M_FG_plan.2.1 135 = .ok (.lstore 5, 2) := by decide +kernel
theorem d_FG_plan_137 : decode M_FG_plan.2.1 137 = .ok (.aload_n 0, 1) := by decide +kernel
theorem d_FG_plan_138 : decode M_FG_plan.2.1 138 = .ok (.iload 7, 2) := by decide +kernel
theorem d_FG_plan_140 : decode M_FG_plan.2.1 140 = .ok (.putfield 272, 3) := by decide +kernel
theorem d_FG_plan_143 : decode M_FG_plan.2.1 143 = .ok (.iinc 7 1, 3) := by decide +kernel
theorem d_FG_plan_146 : decode M_FG_plan.2.1 146 = .ok (.goto (-69), 3) := by decide +kernel
theorem d_FG_plan_149 : decode M_FG_plan.2.1 149 = .ok (.lload 5, 2) := by decide +kernel
theorem d_FG_plan_151 : decode M_FG_plan.2.1 151 = .ok (.lreturn, 1) := by decide +kernel
set_option maxHeartbeats 4000000 in
set_option maxRecDepth 100000 in
theorem pl_FG_plan {D : xD} {N : Nat} {l : Launch} {d : Nat} {c V : T2} {P : Nat → Int32} {ln df : Nat → Option Nat} {rest : List va_E} {K : Option Value → List va_E → Prop} {nb : Nat} (hnb : c 32 1 = nI nb) (h12 : nb ≤ 12) {m : Nat} (hWV : WV c P nb m) (hm : m ≤ 14400) (hT : TI c) (hSE : SE c) (hCI : CI c) (hLOK : LOK D N c ln rest) {s n h q : Nat} {t : Int32} (hs : s < 4) (ht : tpl c s) (eh : tn (c 30 s) / 2 = h) (hh : h < 6) (hp5 : 2 ^ h ≤ 32) (hmn : m + n ≤ 14400) (hSt : St P q) (hq : q < 800000000) (hK : ∀ (x2 : T2) (Z : Nat → Int32), K (some (.long (ovL (plN c P nb m s t n (2 ^ h)).1))) (encC D N (plC c (plN c P nb m s t n (2 ^ h)).2) x2 (va_up (va_up V 0 P) 1 Z) ln df ++ rest)) : ∀ k, k ≤ 2 ^ h → ∀ (x : T2) (Z : Nat → Int32), Wp D N l (EI M_FG_plan) M_FG_plan (Rm (d + 8) 0 0) (Qm D N K 0 0) 0 0 77 [(7, .int (nI k)), (5, .long (ovL (plN c P nb m s t n k).1)), (4, .int (nI (2 ^ h))), (0, .ref (N + 0)), (1, .int (nI s)), (2, .int t), (3, .int (nI n))] [] (encC D N (plC c (plN c P nb m s t n k).2) x (va_up (va_up V 0 P) 1 Z) ln df ++ rest) := by
  refine up_loop ?_ ?_
  · intro x Z
    refine wp_iload (q := 79) d_FG_plan_77 rfl rfl ?_
    refine wp_iload (q := 81) d_FG_plan_79 rfl rfl ?_
    refine wp_icmp_ge_t (tgt := 149) d_FG_plan_81 (by decide) (nI_le (Nat.le_refl _) (by omega)) ?_
    refine wp_lload (q := 151) d_FG_plan_149 rfl rfl ?_
    refine wp_lret d_FG_plan_151 rfl (Nat.le_refl _) (Nat.le_refl _) ?_
    exact hK x Z
  · intro k hk ih x Z
    by_cases hb : nI (bcN k 6) ≤ t
    · cases hv : plV (plC c (plN c P nb m s t n k).2) P nb m s n k with
      | none =>
        refine wp_iload (q := 79) d_FG_plan_77 rfl rfl ?_
        refine wp_iload (q := 81) d_FG_plan_79 rfl rfl ?_
        refine wp_icmp_ge_f (q := 84) (tgt := 149) d_FG_plan_81 (by decide) rfl (nI_ge hk (by omega)) ?_
        refine wp_iload (q := 86) d_FG_plan_84 rfl rfl ?_
        refine wp_cs1 (q := 89) lk_FG_263 (ro _ _ _) d_FG_plan_86 rfl (Nat.le_of_ble_eq_true rfl) (Nat.zero_le _) (Nat.zero_le _) ?_
        refine ok_JI_bitCount (by omega) ?_
        refine wp_iload_n (q := 90) d_FG_plan_89 rfl rfl ?_
        refine wp_icmp_le_t (tgt := 96) d_FG_plan_90 (by decide) (hb) ?_
        refine wp_aload_n (q := 97) d_FG_plan_96 rfl rfl ?_
        refine wp_aload_n (q := 98) d_FG_plan_97 rfl rfl ?_
        refine wp_get (q := 101) fl_FG_47 d_FG_plan_98 rfl rfl rfl ?_
        refine wp_iload_n (q := 102) d_FG_plan_101 rfl rfl ?_
        refine wp_aldA (q := 103) d_FG_plan_102 rfl (rfl) (by omega) (by decide) (rows_at (by omega)) ?_
        refine wp_iload (q := 105) d_FG_plan_103 rfl rfl ?_
        refine wp_iload_n (q := 106) d_FG_plan_105 rfl rfl ?_
        refine wp_cv3 (q := 109) lk_FG_268 (ro _ _ _) d_FG_plan_106 rfl (Nat.le_of_ble_eq_true rfl) (rfl) rfl (Nat.zero_le _) (Nat.zero_le _) ?_
        rw [← vz (V := V) (P := P) (Z := Z)]
        refine ok_FG_waitedWith (c := plC c (plN c P nb m s t n k).2) (h := h) hnb h12 hWV hm hT hSE hCI hLOK hs ht eh hk hmn hSt hq (fun x2 Z2 => ?_)
        rw [vz, va_up2, hv]
        dsimp only [ovL]
        refine wp_lstore (q := 111) (L2 := [(8, _), (7, _), (5, _), (4, _), (0, _), (1, _), (2, _), (3, _)]) d_FG_plan_109 rfl (by decide) rfl ?_
        refine wp_lload (q := 113) d_FG_plan_111 rfl rfl ?_
        refine wp_lconst (q := 114) d_FG_plan_113 rfl rfl ?_
        refine wp_lcmp (q := 115) d_FG_plan_114 rfl ?_
        refine wp_if_lt_t (tgt := 143) d_FG_plan_115 (by decide) (by decide) ?_
        refine wp_iinc (q := 146) (L2 := [(7, _), (8, _), (5, _), (4, _), (0, _), (1, _), (2, _), (3, _)]) d_FG_plan_143 rfl rfl (iinc_1) (by decide) rfl ?_
        refine wp_goto (tgt := 77) d_FG_plan_146 (by decide) ?_
        refine wp_sub [0, 2, 3, 4, 5, 6, 7] rfl ?_
        rw [pl_b hb hv] at ih; exact ih x2 Z2
      | some v =>
        obtain ⟨a, ha, rfl⟩ := plV_some (c := plC c (plN c P nb m s t n k).2) hWV hSt hq ht hnb h12 hT hSE eh (show k < 2 ^ h by omega) hmn hv
        cases hw : (plN c P nb m s t n k).1 with
        | none =>
          refine wp_iload (q := 79) d_FG_plan_77 rfl rfl ?_
          refine wp_iload (q := 81) d_FG_plan_79 rfl rfl ?_
          refine wp_icmp_ge_f (q := 84) (tgt := 149) d_FG_plan_81 (by decide) rfl (nI_ge hk (by omega)) ?_
          refine wp_iload (q := 86) d_FG_plan_84 rfl rfl ?_
          refine wp_cs1 (q := 89) lk_FG_263 (ro _ _ _) d_FG_plan_86 rfl (Nat.le_of_ble_eq_true rfl) (Nat.zero_le _) (Nat.zero_le _) ?_
          refine ok_JI_bitCount (by omega) ?_
          refine wp_iload_n (q := 90) d_FG_plan_89 rfl rfl ?_
          refine wp_icmp_le_t (tgt := 96) d_FG_plan_90 (by decide) (hb) ?_
          refine wp_aload_n (q := 97) d_FG_plan_96 rfl rfl ?_
          refine wp_aload_n (q := 98) d_FG_plan_97 rfl rfl ?_
          refine wp_get (q := 101) fl_FG_47 d_FG_plan_98 rfl rfl rfl ?_
          refine wp_iload_n (q := 102) d_FG_plan_101 rfl rfl ?_
          refine wp_aldA (q := 103) d_FG_plan_102 rfl (rfl) (by omega) (by decide) (rows_at (by omega)) ?_
          refine wp_iload (q := 105) d_FG_plan_103 rfl rfl ?_
          refine wp_iload_n (q := 106) d_FG_plan_105 rfl rfl ?_
          refine wp_cv3 (q := 109) lk_FG_268 (ro _ _ _) d_FG_plan_106 rfl (Nat.le_of_ble_eq_true rfl) (rfl) rfl (Nat.zero_le _) (Nat.zero_le _) ?_
          rw [← vz (V := V) (P := P) (Z := Z)]
          refine ok_FG_waitedWith (c := plC c (plN c P nb m s t n k).2) (h := h) hnb h12 hWV hm hT hSE hCI hLOK hs ht eh hk hmn hSt hq (fun x2 Z2 => ?_)
          rw [vz, va_up2, hv]
          dsimp only [ovL]
          refine wp_lstore (q := 111) (L2 := [(8, _), (7, _), (5, _), (4, _), (0, _), (1, _), (2, _), (3, _)]) d_FG_plan_109 rfl (by decide) rfl ?_
          refine wp_lload (q := 113) d_FG_plan_111 rfl rfl ?_
          refine wp_lconst (q := 114) d_FG_plan_113 rfl rfl ?_
          refine wp_lcmp (q := 115) d_FG_plan_114 rfl ?_
          refine wp_if_lt_f (q := 118) (tgt := 143) d_FG_plan_115 (by decide) rfl (i64_0 ha) ?_
          refine wp_lload (q := 120) d_FG_plan_118 rfl rfl ?_
          refine wp_lconst (q := 121) d_FG_plan_120 rfl rfl ?_
          refine wp_lcmp (q := 122) d_FG_plan_121 rfl ?_
          refine wp_if_lt_t (tgt := 133) d_FG_plan_122 (by decide) (by decide) ?_
          refine wp_lload (q := 135) d_FG_plan_133 rfl rfl ?_
          refine wp_lstore (q := 137) (L2 := [(5, _), (8, _), (7, _), (4, _), (0, _), (1, _), (2, _), (3, _)]) d_FG_plan_135 rfl (by decide) rfl ?_
          refine wp_aload_n (q := 138) d_FG_plan_137 rfl rfl ?_
          refine wp_iload (q := 140) d_FG_plan_138 rfl rfl ?_
          refine wp_put (q := 143) fl_FG_272 d_FG_plan_140 rfl rfl (Nat.le_of_ble_eq_true rfl) rfl rfl (fc_s2) ?_
          refine wp_iinc (q := 146) (L2 := [(7, _), (5, _), (8, _), (4, _), (0, _), (1, _), (2, _), (3, _)]) d_FG_plan_143 rfl rfl (iinc_1) (by decide) rfl ?_
          refine wp_goto (tgt := 77) d_FG_plan_146 (by decide) ?_
          refine wp_sub [0, 1, 3, 4, 5, 6, 7] rfl ?_
          rw [pl_c hb hv hw] at ih
          rw [plC_2]
          exact ih x2 Z2
        | some u =>
          obtain ⟨a2, hu, rfl⟩ := pl_some (t := t) hWV hSt hq ht hnb h12 hT hSE eh hmn k (by omega) u hw
          refine wp_iload (q := 79) d_FG_plan_77 rfl rfl ?_
          refine wp_iload (q := 81) d_FG_plan_79 rfl rfl ?_
          refine wp_icmp_ge_f (q := 84) (tgt := 149) d_FG_plan_81 (by decide) rfl (nI_ge hk (by omega)) ?_
          refine wp_iload (q := 86) d_FG_plan_84 rfl rfl ?_
          refine wp_cs1 (q := 89) lk_FG_263 (ro _ _ _) d_FG_plan_86 rfl (Nat.le_of_ble_eq_true rfl) (Nat.zero_le _) (Nat.zero_le _) ?_
          refine ok_JI_bitCount (by omega) ?_
          refine wp_iload_n (q := 90) d_FG_plan_89 rfl rfl ?_
          refine wp_icmp_le_t (tgt := 96) d_FG_plan_90 (by decide) (hb) ?_
          refine wp_aload_n (q := 97) d_FG_plan_96 rfl rfl ?_
          refine wp_aload_n (q := 98) d_FG_plan_97 rfl rfl ?_
          refine wp_get (q := 101) fl_FG_47 d_FG_plan_98 rfl rfl rfl ?_
          refine wp_iload_n (q := 102) d_FG_plan_101 rfl rfl ?_
          refine wp_aldA (q := 103) d_FG_plan_102 rfl (rfl) (by omega) (by decide) (rows_at (by omega)) ?_
          refine wp_iload (q := 105) d_FG_plan_103 rfl rfl ?_
          refine wp_iload_n (q := 106) d_FG_plan_105 rfl rfl ?_
          refine wp_cv3 (q := 109) lk_FG_268 (ro _ _ _) d_FG_plan_106 rfl (Nat.le_of_ble_eq_true rfl) (rfl) rfl (Nat.zero_le _) (Nat.zero_le _) ?_
          rw [← vz (V := V) (P := P) (Z := Z)]
          refine ok_FG_waitedWith (c := plC c (plN c P nb m s t n k).2) (h := h) hnb h12 hWV hm hT hSE hCI hLOK hs ht eh hk hmn hSt hq (fun x2 Z2 => ?_)
          rw [vz, va_up2, hv]
          dsimp only [ovL]
          refine wp_lstore (q := 111) (L2 := [(8, _), (7, _), (5, _), (4, _), (0, _), (1, _), (2, _), (3, _)]) d_FG_plan_109 rfl (by decide) rfl ?_
          refine wp_lload (q := 113) d_FG_plan_111 rfl rfl ?_
          refine wp_lconst (q := 114) d_FG_plan_113 rfl rfl ?_
          refine wp_lcmp (q := 115) d_FG_plan_114 rfl ?_
          refine wp_if_lt_f (q := 118) (tgt := 143) d_FG_plan_115 (by decide) rfl (i64_0 ha) ?_
          refine wp_lload (q := 120) d_FG_plan_118 rfl rfl ?_
          refine wp_lconst (q := 121) d_FG_plan_120 rfl rfl ?_
          refine wp_lcmp (q := 122) d_FG_plan_121 rfl ?_
          refine wp_if_lt_f (q := 125) (tgt := 133) d_FG_plan_122 (by decide) rfl (i64_0 hu) ?_
          refine wp_lload (q := 127) d_FG_plan_125 rfl rfl ?_
          refine wp_lload (q := 129) d_FG_plan_127 rfl rfl ?_
          refine wp_lcmp (q := 130) d_FG_plan_129 rfl ?_
          refine wp_if_ge (q := 133) (tgt := 143) d_FG_plan_130 (by decide) rfl (fun hc_130 => ?_) (fun hc_130 => ?_)
          · refine wp_iinc (q := 146) (L2 := [(7, _), (8, _), (5, _), (4, _), (0, _), (1, _), (2, _), (3, _)]) d_FG_plan_143 rfl rfl (iinc_1) (by decide) rfl ?_
            refine wp_goto (tgt := 77) d_FG_plan_146 (by decide) ?_
            refine wp_sub [0, 2, 3, 4, 5, 6, 7] rfl ?_
            rw [pl_e hb hv hw (nlt64 ((lg_cmp_ge _ _).mp hc_130))] at ih
            rw [hw] at ih
            exact ih x2 Z2
          · refine wp_lload (q := 135) d_FG_plan_133 rfl rfl ?_
            refine wp_lstore (q := 137) (L2 := [(5, _), (8, _), (7, _), (4, _), (0, _), (1, _), (2, _), (3, _)]) d_FG_plan_135 rfl (by decide) rfl ?_
            refine wp_aload_n (q := 138) d_FG_plan_137 rfl rfl ?_
            refine wp_iload (q := 140) d_FG_plan_138 rfl rfl ?_
            refine wp_put (q := 143) fl_FG_272 d_FG_plan_140 rfl rfl (Nat.le_of_ble_eq_true rfl) rfl rfl (fc_s2) ?_
            refine wp_iinc (q := 146) (L2 := [(7, _), (5, _), (8, _), (4, _), (0, _), (1, _), (2, _), (3, _)]) d_FG_plan_143 rfl rfl (iinc_1) (by decide) rfl ?_
            refine wp_goto (tgt := 77) d_FG_plan_146 (by decide) ?_
            refine wp_sub [0, 1, 3, 4, 5, 6, 7] rfl ?_
            rw [pl_d hb hv hw (nle64 (fun g => hc_130 ((lg_cmp_ge _ _).mpr g)))] at ih
            rw [plC_2]
            exact ih x2 Z2
    · skip
      refine wp_iload (q := 79) d_FG_plan_77 rfl rfl ?_
      refine wp_iload (q := 81) d_FG_plan_79 rfl rfl ?_
      refine wp_icmp_ge_f (q := 84) (tgt := 149) d_FG_plan_81 (by decide) rfl (nI_ge hk (by omega)) ?_
      refine wp_iload (q := 86) d_FG_plan_84 rfl rfl ?_
      refine wp_cs1 (q := 89) lk_FG_263 (ro _ _ _) d_FG_plan_86 rfl (Nat.le_of_ble_eq_true rfl) (Nat.zero_le _) (Nat.zero_le _) ?_
      refine ok_JI_bitCount (by omega) ?_
      refine wp_iload_n (q := 90) d_FG_plan_89 rfl rfl ?_
      refine wp_icmp_le_f (q := 93) (tgt := 96) d_FG_plan_90 (by decide) rfl (hb) ?_
      refine wp_goto (tgt := 143) d_FG_plan_93 (by decide) ?_
      refine wp_iinc (q := 146) (L2 := [(7, _), (5, _), (4, _), (0, _), (1, _), (2, _), (3, _)]) d_FG_plan_143 rfl rfl (iinc_1) (by decide) rfl ?_
      refine wp_goto (tgt := 77) d_FG_plan_146 (by decide) ?_
      rw [pl_a hb] at ih; exact ih x Z
set_option maxHeartbeats 4000000 in
set_option maxRecDepth 100000 in
theorem ok_FG_plan {D : xD} {N : Nat} {l : Launch} {d : Nat} {c x V : T2} {P : Nat → Int32} {ln df : Nat → Option Nat} {rest : List va_E} {K : Option Value → List va_E → Prop} {s t n : Int32} {nb : Nat} (hnb : c 32 1 = nI nb) (h12 : nb ≤ 12) {m : Nat} (hWV : WV c P nb m) (hm : m ≤ 14400) (hT : TI c) (hSE : SE c) (hCI : CI c) (hLOK : LOK D N c ln rest) (hSZ : ∀ s, s < 4 → isN (c 30 s) 41) {q : Nat} (hSt : St P q) (hq : q < 800000000) (hK : ∀ (x2 : T2) (Z : Nat → Int32), K (some (.long (sp_plan c P nb m s t n).1)) (encC D N (sp_plan c P nb m s t n).2 x2 (va_up (va_up V 0 P) 1 Z) ln df ++ rest)) : Ok D N l (d + 8) M_FG_plan [.ref (N + 0), .int s, .int t, .int n] (encC D N c x (va_up V 0 P) ln df ++ rest) 0 0 K := by
  refine ok_of (L := [(0, _), (1, _), (2, _), (3, _)]) (by decide) (Nat.le_of_ble_eq_true rfl) rfl ?_
  refine wp_iload_n (q := 1) d_FG_plan_0 rfl rfl ?_
  refine wp_cs1 (q := 4) lk_FG_255 (ro _ _ _) d_FG_plan_1 rfl (Nat.le_of_ble_eq_true rfl) (Nat.zero_le _) (Nat.zero_le _) ?_
  refine ok_FG_isSheet (fun s1 hs1 e => ?_) (fun hs1 => ?_)
  · subst e
    obtain ⟨sz, hsz, es⟩ := (hSZ s1 (by omega)).ex
    refine wp_if_eq_f (q := 7) (tgt := 26) d_FG_plan_4 (by decide) rfl (by decide) ?_
    refine wp_iload_n (q := 8) d_FG_plan_7 rfl rfl ?_
    refine wp_iconst (q := 9) d_FG_plan_8 rfl ic_0 ?_
    refine wp_iconst (q := 10) d_FG_plan_9 rfl ic_5 ?_
    refine wp_cs3 (q := 13) lk_FG_61 (ro _ _ _) d_FG_plan_10 rfl (Nat.le_of_ble_eq_true rfl) (Nat.zero_le _) (Nat.zero_le _) ?_
    refine ok_FG_within (fun hta htb => ?_) (fun htn => ?_)
    · refine wp_if_eq_f (q := 16) (tgt := 26) d_FG_plan_13 (by decide) rfl (by decide) ?_
      refine wp_iload_n (q := 17) d_FG_plan_16 rfl rfl ?_
      refine wp_iconst (q := 18) d_FG_plan_17 rfl ic_1 ?_
      refine wp_bipush (q := 20) d_FG_plan_18 rfl bp_120 ?_
      refine wp_cs3 (q := 23) lk_FG_61 (ro _ _ _) d_FG_plan_20 rfl (Nat.le_of_ble_eq_true rfl) (Nat.zero_le _) (Nat.zero_le _) ?_
      refine ok_FG_within (fun hwa hwb => ?_) (fun hwn => ?_)
      · refine wp_if_ne_t (tgt := 30) d_FG_plan_23 (by decide) (by decide) ?_
        refine wp_aload_n (q := 31) d_FG_plan_30 rfl rfl ?_
        refine wp_get (q := 34) fl_FG_19 d_FG_plan_31 rfl rfl rfl ?_
        refine wp_get (q := 37) fl_FG_111 d_FG_plan_34 rfl (rdO (w := 0) (by decide)) rfl ?_
        rw [hWV.1.1]
        refine wp_iload_n (q := 38) d_FG_plan_37 rfl rfl ?_
        first | refine wp_iaddN (q := 39) d_FG_plan_38 rfl ?_ | refine wp_iadd (q := 39) d_FG_plan_38 rfl ?_
        refine wp_sipush (q := 42) d_FG_plan_39 rfl sp_14400 ?_
        refine wp_icmp_gt (q := 45) (tgt := 53) d_FG_plan_42 (by decide) rfl (fun hc_42 => ?_) (fun hc_42 => ?_)
        · refine wp_ldc2 (q := 56) d_FG_plan_53 rfl kl_FG_253 ?_
          refine wp_lret d_FG_plan_56 rfl (Nat.le_refl _) (Nat.le_refl _) ?_
          have h := hK x (va_up V 0 P 1)
          rw [va_upid, spp_n (fun g => le_nlt g.2.2.2.1 hc_42)] at h
          exact h
        · refine wp_aload_n (q := 46) d_FG_plan_45 rfl rfl ?_
          refine wp_iload_n (q := 47) d_FG_plan_46 rfl rfl ?_
          refine wp_cv1 (q := 50) lk_FG_258 (ro _ _ _) d_FG_plan_47 rfl (Nat.le_of_ble_eq_true rfl) (rfl) rfl (Nat.zero_le _) (Nat.zero_le _) ?_
          refine ok_FG_tellsPlaces hnb h12 (by omega) es hsz (fun hg => ?_) (fun hg => ?_)
          · refine wp_if_ne_t (tgt := 57) d_FG_plan_50 (by decide) (by decide) ?_
            refine wp_iconst (q := 58) d_FG_plan_57 rfl ic_1 ?_
            refine wp_aload_n (q := 59) d_FG_plan_58 rfl rfl ?_
            refine wp_get (q := 62) fl_FG_50 d_FG_plan_59 rfl rfl rfl ?_
            refine wp_iload_n (q := 63) d_FG_plan_62 rfl rfl ?_
            refine wp_iald (q := 64) d_FG_plan_63 rfl (rfl) (by omega) (by decide) ?_
            rw [es]
            refine wp_iconst (q := 65) d_FG_plan_64 rfl ic_2 ?_
            refine wp_idivN (q := 66) d_FG_plan_65 rfl (by omega) (by decide) (by decide) ?_
            refine wp_ishl (q := 67) d_FG_plan_66 rfl ?_
            rw [sh_5 (sz / 2) (by have := ((tpl.sz es hsz).mp hg).2.2.1; omega)]
            refine wp_istore (q := 69) (L2 := [(4, _), (0, _), (1, _), (2, _), (3, _)]) d_FG_plan_67 rfl (by decide) rfl ?_
            refine wp_ldc2 (q := 72) d_FG_plan_69 rfl kl_FG_261 ?_
            refine wp_lstore (q := 74) (L2 := [(5, _), (4, _), (0, _), (1, _), (2, _), (3, _)]) d_FG_plan_72 rfl (by decide) rfl ?_
            refine wp_iconst (q := 75) d_FG_plan_74 rfl ic_0 ?_
            refine wp_istore (q := 77) (L2 := [(7, _), (5, _), (4, _), (0, _), (1, _), (2, _), (3, _)]) d_FG_plan_75 rfl (by decide) rfl ?_
            obtain ⟨n1, hn1, hn2, rfl⟩ := nI_btw1 (by decide) hwa hwb
            have hgo : plOK c m (nI s1) t (nI n1) := ⟨inn_t hs1, ⟨hta, htb⟩, ⟨hwa, hwb⟩, nlt_le hc_42, by rw [tnl hs1]; exact hg⟩
            have hmn : m + n1 ≤ 14400 := by
              have h := nlt_le hc_42
              rw [nI_add] at h
              exact (nI_leI (by omega) (by decide)).mp h
            have h10 := ((tpl.sz es hsz).mp hg).2.2.1
            have eh : tn (c 30 s1) / 2 = sz / 2 := by rw [es, tnt hsz]
            have hp5 : 2 ^ (sz / 2) ≤ 32 := Nat.pow_le_pow_right (by decide) (show sz / 2 ≤ 5 by omega)
            have h0 := pl_FG_plan (l := l) (d := d) (df := df) (K := K) hnb h12 hWV hm hT hSE hCI hLOK (n := n1) (t := t) (show s1 < 4 by omega) hg eh (by omega) hp5 hmn hSt hq (fun x2 Z => by have h := hK x2 Z; rw [spp_y hgo, tnl hs1, tnl hn2, eh] at h; exact h) 0 (Nat.zero_le _) x (va_up V 0 P 1)
            rw [va_upid] at h0
            simp only [plN, plC_0, ovL] at h0
            exact h0
          · refine wp_if_ne_f (q := 53) (tgt := 57) d_FG_plan_50 (by decide) rfl (by decide) ?_
            refine wp_ldc2 (q := 56) d_FG_plan_53 rfl kl_FG_253 ?_
            refine wp_lret d_FG_plan_56 rfl (Nat.le_refl _) (Nat.le_refl _) ?_
            have h := hK x (va_up V 0 P 1)
            rw [va_upid, spp_n (fun g => hg (by have := g.2.2.2.2; rw [tnl hs1] at this; exact this))] at h
            exact h
      · refine wp_if_ne_f (q := 26) (tgt := 30) d_FG_plan_23 (by decide) rfl (by decide) ?_
        refine wp_ldc2 (q := 29) d_FG_plan_26 rfl kl_FG_253 ?_
        refine wp_lret d_FG_plan_29 rfl (Nat.le_refl _) (Nat.le_refl _) ?_
        have h := hK x (va_up V 0 P 1)
        rw [va_upid, spp_n (fun g => hwn g.2.2.1)] at h
        exact h
    · refine wp_if_eq_t (tgt := 26) d_FG_plan_13 (by decide) (by decide) ?_
      refine wp_ldc2 (q := 29) d_FG_plan_26 rfl kl_FG_253 ?_
      refine wp_lret d_FG_plan_29 rfl (Nat.le_refl _) (Nat.le_refl _) ?_
      have h := hK x (va_up V 0 P 1)
      rw [va_upid, spp_n (fun g => htn g.2.1)] at h
      exact h
  · refine wp_if_eq_t (tgt := 26) d_FG_plan_4 (by decide) (by decide) ?_
    refine wp_ldc2 (q := 29) d_FG_plan_26 rfl kl_FG_253 ?_
    refine wp_lret d_FG_plan_29 rfl (Nat.le_refl _) (Nat.le_refl _) ?_
    have h := hK x (va_up V 0 P 1)
    rw [va_upid, spp_n (fun g => hs1 g.1)] at h
    exact h
