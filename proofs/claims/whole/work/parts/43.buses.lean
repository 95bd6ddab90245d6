def bsR (s : Nat) (fr : Int32) (sz : Nat) : Nat → Nat → Nat → T2 → Nat → Int32 × T2
  | 0, _, m, c, _ => (nI m, c)
  | f + 1, k, m, c, nb => if ¬ (0 ≤ fr.toInt ∧ fr.toInt + 4 * (k : Int) + 4 ≤ (sz : Int)) then (-12, c) else
    bsR s fr sz f (k + 1) (if (sp_bus c nb (c 31 (40 * s + (tn fr + 4 * k))) (c 31 (40 * s + (tn fr + 4 * k + 1))) (c 31 (40 * s + (tn fr + 4 * k + 2))) (c 31 (40 * s + (tn fr + 4 * k + 3)))).1 < 0 then m else m + 1) (sp_bus c nb (c 31 (40 * s + (tn fr + 4 * k))) (c 31 (40 * s + (tn fr + 4 * k + 1))) (c 31 (40 * s + (tn fr + 4 * k + 2))) (c 31 (40 * s + (tn fr + 4 * k + 3)))).2 (if (sp_bus c nb (c 31 (40 * s + (tn fr + 4 * k))) (c 31 (40 * s + (tn fr + 4 * k + 1))) (c 31 (40 * s + (tn fr + 4 * k + 2))) (c 31 (40 * s + (tn fr + 4 * k + 3)))).1 < 0 then nb else nb + 1)
theorem sb_inv {c : T2} {nb : Nat} (hnb : c 32 1 = nI nb) (h12 : nb ≤ 12) (s w a f : Int32) : (sp_bus c nb s w a f).2 32 1 = nI (if (sp_bus c nb s w a f).1 < 0 then nb else nb + 1) ∧ (if (sp_bus c nb s w a f).1 < 0 then nb else nb + 1) ≤ 12 ∧ (sp_bus c nb s w a f).2 30 = c 30 := by
  have e2 : (-2 : Int32) < 0 := by decide
  have e4 : (-4 : Int32) < 0 := by decide
  unfold sp_bus
  split
  · exact ⟨hnb, h12, rfl⟩
  · split
    · exact ⟨hnb, h12, rfl⟩
    · rw [if_neg (nI_pos (by omega))]
      refine ⟨?_, by omega, rfl⟩
      dsimp only
      rw [tput_eq, upd_eq]
theorem fr_y {fr : Int32} {k a : Nat} (h : k = 0 ∨ 0 ≤ fr.toInt) (hk : k ≤ 10) (ha : a < 41) (e : fr + nI (4 * k) = nI a) : ∃ fa, fr = nI fa ∧ a = fa + 4 * k := by
  rcases h with rfl | h
  · exact ⟨a, by rw [← e, show 4 * 0 = 0 from rfl, add_0], by omega⟩
  · obtain ⟨fa, hfa, rfl⟩ := nI_of (x := fr) (fun g => i_neg g h)
    refine ⟨fa, rfl, ?_⟩
    rw [nI_add] at e
    have := congrArg Int32.toInt e
    rw [nI_toInt (n := a) (by omega)] at this
    by_cases hb : fa + 4 * k < 2 ^ 31
    · rw [nI_toInt hb] at this; omega
    · exfalso
      have h2 : (nI (fa + 4 * k)).toInt = (fa + 4 * k : Int) - 4294967296 := by
        show (Int32.ofNat (fa + 4 * k)).toInt = _
        rw [Int32.toInt_ofNat', Int.bmod_def, show Int32.size = 4294967296 from rfl]
        split <;> omega
      rw [h2] at this
      omega
theorem fr_n {fr : Int32} {k sz : Nat} (hz : sz < 41) (h : ¬ fit (fr + nI (4 * k)) (nI 4) sz) : ¬ (0 ≤ fr.toInt ∧ fr.toInt + 4 * (k : Int) + 4 ≤ (sz : Int)) := by
  intro g
  apply h
  obtain ⟨fa, hfa, rfl⟩ := nI_of (x := fr) (fun q => i_neg q g.1)
  rw [nI_toInt hfa] at g
  rw [nI_add, fitN (by omega) (by decide)]
  omega
theorem fr_lt {fa d : Nat} (hfa : fa < 2 ^ 31) (hd : d ≤ 40) : nI (fa + d) < nI fa ↔ 2 ^ 31 ≤ fa + d := by
  rw [Int32.lt_iff_toInt_lt, nI_toInt hfa]
  by_cases hb : fa + d < 2 ^ 31
  · rw [nI_toInt hb]; omega
  · have h2 : (nI (fa + d)).toInt = (fa + d : Int) - 4294967296 := by
      show (Int32.ofNat (fa + d)).toInt = _
      rw [Int32.toInt_ofNat', Int.bmod_def, show Int32.size = 4294967296 from rfl]
      split <;> omega
    rw [h2]; omega
theorem fr_le {a sz : Nat} (ha : a < 2 ^ 31) (hz : sz < 41) : nI a ≤ nI sz - nI 4 ↔ a + 4 ≤ sz := by
  rw [Int32.le_iff_toInt_le, pk_sub_toInt (by omega) (by omega), nI_toInt ha]
  omega
def sp_buses (c : T2) (nb : Nat) (s t fr n : Int32) : Int32 × T2 := if ¬ inn s 3 ∨ ¬ inn t 2 ∨ ¬ inn n 10 then (-2, c) else if c 29 (tn s) = -1 then (-11, c) else if ¬ c 29 (tn s) = t then (-13, c) else bsR (tn s) fr (tn (c 30 (tn s))) (tn n) 0 0 c nb
theorem d_FG_buses_0 : decode M_FG_buses.2.1 0 = .ok (.iload_n 1, 1) := by decide +kernel
theorem d_FG_buses_1 : decode M_FG_buses.2.1 1 = .ok (.invokestatic 255, 3) := by decide +kernel
theorem d_FG_buses_4 : decode M_FG_buses.2.1 4 = .ok (.ifCond .eq 23, 3) := by decide +kernel
theorem d_FG_buses_7 : decode M_FG_buses.2.1 7 = .ok (.iload_n 2, 1) := by decide +kernel
theorem d_FG_buses_8 : decode M_FG_buses.2.1 8 = .ok (.iconst 0, 1) := by decide +kernel
theorem d_FG_buses_9 : decode M_FG_buses.2.1 9 = .ok (.iconst 2, 1) := by decide +kernel
theorem d_FG_buses_10 : decode M_FG_buses.2.1 10 = .ok (.invokestatic 61, 3) := by decide +kernel
theorem d_FG_buses_13 : decode M_FG_buses.2.1 13 = .ok (.ifCond .eq 14, 3) := by decide +kernel
theorem d_FG_buses_16 : decode M_FG_buses.2.1 16 = .ok (.iload 4, 2) := by decide +kernel
theorem d_FG_buses_18 : decode M_FG_buses.2.1 18 = .ok (.iconst 0, 1) := by decide +kernel
theorem d_FG_buses_19 : decode M_FG_buses.2.1 19 = .ok (.bipush 10, 2) := by decide +kernel
theorem d_FG_buses_21 : decode M_FG_buses.2.1 21 = .ok (.invokestatic 61, 3) := by decide +kernel
theorem d_FG_buses_24 : decode M_FG_buses.2.1 24 = .ok (.ifCond .ne 6, 3) := by decide +kernel
theorem d_FG_buses_27 : decode M_FG_buses.2.1 27 = .ok (.bipush (-2), 2) := by decide +kernel
theorem d_FG_buses_29 : decode M_FG_buses.2.1 29 = .ok (.ireturn, 1) := by decide +kernel
theorem d_FG_buses_30 : decode M_FG_buses.2.1 30 = .ok (.aload_n 0, 1) := by decide +kernel
theorem d_FG_buses_31 : decode M_FG_buses.2.1 31 = .ok (.getfield 54, 3) := by decide +kernel
theorem d_FG_buses_34 : decode M_FG_buses.2.1 34 = .ok (.iload_n 1, 1) := by decide +kernel
theorem d_FG_buses_35 : decode M_FG_buses.2.1 35 = .ok (.iaload, 1) := by decide +kernel
theorem d_FG_buses_36 : decode M_FG_buses.2.1 36 = .ok (.iconst (-1), 1) := by decide +kernel
theorem d_FG_buses_37 : decode M_FG_buses.2.1 37 = .ok (.if_icmp .ne 6, 3) := by decide +kernel
theorem d_FG_buses_40 : decode M_FG_buses.2.1 40 = .ok (.bipush (-11), 2) := by decide +kernel
theorem d_FG_buses_42 : decode M_FG_buses.2.1 42 = .ok (.ireturn, 1) := by decide +kernel
theorem d_FG_buses_43 : decode M_FG_buses.2.1 43 = .ok (.aload_n 0, 1) := by decide +kernel
theorem d_FG_buses_44 : decode M_FG_buses.2.1 44 = .ok (.getfield 54, 3) := by decide +kernel
theorem d_FG_buses_47 : decode M_FG_buses.2.1 47 = .ok (.iload_n 1, 1) := by decide +kernel
theorem d_FG_buses_48 : decode M_FG_buses.2.1 48 = .ok (.iaload, 1) := by decide +kernel
theorem d_FG_buses_49 : decode M_FG_buses.2.1 49 = .ok (.iload_n 2, 1) := by decide +kernel
theorem d_FG_buses_50 : decode M_FG_buses.2.1 50 = .ok (.if_icmp .eq 6, 3) := by decide +kernel
theorem d_FG_buses_53 : decode M_FG_buses.2.1 53 = .ok (.bipush (-13), 2) := by decide +kernel
theorem d_FG_buses_55 : decode M_FG_buses.2.1 55 = .ok (.ireturn, 1) := by decide +kernel
theorem d_FG_buses_56 : decode M_FG_buses.2.1 56 = .ok (.iconst 0, 1) := by decide +kernel
theorem d_FG_buses_57 : decode M_FG_buses.2.1 57 = .ok (.istore 5, 2) := by decide +kernel
theorem d_FG_buses_59 : decode M_FG_buses.2.1 59 = .ok (.iconst 0, 1) := by decide +kernel
theorem d_FG_buses_60 : decode M_FG_buses.2.1 60 = .ok (.istore 6, 2) := by decide +kernel
theorem d_FG_buses_62 : decode M_FG_buses.2.1 62 = .ok (.iload 6, 2) := by decide +kernel
theorem d_FG_buses_64 : decode M_FG_buses.2.1 64 = .ok (.iload 4, 2) := by decide +kernel
theorem d_FG_buses_66 : decode M_FG_buses.2.1 66 = .ok (.if_icmp .ge 78, 3) := by decide +kernel
theorem d_FG_buses_69 : decode M_FG_buses.2.1 69 = .ok (.iload_n 3, 1) := by decide +kernel
theorem d_FG_buses_70 : decode M_FG_buses.2.1 70 = .ok (.iconst 4, 1) := by decide +kernel
theorem d_FG_buses_71 : decode M_FG_buses.2.1 71 = .ok (.iload 6, 2) := by decide +kernel
theorem d_FG_buses_73 : decode M_FG_buses.2.1 73 = .ok (.imul, 1) := by decide +kernel
theorem d_FG_buses_74 : decode M_FG_buses.2.1 74 = .ok (.iadd, 1) := by decide +kernel
theorem d_FG_buses_75 : decode M_FG_buses.2.1 75 = .ok (.istore 7, 2) := by decide +kernel
theorem d_FG_buses_77 : decode M_FG_buses.2.1 77 = .ok (.aload_n 0, 1) := by decide +kernel
theorem d_FG_buses_78 : decode M_FG_buses.2.1 78 = .ok (.iload_n 1, 1) := by decide +kernel
theorem d_FG_buses_79 : decode M_FG_buses.2.1 79 = .ok (.iload 7, 2) := by decide +kernel
theorem d_FG_buses_81 : decode M_FG_buses.2.1 81 = .ok (.iconst 4, 1) := by decide +kernel
theorem d_FG_buses_82 : decode M_FG_buses.2.1 82 = .ok (.invokevirtual 304, 3) := by decide +kernel
theorem d_FG_buses_85 : decode M_FG_buses.2.1 85 = .ok (.ifCond .ne 6, 3) := by decide +kernel
theorem d_FG_buses_88 : decode M_FG_buses.2.1 88 = .ok (.bipush (-12), 2) := by decide +kernel
theorem d_FG_buses_90 : decode M_FG_buses.2.1 90 = .ok (.ireturn, 1) := by decide +kernel
theorem d_FG_buses_91 : decode M_FG_buses.2.1 91 = .ok (.aload_n 0, 1) := by decide +kernel
theorem d_FG_buses_92 : decode M_FG_buses.2.1 92 = .ok (.getfield 47, 3) := by decide +kernel
theorem d_FG_buses_95 : decode M_FG_buses.2.1 95 = .ok (.iload_n 1, 1) := by decide +kernel
theorem d_FG_buses_96 : decode M_FG_buses.2.1 96 = .ok (.aaload, 1) := by decide +kernel
theorem d_FG_buses_97 : decode M_FG_buses.2.1 97 = .ok (.astore 8, 2) := by decide +kernel
theorem d_FG_buses_99 : decode M_FG_buses.2.1 99 = .ok (.aload_n 0, 1) := by decide +kernel
theorem d_FG_buses_100 : decode M_FG_buses.2.1 100 = .ok (.getfield 10, 3) := by decide +kernel
theorem d_FG_buses_103 : decode M_FG_buses.2.1 103 = .ok (.aload 8, 2) := by decide +kernel
theorem d_FG_buses_105 : decode M_FG_buses.2.1 105 = .ok (.iload 7, 2) := by decide +kernel
theorem d_FG_buses_107 : decode M_FG_buses.2.1 107 = .ok (.iaload, 1) := by decide +kernel
theorem d_FG_buses_108 : decode M_FG_buses.2.1 108 = .ok (.aload 8, 2) := by decide +kernel
theorem d_FG_buses_110 : decode M_FG_buses.2.1 110 = .ok (.iload 7, 2) := by decide +kernel
theorem d_FG_buses_112 : decode M_FG_buses.2.1 112 = .ok (.iconst 1, 1) := by decide +kernel
theorem d_FG_buses_113 : decode M_FG_buses.2.1 113 = .ok (.iadd, 1) := by decide +kernel
theorem d_FG_buses_114 : decode M_FG_buses.2.1 114 = .ok (.iaload, 1) := by decide +kernel
theorem d_FG_buses_115 : decode M_FG_buses.2.1 115 = .ok (.aload 8, 2) := by decide +kernel
theorem d_FG_buses_117 : decode M_FG_buses.2.1 117 = .ok (.iload 7, 2) := by decide +kernel
theorem d_FG_buses_119 : decode M_FG_buses.2.1 119 = .ok (.iconst 2, 1) := by decide +kernel
theorem d_FG_buses_120 : decode M_FG_buses.2.1 120 = .ok (.iadd, 1) := by decide +kernel
theorem d_FG_buses_121 : decode M_FG_buses.2.1 121 = .ok (.iaload, 1) := by decide +kernel
theorem d_FG_buses_122 : decode M_FG_buses.2.1 122 = .ok (.aload 8, 2) := by decide +kernel
theorem d_FG_buses_124 : decode M_FG_buses.2.1 124 = .ok (.iload 7, 2) := by decide +kernel
theorem d_FG_buses_126 : decode M_FG_buses.2.1 126 = .ok (.iconst 3, 1) := by decide +kernel
theorem d_FG_buses_127 : decode M_FG_buses.2.1 127 = .ok (.iadd, 1) := by decide +kernel
theorem d_FG_buses_128 : decode M_FG_buses.2.1 128 = .ok (.iaload, 1) := by decide +kernel
theorem d_FG_buses_129 : decode M_FG_buses.2.1 129 = .ok (.invokevirtual 78, 3) := by decide +kernel
theorem d_FG_buses_132 : decode M_FG_buses.2.1 132 = .ok (.ifCond .lt 6, 3) := by decide +kernel
theorem d_FG_buses_135 : decode M_FG_buses.2.1 135 = .ok (.iinc 5 1, 3) := by decide +kernel
theorem d_FG_buses_138 : decode M_FG_buses.2.1 138 = .ok (.iinc 6 1, 3) := by decide +kernel
theorem d_FG_buses_141 : decode M_FG_buses.2.1 141 = .ok (.goto (-79), 3) := by decide +kernel
theorem d_FG_buses_144 : decode M_FG_buses.2.1 144 = .ok (.iload 5, 2) := by decide +kernel
theorem d_FG_buses_146 : decode M_FG_buses.2.1 146 = .ok (.ireturn, 1) := by decide +kernel
set_option maxHeartbeats 4000000 in
set_option maxRecDepth 100000 in
theorem bs_FG_buses {D : xD} {N : Nat} {l : Launch} {d : Nat} {x V : T2} {ln df : Nat → Option Nat} {rest : List va_E} {K : Option Value → List va_E → Prop} {s sz n : Nat} {t fr : Int32} (hs : s < 4) (hsz : sz < 41) (hn : n ≤ 10) : ∀ (f k m : Nat) (c : T2) (nb : Nat), c 30 s = nI sz → c 32 1 = nI nb → nb ≤ 12 → k + f = n → (k = 0 ∨ 0 ≤ fr.toInt) → K (some (.int (bsR s fr sz f k m c nb).1)) (encC D N (bsR s fr sz f k m c nb).2 x V ln df ++ rest) → Wp D N l (EI M_FG_buses) M_FG_buses (Rm (d + 2) 0 0) (Qm D N K 0 0) 0 0 62 [(6, .int (nI k)), (5, .int (nI m)), (0, .ref (N + 0)), (1, .int (nI s)), (2, .int t), (3, .int fr), (4, .int (nI n))] [] (encC D N c x V ln df ++ rest) := by
  intro f
  induction f with
  | zero =>
      intro k m c nb es hnb h12 hkn hf0 hK
      refine wp_iload (q := 64) d_FG_buses_62 rfl rfl ?_
      refine wp_iload (q := 66) d_FG_buses_64 rfl rfl ?_
      refine wp_icmp_ge_t (tgt := 144) d_FG_buses_66 (by decide) (nI_le (by omega) (by omega)) ?_
      refine wp_iload (q := 146) d_FG_buses_144 rfl rfl ?_
      refine wp_iret d_FG_buses_146 rfl (Nat.le_refl _) (Nat.le_refl _) ?_
      exact hK
  | succ f ih =>
      intro k m c nb es hnb h12 hkn hf0 hK
      refine wp_iload (q := 64) d_FG_buses_62 rfl rfl ?_
      refine wp_iload (q := 66) d_FG_buses_64 rfl rfl ?_
      refine wp_icmp_ge_f (q := 69) (tgt := 144) d_FG_buses_66 (by decide) rfl (nI_ge (by omega) (by omega)) ?_
      refine wp_iload_n (q := 70) d_FG_buses_69 rfl rfl ?_
      refine wp_iconst (q := 71) d_FG_buses_70 rfl ic_4 ?_
      refine wp_iload (q := 73) d_FG_buses_71 rfl rfl ?_
      first | refine wp_imulN (q := 74) d_FG_buses_73 rfl ?_ | refine wp_imul (q := 74) d_FG_buses_73 rfl ?_
      refine wp_iadd (q := 75) d_FG_buses_74 rfl ?_
      refine wp_istore (q := 77) (L2 := [(7, _), (6, _), (5, _), (0, _), (1, _), (2, _), (3, _), (4, _)]) d_FG_buses_75 rfl (by decide) rfl ?_
      refine wp_aload_n (q := 78) d_FG_buses_77 rfl rfl ?_
      refine wp_iload_n (q := 79) d_FG_buses_78 rfl rfl ?_
      refine wp_iload (q := 81) d_FG_buses_79 rfl rfl ?_
      refine wp_iconst (q := 82) d_FG_buses_81 rfl ic_4 ?_
      refine wp_cv3 (q := 85) lk_FG_304 (ro _ _ _) d_FG_buses_82 rfl (Nat.le_of_ble_eq_true rfl) (rfl) rfl (Nat.zero_le _) (Nat.zero_le _) ?_
      refine ok_FG_holdsAll hs es hsz (fun a m2 ham ea em => ?_) (fun hf1 => ?_)
      · have em4 : m2 = 4 := by
          have := congrArg tn em
          rw [tnt (show m2 < 41 by omega), tnt (show 4 < 41 by decide)] at this
          exact this.symm
        subst em4
        obtain ⟨fa, rfl, rfl⟩ := fr_y hf0 (by omega) (by omega) ea
        rw [ea]
        refine wp_if_ne_t (tgt := 91) d_FG_buses_85 (by decide) (by decide) ?_
        refine wp_aload_n (q := 92) d_FG_buses_91 rfl rfl ?_
        refine wp_get (q := 95) fl_FG_47 d_FG_buses_92 rfl rfl rfl ?_
        refine wp_iload_n (q := 96) d_FG_buses_95 rfl rfl ?_
        refine wp_aldA (q := 97) d_FG_buses_96 rfl (rfl) (by omega) (by decide) (rows_at (by omega)) ?_
        refine wp_astore (q := 99) (L2 := [(8, _), (7, _), (6, _), (5, _), (0, _), (1, _), (2, _), (3, _), (4, _)]) d_FG_buses_97 rfl (by decide) rfl ?_
        refine wp_aload_n (q := 100) d_FG_buses_99 rfl rfl ?_
        refine wp_get (q := 103) fl_FG_10 d_FG_buses_100 rfl rfl rfl ?_
        refine wp_aload (q := 105) d_FG_buses_103 rfl rfl ?_
        refine wp_iload (q := 107) d_FG_buses_105 rfl rfl ?_
        refine wp_iald (q := 108) d_FG_buses_107 rfl (rd_sheet (by omega)) (by omega) (by decide) ?_
        refine wp_aload (q := 110) d_FG_buses_108 rfl rfl ?_
        refine wp_iload (q := 112) d_FG_buses_110 rfl rfl ?_
        refine wp_iconst (q := 113) d_FG_buses_112 rfl ic_1 ?_
        first | refine wp_iaddN (q := 114) d_FG_buses_113 rfl ?_ | refine wp_iadd (q := 114) d_FG_buses_113 rfl ?_
        refine wp_iald (q := 115) d_FG_buses_114 rfl (rd_sheet (by omega)) (by omega) (by decide) ?_
        refine wp_aload (q := 117) d_FG_buses_115 rfl rfl ?_
        refine wp_iload (q := 119) d_FG_buses_117 rfl rfl ?_
        refine wp_iconst (q := 120) d_FG_buses_119 rfl ic_2 ?_
        first | refine wp_iaddN (q := 121) d_FG_buses_120 rfl ?_ | refine wp_iadd (q := 121) d_FG_buses_120 rfl ?_
        refine wp_iald (q := 122) d_FG_buses_121 rfl (rd_sheet (by omega)) (by omega) (by decide) ?_
        refine wp_aload (q := 124) d_FG_buses_122 rfl rfl ?_
        refine wp_iload (q := 126) d_FG_buses_124 rfl rfl ?_
        refine wp_iconst (q := 127) d_FG_buses_126 rfl ic_3 ?_
        first | refine wp_iaddN (q := 128) d_FG_buses_127 rfl ?_ | refine wp_iadd (q := 128) d_FG_buses_127 rfl ?_
        refine wp_iald (q := 129) d_FG_buses_128 rfl (rd_sheet (by omega)) (by omega) (by decide) ?_
        simp (disch := omega) only [sl_at]
        refine wp_cv4 (q := 132) lk_FG_78 (ro _ _ _) d_FG_buses_129 rfl (Nat.le_of_ble_eq_true rfl) (rfl) rfl (Nat.zero_le _) (Nat.zero_le _) ?_
        refine ok_Tn_enrol hnb h12 ?_
        obtain ⟨q1, q2, q3⟩ := sb_inv hnb h12 (c 31 (40 * s + (fa + 4 * k))) (c 31 (40 * s + (fa + 4 * k + 1))) (c 31 (40 * s + (fa + 4 * k + 2))) (c 31 (40 * s + (fa + 4 * k + 3)))
        refine wp_if_lt (q := 135) (tgt := 138) d_FG_buses_132 (by decide) rfl (fun hc_132 => ?_) (fun hc_132 => ?_)
        · have hq := hc_132
          refine wp_iinc (q := 141) (L2 := [(6, _), (8, _), (7, _), (5, _), (0, _), (1, _), (2, _), (3, _), (4, _)]) d_FG_buses_138 rfl rfl (iinc_1) (by decide) rfl ?_
          refine wp_goto (tgt := 62) d_FG_buses_141 (by decide) ?_
          refine wp_sub [0, 3, 4, 5, 6, 7, 8] rfl ?_
          exact ih (k + 1) m _ _ (by rw [q3]; exact es) (by rw [q1, if_pos hq]) (by rw [if_pos hq] at q2; exact q2) (by omega) (Or.inr (by rw [nI_toInt (by omega)]; omega)) (by rw [bsR, if_neg (fun g => g ⟨by rw [nI_toInt (by omega)]; omega, by rw [nI_toInt (by omega)]; omega⟩)] at hK; simp only [tnt (show fa < 41 by omega)] at hK; rw [if_pos hq, if_pos hq] at hK; exact hK)
        · have hq := hc_132
          refine wp_iinc (q := 138) (L2 := [(5, _), (8, _), (7, _), (6, _), (0, _), (1, _), (2, _), (3, _), (4, _)]) d_FG_buses_135 rfl rfl (iinc_1) (by decide) rfl ?_
          refine wp_iinc (q := 141) (L2 := [(6, _), (5, _), (8, _), (7, _), (0, _), (1, _), (2, _), (3, _), (4, _)]) d_FG_buses_138 rfl rfl (iinc_1) (by decide) rfl ?_
          refine wp_goto (tgt := 62) d_FG_buses_141 (by decide) ?_
          refine wp_sub [0, 1, 4, 5, 6, 7, 8] rfl ?_
          exact ih (k + 1) (m + 1) _ _ (by rw [q3]; exact es) (by rw [q1, if_neg hq]) (by rw [if_neg hq] at q2; exact q2) (by omega) (Or.inr (by rw [nI_toInt (by omega)]; omega)) (by rw [bsR, if_neg (fun g => g ⟨by rw [nI_toInt (by omega)]; omega, by rw [nI_toInt (by omega)]; omega⟩)] at hK; simp only [tnt (show fa < 41 by omega)] at hK; rw [if_neg hq, if_neg hq] at hK; exact hK)
      · refine wp_if_ne_f (q := 88) (tgt := 91) d_FG_buses_85 (by decide) rfl (by decide) ?_
        refine wp_bipush (q := 90) d_FG_buses_88 rfl bp_m12 ?_
        refine wp_iret d_FG_buses_90 rfl (Nat.le_refl _) (Nat.le_refl _) ?_
        rw [bsR, if_pos (fr_n hsz hf1)] at hK; exact hK
theorem d_Rf_buses_0 : decode M_Rf_buses.2.1 0 = .ok (.iload_n 1, 1) := by decide +kernel
theorem d_Rf_buses_1 : decode M_Rf_buses.2.1 1 = .ok (.iconst 0, 1) := by decide +kernel
theorem d_Rf_buses_2 : decode M_Rf_buses.2.1 2 = .ok (.iconst 3, 1) := by decide +kernel
theorem d_Rf_buses_3 : decode M_Rf_buses.2.1 3 = .ok (.invokestatic 151, 3) := by decide +kernel
theorem d_Rf_buses_6 : decode M_Rf_buses.2.1 6 = .ok (.ifCond .eq 23, 3) := by decide +kernel
theorem d_Rf_buses_9 : decode M_Rf_buses.2.1 9 = .ok (.iload_n 2, 1) := by decide +kernel
theorem d_Rf_buses_10 : decode M_Rf_buses.2.1 10 = .ok (.iconst 0, 1) := by decide +kernel
theorem d_Rf_buses_11 : decode M_Rf_buses.2.1 11 = .ok (.iconst 2, 1) := by decide +kernel
theorem d_Rf_buses_12 : decode M_Rf_buses.2.1 12 = .ok (.invokestatic 151, 3) := by decide +kernel
theorem d_Rf_buses_15 : decode M_Rf_buses.2.1 15 = .ok (.ifCond .eq 14, 3) := by decide +kernel
theorem d_Rf_buses_18 : decode M_Rf_buses.2.1 18 = .ok (.iload 4, 2) := by decide +kernel
theorem d_Rf_buses_20 : decode M_Rf_buses.2.1 20 = .ok (.iconst 0, 1) := by decide +kernel
theorem d_Rf_buses_21 : decode M_Rf_buses.2.1 21 = .ok (.bipush 10, 2) := by decide +kernel
theorem d_Rf_buses_23 : decode M_Rf_buses.2.1 23 = .ok (.invokestatic 151, 3) := by decide +kernel
theorem d_Rf_buses_26 : decode M_Rf_buses.2.1 26 = .ok (.ifCond .ne 6, 3) := by decide +kernel
theorem d_Rf_buses_29 : decode M_Rf_buses.2.1 29 = .ok (.bipush (-2), 2) := by decide +kernel
theorem d_Rf_buses_31 : decode M_Rf_buses.2.1 31 = .ok (.ireturn, 1) := by decide +kernel
theorem d_Rf_buses_32 : decode M_Rf_buses.2.1 32 = .ok (.aload_n 0, 1) := by decide +kernel
theorem d_Rf_buses_33 : decode M_Rf_buses.2.1 33 = .ok (.getfield 101, 3) := by decide +kernel
theorem d_Rf_buses_36 : decode M_Rf_buses.2.1 36 = .ok (.iload_n 1, 1) := by decide +kernel
theorem d_Rf_buses_37 : decode M_Rf_buses.2.1 37 = .ok (.iaload, 1) := by decide +kernel
theorem d_Rf_buses_38 : decode M_Rf_buses.2.1 38 = .ok (.iconst (-1), 1) := by decide +kernel
theorem d_Rf_buses_39 : decode M_Rf_buses.2.1 39 = .ok (.if_icmp .ne 6, 3) := by decide +kernel
theorem d_Rf_buses_42 : decode M_Rf_buses.2.1 42 = .ok (.bipush (-11), 2) := by decide +kernel
theorem d_Rf_buses_44 : decode M_Rf_buses.2.1 44 = .ok (.ireturn, 1) := by decide +kernel
theorem d_Rf_buses_45 : decode M_Rf_buses.2.1 45 = .ok (.aload_n 0, 1) := by decide +kernel
theorem d_Rf_buses_46 : decode M_Rf_buses.2.1 46 = .ok (.getfield 101, 3) := by decide +kernel
theorem d_Rf_buses_49 : decode M_Rf_buses.2.1 49 = .ok (.iload_n 1, 1) := by decide +kernel
theorem d_Rf_buses_50 : decode M_Rf_buses.2.1 50 = .ok (.iaload, 1) := by decide +kernel
theorem d_Rf_buses_51 : decode M_Rf_buses.2.1 51 = .ok (.iload_n 2, 1) := by decide +kernel
theorem d_Rf_buses_52 : decode M_Rf_buses.2.1 52 = .ok (.if_icmp .eq 6, 3) := by decide +kernel
theorem d_Rf_buses_55 : decode M_Rf_buses.2.1 55 = .ok (.bipush (-13), 2) := by decide +kernel
theorem d_Rf_buses_57 : decode M_Rf_buses.2.1 57 = .ok (.ireturn, 1) := by decide +kernel
theorem d_Rf_buses_58 : decode M_Rf_buses.2.1 58 = .ok (.iconst 0, 1) := by decide +kernel
theorem d_Rf_buses_59 : decode M_Rf_buses.2.1 59 = .ok (.istore 5, 2) := by decide +kernel
theorem d_Rf_buses_61 : decode M_Rf_buses.2.1 61 = .ok (.iconst 0, 1) := by decide +kernel
theorem d_Rf_buses_62 : decode M_Rf_buses.2.1 62 = .ok (.istore 6, 2) := by decide +kernel
theorem d_Rf_buses_64 : decode M_Rf_buses.2.1 64 = .ok (.iload 6, 2) := by decide +kernel
theorem d_Rf_buses_66 : decode M_Rf_buses.2.1 66 = .ok (.iload 4, 2) := by decide +kernel
theorem d_Rf_buses_68 : decode M_Rf_buses.2.1 68 = .ok (.if_icmp .ge 103, 3) := by decide +kernel
theorem d_Rf_buses_71 : decode M_Rf_buses.2.1 71 = .ok (.iload_n 3, 1) := by decide +kernel
theorem d_Rf_buses_72 : decode M_Rf_buses.2.1 72 = .ok (.iconst 4, 1) := by decide +kernel
theorem d_Rf_buses_73 : decode M_Rf_buses.2.1 73 = .ok (.iload 6, 2) := by decide +kernel
theorem d_Rf_buses_75 : decode M_Rf_buses.2.1 75 = .ok (.imul, 1) := by decide +kernel
theorem d_Rf_buses_76 : decode M_Rf_buses.2.1 76 = .ok (.iadd, 1) := by decide +kernel
theorem d_Rf_buses_77 : decode M_Rf_buses.2.1 77 = .ok (.istore 7, 2) := by decide +kernel
theorem d_Rf_buses_79 : decode M_Rf_buses.2.1 79 = .ok (.iload_n 3, 1) := by decide +kernel
theorem d_Rf_buses_80 : decode M_Rf_buses.2.1 80 = .ok (.ifCond .lt 22, 3) := by decide +kernel
theorem d_Rf_buses_83 : decode M_Rf_buses.2.1 83 = .ok (.iload 7, 2) := by decide +kernel
theorem d_Rf_buses_85 : decode M_Rf_buses.2.1 85 = .ok (.iload_n 3, 1) := by decide +kernel
theorem d_Rf_buses_86 : decode M_Rf_buses.2.1 86 = .ok (.if_icmp .lt 16, 3) := by decide +kernel
theorem d_Rf_buses_89 : decode M_Rf_buses.2.1 89 = .ok (.iload 7, 2) := by decide +kernel
theorem d_Rf_buses_91 : decode M_Rf_buses.2.1 91 = .ok (.aload_n 0, 1) := by decide +kernel
theorem d_Rf_buses_92 : decode M_Rf_buses.2.1 92 = .ok (.getfield 104, 3) := by decide +kernel
theorem d_Rf_buses_95 : decode M_Rf_buses.2.1 95 = .ok (.iload_n 1, 1) := by decide +kernel
theorem d_Rf_buses_96 : decode M_Rf_buses.2.1 96 = .ok (.iaload, 1) := by decide +kernel
theorem d_Rf_buses_97 : decode M_Rf_buses.2.1 97 = .ok (.iconst 4, 1) := by decide +kernel
theorem d_Rf_buses_98 : decode M_Rf_buses.2.1 98 = .ok (.isub, 1) := by decide +kernel
theorem d_Rf_buses_99 : decode M_Rf_buses.2.1 99 = .ok (.if_icmp .le 6, 3) := by decide +kernel
theorem d_Rf_buses_102 : decode M_Rf_buses.2.1 102 = .ok (.bipush (-12), 2) := by decide +kernel
theorem d_Rf_buses_104 : decode M_Rf_buses.2.1 104 = .ok (.ireturn, 1) := by decide +kernel
theorem d_Rf_buses_105 : decode M_Rf_buses.2.1 105 = .ok (.bipush 40, 2) := by decide +kernel
theorem d_Rf_buses_107 : decode M_Rf_buses.2.1 107 = .ok (.iload_n 1, 1) := by decide +kernel
theorem d_Rf_buses_108 : decode M_Rf_buses.2.1 108 = .ok (.imul, 1) := by decide +kernel
theorem d_Rf_buses_109 : decode M_Rf_buses.2.1 109 = .ok (.iload 7, 2) := by decide +kernel
theorem d_Rf_buses_111 : decode M_Rf_buses.2.1 111 = .ok (.iadd, 1) := by decide +kernel
theorem d_Rf_buses_112 : decode M_Rf_buses.2.1 112 = .ok (.istore 8, 2) := by decide +kernel
theorem d_Rf_buses_114 : decode M_Rf_buses.2.1 114 = .ok (.iload 5, 2) := by decide +kernel
theorem d_Rf_buses_116 : decode M_Rf_buses.2.1 116 = .ok (.aload_n 0, 1) := by decide +kernel
theorem d_Rf_buses_117 : decode M_Rf_buses.2.1 117 = .ok (.aload_n 0, 1) := by decide +kernel
theorem d_Rf_buses_118 : decode M_Rf_buses.2.1 118 = .ok (.getfield 107, 3) := by decide +kernel
theorem d_Rf_buses_121 : decode M_Rf_buses.2.1 121 = .ok (.iload 8, 2) := by decide +kernel
theorem d_Rf_buses_123 : decode M_Rf_buses.2.1 123 = .ok (.iaload, 1) := by decide +kernel
theorem d_Rf_buses_124 : decode M_Rf_buses.2.1 124 = .ok (.aload_n 0, 1) := by decide +kernel
theorem d_Rf_buses_125 : decode M_Rf_buses.2.1 125 = .ok (.getfield 107, 3) := by decide +kernel
theorem d_Rf_buses_128 : decode M_Rf_buses.2.1 128 = .ok (.iload 8, 2) := by decide +kernel
theorem d_Rf_buses_130 : decode M_Rf_buses.2.1 130 = .ok (.iconst 1, 1) := by decide +kernel
theorem d_Rf_buses_131 : decode M_Rf_buses.2.1 131 = .ok (.iadd, 1) := by decide +kernel
theorem d_Rf_buses_132 : decode M_Rf_buses.2.1 132 = .ok (.iaload, 1) := by decide +kernel
theorem d_Rf_buses_133 : decode M_Rf_buses.2.1 133 = .ok (.aload_n 0, 1) := by decide +kernel
theorem d_Rf_buses_134 : decode M_Rf_buses.2.1 134 = .ok (.getfield 107, 3) := by decide +kernel
theorem d_Rf_buses_137 : decode M_Rf_buses.2.1 137 = .ok (.iload 8, 2) := by decide +kernel
theorem d_Rf_buses_139 : decode M_Rf_buses.2.1 139 = .ok (.iconst 2, 1) := by decide +kernel
theorem d_Rf_buses_140 : decode M_Rf_buses.2.1 140 = .ok (.iadd, 1) := by decide +kernel
theorem d_Rf_buses_141 : decode M_Rf_buses.2.1 141 = .ok (.iaload, 1) := by decide +kernel
theorem d_Rf_buses_142 : decode M_Rf_buses.2.1 142 = .ok (.aload_n 0, 1) := by decide +kernel
theorem d_Rf_buses_143 : decode M_Rf_buses.2.1 143 = .ok (.getfield 107, 3) := by decide +kernel
theorem d_Rf_buses_146 : decode M_Rf_buses.2.1 146 = .ok (.iload 8, 2) := by decide +kernel
theorem d_Rf_buses_148 : decode M_Rf_buses.2.1 148 = .ok (.iconst 3, 1) := by decide +kernel
theorem d_Rf_buses_149 : decode M_Rf_buses.2.1 149 = .ok (.iadd, 1) := by decide +kernel
theorem d_Rf_buses_150 : decode M_Rf_buses.2.1 150 = .ok (.iaload, 1) := by decide +kernel
theorem d_Rf_buses_151 : decode M_Rf_buses.2.1 151 = .ok (.invokevirtual 310, 3) := by decide +kernel
theorem d_Rf_buses_154 : decode M_Rf_buses.2.1 154 = .ok (.ifCond .lt 7, 3) := by decide +kernel
theorem d_Rf_buses_157 : decode M_Rf_buses.2.1 157 = .ok (.iconst 1, 1) := by decide +kernel
theorem d_Rf_buses_158 : decode M_Rf_buses.2.1 158 = .ok (.goto 4, 3) := by decide +kernel
theorem d_Rf_buses_161 : decode M_Rf_buses.2.1 161 = .ok (.iconst 0, 1) := by decide +kernel
theorem d_Rf_buses_162 : decode M_Rf_buses.2.1 162 = .ok (.iadd, 1) := by decide +kernel
theorem d_Rf_buses_163 : decode M_Rf_buses.2.1 163 = .ok (.istore 5, 2) := by decide +kernel
theorem d_Rf_buses_165 : decode M_Rf_buses.2.1 165 = .ok (.iinc 6 1, 3) := by decide +kernel
theorem d_Rf_buses_168 : decode M_Rf_buses.2.1 168 = .ok (.goto (-104), 3) := by decide +kernel
theorem d_Rf_buses_171 : decode M_Rf_buses.2.1 171 = .ok (.iload 5, 2) := by decide +kernel
theorem d_Rf_buses_173 : decode M_Rf_buses.2.1 173 = .ok (.ireturn, 1) := by decide +kernel
set_option maxHeartbeats 4000000 in
set_option maxRecDepth 100000 in
theorem bs_Rf_buses {D : xD} {N : Nat} {l : Launch} {d : Nat} {z : T2} {P Q : Nat → Int32} {rest : List va_E} {K : Option Value → List va_E → Prop} {s sz n : Nat} {t fr : Int32} (hs : s < 4) (hsz : sz < 41) (hn : n ≤ 10) : ∀ (f k m : Nat) (c : T2) (nb : Nat), c 30 s = nI sz → c 32 1 = nI nb → nb ≤ 12 → k + f = n → (k = 0 ∨ 0 ≤ fr.toInt) → K (some (.int (bsR s fr sz f k m c nb).1)) (encR D N (bsR s fr sz f k m c nb).2 z P Q ++ rest) → Wp D N l (EI M_Rf_buses) M_Rf_buses (Rm (d + 2) 0 0) (Qm D N K 0 0) 0 0 64 [(6, .int (nI k)), (5, .int (nI m)), (0, .ref (N + 0)), (1, .int (nI s)), (2, .int t), (3, .int fr), (4, .int (nI n))] [] (encR D N c z P Q ++ rest) := by
  intro f
  induction f with
  | zero =>
      intro k m c nb es hnb h12 hkn hf0 hK
      refine wp_iload (q := 66) d_Rf_buses_64 rfl rfl ?_
      refine wp_iload (q := 68) d_Rf_buses_66 rfl rfl ?_
      refine wp_icmp_ge_t (tgt := 171) d_Rf_buses_68 (by decide) (nI_le (by omega) (by omega)) ?_
      refine wp_iload (q := 173) d_Rf_buses_171 rfl rfl ?_
      refine wp_iret d_Rf_buses_173 rfl (Nat.le_refl _) (Nat.le_refl _) ?_
      exact hK
  | succ f ih =>
      intro k m c nb es hnb h12 hkn hf0 hK
      refine wp_iload (q := 66) d_Rf_buses_64 rfl rfl ?_
      refine wp_iload (q := 68) d_Rf_buses_66 rfl rfl ?_
      refine wp_icmp_ge_f (q := 71) (tgt := 171) d_Rf_buses_68 (by decide) rfl (nI_ge (by omega) (by omega)) ?_
      refine wp_iload_n (q := 72) d_Rf_buses_71 rfl rfl ?_
      refine wp_iconst (q := 73) d_Rf_buses_72 rfl ic_4 ?_
      refine wp_iload (q := 75) d_Rf_buses_73 rfl rfl ?_
      first | refine wp_imulN (q := 76) d_Rf_buses_75 rfl ?_ | refine wp_imul (q := 76) d_Rf_buses_75 rfl ?_
      refine wp_iadd (q := 77) d_Rf_buses_76 rfl ?_
      refine wp_istore (q := 79) (L2 := [(7, _), (6, _), (5, _), (0, _), (1, _), (2, _), (3, _), (4, _)]) d_Rf_buses_77 rfl (by decide) rfl ?_
      refine wp_iload_n (q := 80) d_Rf_buses_79 rfl rfl ?_
      refine wp_if_lt (q := 83) (tgt := 102) d_Rf_buses_80 (by decide) rfl (fun hc_80 => ?_) (fun hc_80 => ?_)
      · refine wp_bipush (q := 104) d_Rf_buses_102 rfl bp_m12 ?_
        refine wp_iret d_Rf_buses_104 rfl (Nat.le_refl _) (Nat.le_refl _) ?_
        rw [bsR, if_pos (fun g => i_neg hc_80 g.1)] at hK; exact hK
      · obtain ⟨fa, hfa, rfl⟩ := nI_of hc_80
        rw [nI_add]
        refine wp_iload (q := 85) d_Rf_buses_83 rfl rfl ?_
        refine wp_iload_n (q := 86) d_Rf_buses_85 rfl rfl ?_
        refine wp_icmp_lt (q := 89) (tgt := 102) d_Rf_buses_86 (by decide) rfl (fun hc_86 => ?_) (fun hc_86 => ?_)
        · refine wp_bipush (q := 104) d_Rf_buses_102 rfl bp_m12 ?_
          refine wp_iret d_Rf_buses_104 rfl (Nat.le_refl _) (Nat.le_refl _) ?_
          rw [bsR, if_pos (fun g => by have := (fr_lt hfa (by omega)).mp hc_86; rw [nI_toInt hfa] at g; omega)] at hK; exact hK
        · have h31 : fa + 4 * k < 2 ^ 31 := Nat.lt_of_not_le (fun g => hc_86 ((fr_lt hfa (by omega)).mpr g))
          refine wp_iload (q := 91) d_Rf_buses_89 rfl rfl ?_
          refine wp_aload_n (q := 92) d_Rf_buses_91 rfl rfl ?_
          refine wp_get (q := 95) fl_Rf_104 d_Rf_buses_92 rfl rfl rfl ?_
          refine wp_iload_n (q := 96) d_Rf_buses_95 rfl rfl ?_
          refine wp_iald (q := 97) d_Rf_buses_96 rfl (rfl) (by omega) (by decide) ?_
          rw [es]
          refine wp_iconst (q := 98) d_Rf_buses_97 rfl ic_4 ?_
          refine wp_isub (q := 99) d_Rf_buses_98 rfl ?_
          refine wp_icmp_le (q := 102) (tgt := 105) d_Rf_buses_99 (by decide) rfl (fun hc_99 => ?_) (fun hc_99 => ?_)
          · have h99 := (fr_le h31 hsz).mp hc_99
            refine wp_bipush (q := 107) d_Rf_buses_105 rfl bp_40 ?_
            refine wp_iload_n (q := 108) d_Rf_buses_107 rfl rfl ?_
            first | refine wp_imulN (q := 109) d_Rf_buses_108 rfl ?_ | refine wp_imul (q := 109) d_Rf_buses_108 rfl ?_
            refine wp_iload (q := 111) d_Rf_buses_109 rfl rfl ?_
            first | refine wp_iaddN (q := 112) d_Rf_buses_111 rfl ?_ | refine wp_iadd (q := 112) d_Rf_buses_111 rfl ?_
            refine wp_istore (q := 114) (L2 := [(8, _), (7, _), (6, _), (5, _), (0, _), (1, _), (2, _), (3, _), (4, _)]) d_Rf_buses_112 rfl (by decide) rfl ?_
            refine wp_iload (q := 116) d_Rf_buses_114 rfl rfl ?_
            refine wp_aload_n (q := 117) d_Rf_buses_116 rfl rfl ?_
            refine wp_aload_n (q := 118) d_Rf_buses_117 rfl rfl ?_
            refine wp_get (q := 121) fl_Rf_107 d_Rf_buses_118 rfl rfl rfl ?_
            refine wp_iload (q := 123) d_Rf_buses_121 rfl rfl ?_
            refine wp_iald (q := 124) d_Rf_buses_123 rfl (rfl) (by omega) (by decide) ?_
            refine wp_aload_n (q := 125) d_Rf_buses_124 rfl rfl ?_
            refine wp_get (q := 128) fl_Rf_107 d_Rf_buses_125 rfl rfl rfl ?_
            refine wp_iload (q := 130) d_Rf_buses_128 rfl rfl ?_
            refine wp_iconst (q := 131) d_Rf_buses_130 rfl ic_1 ?_
            first | refine wp_iaddN (q := 132) d_Rf_buses_131 rfl ?_ | refine wp_iadd (q := 132) d_Rf_buses_131 rfl ?_
            refine wp_iald (q := 133) d_Rf_buses_132 rfl (rfl) (by omega) (by decide) ?_
            refine wp_aload_n (q := 134) d_Rf_buses_133 rfl rfl ?_
            refine wp_get (q := 137) fl_Rf_107 d_Rf_buses_134 rfl rfl rfl ?_
            refine wp_iload (q := 139) d_Rf_buses_137 rfl rfl ?_
            refine wp_iconst (q := 140) d_Rf_buses_139 rfl ic_2 ?_
            first | refine wp_iaddN (q := 141) d_Rf_buses_140 rfl ?_ | refine wp_iadd (q := 141) d_Rf_buses_140 rfl ?_
            refine wp_iald (q := 142) d_Rf_buses_141 rfl (rfl) (by omega) (by decide) ?_
            refine wp_aload_n (q := 143) d_Rf_buses_142 rfl rfl ?_
            refine wp_get (q := 146) fl_Rf_107 d_Rf_buses_143 rfl rfl rfl ?_
            refine wp_iload (q := 148) d_Rf_buses_146 rfl rfl ?_
            refine wp_iconst (q := 149) d_Rf_buses_148 rfl ic_3 ?_
            first | refine wp_iaddN (q := 150) d_Rf_buses_149 rfl ?_ | refine wp_iadd (q := 150) d_Rf_buses_149 rfl ?_
            refine wp_iald (q := 151) d_Rf_buses_150 rfl (rfl) (by omega) (by decide) ?_
            rw [show 40 * s + (fa + 4 * k) + 1 = 40 * s + (fa + 4 * k + 1) from rfl, show 40 * s + (fa + 4 * k) + 2 = 40 * s + (fa + 4 * k + 2) from rfl, show 40 * s + (fa + 4 * k) + 3 = 40 * s + (fa + 4 * k + 3) from rfl]
            refine wp_cv4 (q := 154) lk_Rf_310 (ro _ _ _) d_Rf_buses_151 rfl (Nat.le_of_ble_eq_true rfl) (rfl) rfl (Nat.zero_le _) (Nat.zero_le _) ?_
            refine ok_Rf_bus hnb h12 ?_
            obtain ⟨q1, q2, q3⟩ := sb_inv hnb h12 (c 31 (40 * s + (fa + 4 * k))) (c 31 (40 * s + (fa + 4 * k + 1))) (c 31 (40 * s + (fa + 4 * k + 2))) (c 31 (40 * s + (fa + 4 * k + 3)))
            refine wp_if_lt (q := 157) (tgt := 161) d_Rf_buses_154 (by decide) rfl (fun hc_154 => ?_) (fun hc_154 => ?_)
            · have hq := hc_154
              refine wp_iconst (q := 162) d_Rf_buses_161 rfl ic_0 ?_
              first | refine wp_iaddN (q := 163) d_Rf_buses_162 rfl ?_ | refine wp_iadd (q := 163) d_Rf_buses_162 rfl ?_
              refine wp_istore (q := 165) (L2 := [(5, _), (8, _), (7, _), (6, _), (0, _), (1, _), (2, _), (3, _), (4, _)]) d_Rf_buses_163 rfl (by decide) rfl ?_
              refine wp_iinc (q := 168) (L2 := [(6, _), (5, _), (8, _), (7, _), (0, _), (1, _), (2, _), (3, _), (4, _)]) d_Rf_buses_165 rfl rfl (iinc_1) (by decide) rfl ?_
              refine wp_goto (tgt := 64) d_Rf_buses_168 (by decide) ?_
              refine wp_sub [0, 1, 4, 5, 6, 7, 8] rfl ?_
              exact ih (k + 1) m _ _ (by rw [q3]; exact es) (by rw [q1, if_pos hq]) (by rw [if_pos hq] at q2; exact q2) (by omega) (Or.inr (by rw [nI_toInt (by omega)]; omega)) (by rw [bsR, if_neg (fun g => g ⟨by rw [nI_toInt (by omega)]; omega, by rw [nI_toInt (by omega)]; omega⟩)] at hK; simp only [tnt (show fa < 41 by omega)] at hK; rw [if_pos hq, if_pos hq] at hK; exact hK)
            · have hq := hc_154
              refine wp_iconst (q := 158) d_Rf_buses_157 rfl ic_1 ?_
              refine wp_goto (tgt := 162) d_Rf_buses_158 (by decide) ?_
              first | refine wp_iaddN (q := 163) d_Rf_buses_162 rfl ?_ | refine wp_iadd (q := 163) d_Rf_buses_162 rfl ?_
              refine wp_istore (q := 165) (L2 := [(5, _), (8, _), (7, _), (6, _), (0, _), (1, _), (2, _), (3, _), (4, _)]) d_Rf_buses_163 rfl (by decide) rfl ?_
              refine wp_iinc (q := 168) (L2 := [(6, _), (5, _), (8, _), (7, _), (0, _), (1, _), (2, _), (3, _), (4, _)]) d_Rf_buses_165 rfl rfl (iinc_1) (by decide) rfl ?_
              refine wp_goto (tgt := 64) d_Rf_buses_168 (by decide) ?_
              refine wp_sub [0, 1, 4, 5, 6, 7, 8] rfl ?_
              exact ih (k + 1) (m + 1) _ _ (by rw [q3]; exact es) (by rw [q1, if_neg hq]) (by rw [if_neg hq] at q2; exact q2) (by omega) (Or.inr (by rw [nI_toInt (by omega)]; omega)) (by rw [bsR, if_neg (fun g => g ⟨by rw [nI_toInt (by omega)]; omega, by rw [nI_toInt (by omega)]; omega⟩)] at hK; simp only [tnt (show fa < 41 by omega)] at hK; rw [if_neg hq, if_neg hq] at hK; exact hK)
          · refine wp_bipush (q := 104) d_Rf_buses_102 rfl bp_m12 ?_
            refine wp_iret d_Rf_buses_104 rfl (Nat.le_refl _) (Nat.le_refl _) ?_
            rw [bsR, if_pos (fun g => hc_99 ((fr_le h31 hsz).mpr (by rw [nI_toInt hfa] at g; omega)))] at hK; exact hK
set_option maxHeartbeats 4000000 in
set_option maxRecDepth 100000 in
theorem ok_FG_buses {D : xD} {N : Nat} {l : Launch} {d : Nat} {c x V : T2} {ln df : Nat → Option Nat} {rest : List va_E} {K : Option Value → List va_E → Prop} {s t fr n : Int32} {nb : Nat} (hnb : c 32 1 = nI nb) (h12 : nb ≤ 12) (hSZ : ∀ s, s < 4 → isN (c 30 s) 41) (hK : K (some (.int (sp_buses c nb s t fr n).1)) (encC D N (sp_buses c nb s t fr n).2 x V ln df ++ rest)) : Ok D N l (d + 2) M_FG_buses [.ref (N + 0), .int s, .int t, .int fr, .int n] (encC D N c x V ln df ++ rest) 0 0 K := by
  refine ok_of (L := [(0, _), (1, _), (2, _), (3, _), (4, _)]) (by decide) (Nat.le_of_ble_eq_true rfl) rfl ?_
  refine wp_iload_n (q := 1) d_FG_buses_0 rfl rfl ?_
  refine wp_cs1 (q := 4) lk_FG_255 (ro _ _ _) d_FG_buses_1 rfl (Nat.le_of_ble_eq_true rfl) (Nat.zero_le _) (Nat.zero_le _) ?_
  refine ok_FG_isSheet (fun s1 hs1 e => ?_) (fun hs1 => ?_)
  · subst e
    refine wp_if_eq_f (q := 7) (tgt := 27) d_FG_buses_4 (by decide) rfl (by decide) ?_
    refine wp_iload_n (q := 8) d_FG_buses_7 rfl rfl ?_
    refine wp_iconst (q := 9) d_FG_buses_8 rfl ic_0 ?_
    refine wp_iconst (q := 10) d_FG_buses_9 rfl ic_2 ?_
    refine wp_cs3 (q := 13) lk_FG_61 (ro _ _ _) d_FG_buses_10 rfl (Nat.le_of_ble_eq_true rfl) (Nat.zero_le _) (Nat.zero_le _) ?_
    refine ok_FG_within0 (b := 2) (by decide) (fun t1 ht1 e => ?_) (fun ht1 => ?_)
    · subst e
      refine wp_if_eq_f (q := 16) (tgt := 27) d_FG_buses_13 (by decide) rfl (by decide) ?_
      refine wp_iload (q := 18) d_FG_buses_16 rfl rfl ?_
      refine wp_iconst (q := 19) d_FG_buses_18 rfl ic_0 ?_
      refine wp_bipush (q := 21) d_FG_buses_19 rfl bp_10 ?_
      refine wp_cs3 (q := 24) lk_FG_61 (ro _ _ _) d_FG_buses_21 rfl (Nat.le_of_ble_eq_true rfl) (Nat.zero_le _) (Nat.zero_le _) ?_
      refine ok_FG_within0 (b := 10) (by decide) (fun n1 hn1 e => ?_) (fun hn1 => ?_)
      · subst e
        refine wp_if_ne_t (tgt := 30) d_FG_buses_24 (by decide) (by decide) ?_
        refine wp_aload_n (q := 31) d_FG_buses_30 rfl rfl ?_
        refine wp_get (q := 34) fl_FG_54 d_FG_buses_31 rfl rfl rfl ?_
        refine wp_iload_n (q := 35) d_FG_buses_34 rfl rfl ?_
        refine wp_iald (q := 36) d_FG_buses_35 rfl (rfl) (by omega) (by decide) ?_
        refine wp_iconst (q := 37) d_FG_buses_36 rfl ic_m1 ?_
        refine wp_icmp_ne (q := 40) (tgt := 43) d_FG_buses_37 (by decide) rfl (fun hc_37 => ?_) (fun hc_37 => ?_)
        · refine wp_aload_n (q := 44) d_FG_buses_43 rfl rfl ?_
          refine wp_get (q := 47) fl_FG_54 d_FG_buses_44 rfl rfl rfl ?_
          refine wp_iload_n (q := 48) d_FG_buses_47 rfl rfl ?_
          refine wp_iald (q := 49) d_FG_buses_48 rfl (rfl) (by omega) (by decide) ?_
          refine wp_iload_n (q := 50) d_FG_buses_49 rfl rfl ?_
          refine wp_icmp_eq (q := 53) (tgt := 56) d_FG_buses_50 (by decide) rfl (fun hc_50 => ?_) (fun hc_50 => ?_)
          · refine wp_iconst (q := 57) d_FG_buses_56 rfl ic_0 ?_
            refine wp_istore (q := 59) (L2 := [(5, _), (0, _), (1, _), (2, _), (3, _), (4, _)]) d_FG_buses_57 rfl (by decide) rfl ?_
            refine wp_iconst (q := 60) d_FG_buses_59 rfl ic_0 ?_
            refine wp_istore (q := 62) (L2 := [(6, _), (5, _), (0, _), (1, _), (2, _), (3, _), (4, _)]) d_FG_buses_60 rfl (by decide) rfl ?_
            obtain ⟨sz, hsz, es⟩ := (hSZ s1 (by omega)).ex
            simp only [sp_buses, inn, inb, inm, btw, inn_t hs1, tnl hs1, inn_t ht1, tnl ht1, inn_t hn1, tnl hn1, hc_37, hc_50, es, tnt hsz, nI_nm1 (show t1 < 1000 by omega), not_true_eq_false, not_false_eq_true, or_false, false_or, or_true, true_or, and_true, true_and, and_false, false_and, or_self, and_self, if_true, if_false, ite_true, ite_false, eq_self] at hK
            exact bs_FG_buses (by omega) hsz (by omega) n1 0 0 c nb es hnb h12 (by omega) (Or.inl rfl) hK
          · refine wp_bipush (q := 55) d_FG_buses_53 rfl bp_m13 ?_
            refine wp_iret d_FG_buses_55 rfl (Nat.le_refl _) (Nat.le_refl _) ?_
            simp only [sp_buses, inn, inb, inm, btw, inn_t hs1, tnl hs1, inn_t ht1, tnl ht1, inn_t hn1, tnl hn1, hc_37, hc_50, not_true_eq_false, not_false_eq_true, or_false, false_or, or_true, true_or, and_true, true_and, and_false, false_and, or_self, and_self, if_true, if_false, ite_true, ite_false, eq_self] at hK
            first | exact hK | (simp (disch := omega) only [tput_eq, tput2, tput_ne, upd_eq, upd_ne, ne_eq, va_upeq, va_upne, va_up2, not_true_eq_false, not_false_eq_true, or_false, false_or, or_true, true_or, and_true, true_and, and_false, false_and, or_self, and_self, if_true, if_false, ite_true, ite_false, eq_self] at hK ⊢; exact hK) | (simp (disch := omega) only [tput_eq, tput2, tput_ne, upd_eq, upd_ne, ne_eq, va_upeq, va_upne, va_up2, not_true_eq_false, not_false_eq_true, or_false, false_or, or_true, true_or, and_true, true_and, and_false, false_and, or_self, and_self, if_true, if_false, ite_true, ite_false, eq_self]; exact hK) | (simp (disch := omega) only [tput_eq, tput2, tput_ne, upd_eq, upd_ne, ne_eq, va_upeq, va_upne, va_up2, not_true_eq_false, not_false_eq_true, or_false, false_or, or_true, true_or, and_true, true_and, and_false, false_and, or_self, and_self, if_true, if_false, ite_true, ite_false, eq_self] at hK; exact hK)
        · refine wp_bipush (q := 42) d_FG_buses_40 rfl bp_m11 ?_
          refine wp_iret d_FG_buses_42 rfl (Nat.le_refl _) (Nat.le_refl _) ?_
          simp only [sp_buses, inn, inb, inm, btw, inn_t hs1, tnl hs1, inn_t ht1, tnl ht1, inn_t hn1, tnl hn1, hc_37, not_true_eq_false, not_false_eq_true, or_false, false_or, or_true, true_or, and_true, true_and, and_false, false_and, or_self, and_self, if_true, if_false, ite_true, ite_false, eq_self] at hK
          first | exact hK | (simp (disch := omega) only [tput_eq, tput2, tput_ne, upd_eq, upd_ne, ne_eq, va_upeq, va_upne, va_up2, not_true_eq_false, not_false_eq_true, or_false, false_or, or_true, true_or, and_true, true_and, and_false, false_and, or_self, and_self, if_true, if_false, ite_true, ite_false, eq_self] at hK ⊢; exact hK) | (simp (disch := omega) only [tput_eq, tput2, tput_ne, upd_eq, upd_ne, ne_eq, va_upeq, va_upne, va_up2, not_true_eq_false, not_false_eq_true, or_false, false_or, or_true, true_or, and_true, true_and, and_false, false_and, or_self, and_self, if_true, if_false, ite_true, ite_false, eq_self]; exact hK) | (simp (disch := omega) only [tput_eq, tput2, tput_ne, upd_eq, upd_ne, ne_eq, va_upeq, va_upne, va_up2, not_true_eq_false, not_false_eq_true, or_false, false_or, or_true, true_or, and_true, true_and, and_false, false_and, or_self, and_self, if_true, if_false, ite_true, ite_false, eq_self] at hK; exact hK)
      · refine wp_if_ne_f (q := 27) (tgt := 30) d_FG_buses_24 (by decide) rfl (by decide) ?_
        refine wp_bipush (q := 29) d_FG_buses_27 rfl bp_m2 ?_
        refine wp_iret d_FG_buses_29 rfl (Nat.le_refl _) (Nat.le_refl _) ?_
        simp only [sp_buses, inn, inb, inm, btw, inn_t hs1, tnl hs1, inn_t ht1, tnl ht1, hn1, not_true_eq_false, not_false_eq_true, or_false, false_or, or_true, true_or, and_true, true_and, and_false, false_and, or_self, and_self, if_true, if_false, ite_true, ite_false, eq_self] at hK
        first | exact hK | (simp (disch := omega) only [tput_eq, tput2, tput_ne, upd_eq, upd_ne, ne_eq, va_upeq, va_upne, va_up2, not_true_eq_false, not_false_eq_true, or_false, false_or, or_true, true_or, and_true, true_and, and_false, false_and, or_self, and_self, if_true, if_false, ite_true, ite_false, eq_self] at hK ⊢; exact hK) | (simp (disch := omega) only [tput_eq, tput2, tput_ne, upd_eq, upd_ne, ne_eq, va_upeq, va_upne, va_up2, not_true_eq_false, not_false_eq_true, or_false, false_or, or_true, true_or, and_true, true_and, and_false, false_and, or_self, and_self, if_true, if_false, ite_true, ite_false, eq_self]; exact hK) | (simp (disch := omega) only [tput_eq, tput2, tput_ne, upd_eq, upd_ne, ne_eq, va_upeq, va_upne, va_up2, not_true_eq_false, not_false_eq_true, or_false, false_or, or_true, true_or, and_true, true_and, and_false, false_and, or_self, and_self, if_true, if_false, ite_true, ite_false, eq_self] at hK; exact hK)
    · refine wp_if_eq_t (tgt := 27) d_FG_buses_13 (by decide) (by decide) ?_
      refine wp_bipush (q := 29) d_FG_buses_27 rfl bp_m2 ?_
      refine wp_iret d_FG_buses_29 rfl (Nat.le_refl _) (Nat.le_refl _) ?_
      simp only [sp_buses, inn, inb, inm, btw, inn_t hs1, tnl hs1, ht1, not_true_eq_false, not_false_eq_true, or_false, false_or, or_true, true_or, and_true, true_and, and_false, false_and, or_self, and_self, if_true, if_false, ite_true, ite_false, eq_self] at hK
      first | exact hK | (simp (disch := omega) only [tput_eq, tput2, tput_ne, upd_eq, upd_ne, ne_eq, va_upeq, va_upne, va_up2, not_true_eq_false, not_false_eq_true, or_false, false_or, or_true, true_or, and_true, true_and, and_false, false_and, or_self, and_self, if_true, if_false, ite_true, ite_false, eq_self] at hK ⊢; exact hK) | (simp (disch := omega) only [tput_eq, tput2, tput_ne, upd_eq, upd_ne, ne_eq, va_upeq, va_upne, va_up2, not_true_eq_false, not_false_eq_true, or_false, false_or, or_true, true_or, and_true, true_and, and_false, false_and, or_self, and_self, if_true, if_false, ite_true, ite_false, eq_self]; exact hK) | (simp (disch := omega) only [tput_eq, tput2, tput_ne, upd_eq, upd_ne, ne_eq, va_upeq, va_upne, va_up2, not_true_eq_false, not_false_eq_true, or_false, false_or, or_true, true_or, and_true, true_and, and_false, false_and, or_self, and_self, if_true, if_false, ite_true, ite_false, eq_self] at hK; exact hK)
  · refine wp_if_eq_t (tgt := 27) d_FG_buses_4 (by decide) (by decide) ?_
    refine wp_bipush (q := 29) d_FG_buses_27 rfl bp_m2 ?_
    refine wp_iret d_FG_buses_29 rfl (Nat.le_refl _) (Nat.le_refl _) ?_
    simp only [sp_buses, inn, inb, inm, btw, hs1, not_true_eq_false, not_false_eq_true, or_false, false_or, or_true, true_or, and_true, true_and, and_false, false_and, or_self, and_self, if_true, if_false, ite_true, ite_false, eq_self] at hK
    first | exact hK | (simp (disch := omega) only [tput_eq, tput2, tput_ne, upd_eq, upd_ne, ne_eq, va_upeq, va_upne, va_up2, not_true_eq_false, not_false_eq_true, or_false, false_or, or_true, true_or, and_true, true_and, and_false, false_and, or_self, and_self, if_true, if_false, ite_true, ite_false, eq_self] at hK ⊢; exact hK) | (simp (disch := omega) only [tput_eq, tput2, tput_ne, upd_eq, upd_ne, ne_eq, va_upeq, va_upne, va_up2, not_true_eq_false, not_false_eq_true, or_false, false_or, or_true, true_or, and_true, true_and, and_false, false_and, or_self, and_self, if_true, if_false, ite_true, ite_false, eq_self]; exact hK) | (simp (disch := omega) only [tput_eq, tput2, tput_ne, upd_eq, upd_ne, ne_eq, va_upeq, va_upne, va_up2, not_true_eq_false, not_false_eq_true, or_false, false_or, or_true, true_or, and_true, true_and, and_false, false_and, or_self, and_self, if_true, if_false, ite_true, ite_false, eq_self] at hK; exact hK)
set_option maxHeartbeats 4000000 in
set_option maxRecDepth 100000 in
theorem ok_Rf_buses {D : xD} {N : Nat} {l : Launch} {d : Nat} {c z : T2} {P Q : Nat → Int32} {rest : List va_E} {K : Option Value → List va_E → Prop} {s t fr n : Int32} {nb : Nat} (hnb : c 32 1 = nI nb) (h12 : nb ≤ 12) (hSZ : ∀ s, s < 4 → isN (c 30 s) 41) (hK : K (some (.int (sp_buses c nb s t fr n).1)) (encR D N (sp_buses c nb s t fr n).2 z P Q ++ rest)) : Ok D N l (d + 2) M_Rf_buses [.ref (N + 0), .int s, .int t, .int fr, .int n] (encR D N c z P Q ++ rest) 0 0 K := by
  refine ok_of (L := [(0, _), (1, _), (2, _), (3, _), (4, _)]) (by decide) (Nat.le_of_ble_eq_true rfl) rfl ?_
  refine wp_iload_n (q := 1) d_Rf_buses_0 rfl rfl ?_
  refine wp_iconst (q := 2) d_Rf_buses_1 rfl ic_0 ?_
  refine wp_iconst (q := 3) d_Rf_buses_2 rfl ic_3 ?_
  refine wp_cs3 (q := 6) lk_Rf_151 (ro _ _ _) d_Rf_buses_3 rfl (Nat.le_of_ble_eq_true rfl) (Nat.zero_le _) (Nat.zero_le _) ?_
  refine ok_Rf_in0 (b := 3) (by decide) (fun s1 hs1 e => ?_) (fun hs1 => ?_)
  · subst e
    refine wp_if_eq_f (q := 9) (tgt := 29) d_Rf_buses_6 (by decide) rfl (by decide) ?_
    refine wp_iload_n (q := 10) d_Rf_buses_9 rfl rfl ?_
    refine wp_iconst (q := 11) d_Rf_buses_10 rfl ic_0 ?_
    refine wp_iconst (q := 12) d_Rf_buses_11 rfl ic_2 ?_
    refine wp_cs3 (q := 15) lk_Rf_151 (ro _ _ _) d_Rf_buses_12 rfl (Nat.le_of_ble_eq_true rfl) (Nat.zero_le _) (Nat.zero_le _) ?_
    refine ok_Rf_in0 (b := 2) (by decide) (fun t1 ht1 e => ?_) (fun ht1 => ?_)
    · subst e
      refine wp_if_eq_f (q := 18) (tgt := 29) d_Rf_buses_15 (by decide) rfl (by decide) ?_
      refine wp_iload (q := 20) d_Rf_buses_18 rfl rfl ?_
      refine wp_iconst (q := 21) d_Rf_buses_20 rfl ic_0 ?_
      refine wp_bipush (q := 23) d_Rf_buses_21 rfl bp_10 ?_
      refine wp_cs3 (q := 26) lk_Rf_151 (ro _ _ _) d_Rf_buses_23 rfl (Nat.le_of_ble_eq_true rfl) (Nat.zero_le _) (Nat.zero_le _) ?_
      refine ok_Rf_in0 (b := 10) (by decide) (fun n1 hn1 e => ?_) (fun hn1 => ?_)
      · subst e
        refine wp_if_ne_t (tgt := 32) d_Rf_buses_26 (by decide) (by decide) ?_
        refine wp_aload_n (q := 33) d_Rf_buses_32 rfl rfl ?_
        refine wp_get (q := 36) fl_Rf_101 d_Rf_buses_33 rfl rfl rfl ?_
        refine wp_iload_n (q := 37) d_Rf_buses_36 rfl rfl ?_
        refine wp_iald (q := 38) d_Rf_buses_37 rfl (rfl) (by omega) (by decide) ?_
        refine wp_iconst (q := 39) d_Rf_buses_38 rfl ic_m1 ?_
        refine wp_icmp_ne (q := 42) (tgt := 45) d_Rf_buses_39 (by decide) rfl (fun hc_39 => ?_) (fun hc_39 => ?_)
        · refine wp_aload_n (q := 46) d_Rf_buses_45 rfl rfl ?_
          refine wp_get (q := 49) fl_Rf_101 d_Rf_buses_46 rfl rfl rfl ?_
          refine wp_iload_n (q := 50) d_Rf_buses_49 rfl rfl ?_
          refine wp_iald (q := 51) d_Rf_buses_50 rfl (rfl) (by omega) (by decide) ?_
          refine wp_iload_n (q := 52) d_Rf_buses_51 rfl rfl ?_
          refine wp_icmp_eq (q := 55) (tgt := 58) d_Rf_buses_52 (by decide) rfl (fun hc_52 => ?_) (fun hc_52 => ?_)
          · refine wp_iconst (q := 59) d_Rf_buses_58 rfl ic_0 ?_
            refine wp_istore (q := 61) (L2 := [(5, _), (0, _), (1, _), (2, _), (3, _), (4, _)]) d_Rf_buses_59 rfl (by decide) rfl ?_
            refine wp_iconst (q := 62) d_Rf_buses_61 rfl ic_0 ?_
            refine wp_istore (q := 64) (L2 := [(6, _), (5, _), (0, _), (1, _), (2, _), (3, _), (4, _)]) d_Rf_buses_62 rfl (by decide) rfl ?_
            obtain ⟨sz, hsz, es⟩ := (hSZ s1 (by omega)).ex
            simp only [sp_buses, inn, inb, inm, btw, inn_t hs1, tnl hs1, inn_t ht1, tnl ht1, inn_t hn1, tnl hn1, hc_39, hc_52, es, tnt hsz, nI_nm1 (show t1 < 1000 by omega), not_true_eq_false, not_false_eq_true, or_false, false_or, or_true, true_or, and_true, true_and, and_false, false_and, or_self, and_self, if_true, if_false, ite_true, ite_false, eq_self] at hK
            exact bs_Rf_buses (by omega) hsz (by omega) n1 0 0 c nb es hnb h12 (by omega) (Or.inl rfl) hK
          · refine wp_bipush (q := 57) d_Rf_buses_55 rfl bp_m13 ?_
            refine wp_iret d_Rf_buses_57 rfl (Nat.le_refl _) (Nat.le_refl _) ?_
            simp only [sp_buses, inn, inb, inm, btw, inn_t hs1, tnl hs1, inn_t ht1, tnl ht1, inn_t hn1, tnl hn1, hc_39, hc_52, not_true_eq_false, not_false_eq_true, or_false, false_or, or_true, true_or, and_true, true_and, and_false, false_and, or_self, and_self, if_true, if_false, ite_true, ite_false, eq_self] at hK
            first | exact hK | (simp (disch := omega) only [tput_eq, tput2, tput_ne, upd_eq, upd_ne, ne_eq, va_upeq, va_upne, va_up2, not_true_eq_false, not_false_eq_true, or_false, false_or, or_true, true_or, and_true, true_and, and_false, false_and, or_self, and_self, if_true, if_false, ite_true, ite_false, eq_self] at hK ⊢; exact hK) | (simp (disch := omega) only [tput_eq, tput2, tput_ne, upd_eq, upd_ne, ne_eq, va_upeq, va_upne, va_up2, not_true_eq_false, not_false_eq_true, or_false, false_or, or_true, true_or, and_true, true_and, and_false, false_and, or_self, and_self, if_true, if_false, ite_true, ite_false, eq_self]; exact hK) | (simp (disch := omega) only [tput_eq, tput2, tput_ne, upd_eq, upd_ne, ne_eq, va_upeq, va_upne, va_up2, not_true_eq_false, not_false_eq_true, or_false, false_or, or_true, true_or, and_true, true_and, and_false, false_and, or_self, and_self, if_true, if_false, ite_true, ite_false, eq_self] at hK; exact hK)
        · refine wp_bipush (q := 44) d_Rf_buses_42 rfl bp_m11 ?_
          refine wp_iret d_Rf_buses_44 rfl (Nat.le_refl _) (Nat.le_refl _) ?_
          simp only [sp_buses, inn, inb, inm, btw, inn_t hs1, tnl hs1, inn_t ht1, tnl ht1, inn_t hn1, tnl hn1, hc_39, not_true_eq_false, not_false_eq_true, or_false, false_or, or_true, true_or, and_true, true_and, and_false, false_and, or_self, and_self, if_true, if_false, ite_true, ite_false, eq_self] at hK
          first | exact hK | (simp (disch := omega) only [tput_eq, tput2, tput_ne, upd_eq, upd_ne, ne_eq, va_upeq, va_upne, va_up2, not_true_eq_false, not_false_eq_true, or_false, false_or, or_true, true_or, and_true, true_and, and_false, false_and, or_self, and_self, if_true, if_false, ite_true, ite_false, eq_self] at hK ⊢; exact hK) | (simp (disch := omega) only [tput_eq, tput2, tput_ne, upd_eq, upd_ne, ne_eq, va_upeq, va_upne, va_up2, not_true_eq_false, not_false_eq_true, or_false, false_or, or_true, true_or, and_true, true_and, and_false, false_and, or_self, and_self, if_true, if_false, ite_true, ite_false, eq_self]; exact hK) | (simp (disch := omega) only [tput_eq, tput2, tput_ne, upd_eq, upd_ne, ne_eq, va_upeq, va_upne, va_up2, not_true_eq_false, not_false_eq_true, or_false, false_or, or_true, true_or, and_true, true_and, and_false, false_and, or_self, and_self, if_true, if_false, ite_true, ite_false, eq_self] at hK; exact hK)
      · refine wp_if_ne_f (q := 29) (tgt := 32) d_Rf_buses_26 (by decide) rfl (by decide) ?_
        refine wp_bipush (q := 31) d_Rf_buses_29 rfl bp_m2 ?_
        refine wp_iret d_Rf_buses_31 rfl (Nat.le_refl _) (Nat.le_refl _) ?_
        simp only [sp_buses, inn, inb, inm, btw, inn_t hs1, tnl hs1, inn_t ht1, tnl ht1, hn1, not_true_eq_false, not_false_eq_true, or_false, false_or, or_true, true_or, and_true, true_and, and_false, false_and, or_self, and_self, if_true, if_false, ite_true, ite_false, eq_self] at hK
        first | exact hK | (simp (disch := omega) only [tput_eq, tput2, tput_ne, upd_eq, upd_ne, ne_eq, va_upeq, va_upne, va_up2, not_true_eq_false, not_false_eq_true, or_false, false_or, or_true, true_or, and_true, true_and, and_false, false_and, or_self, and_self, if_true, if_false, ite_true, ite_false, eq_self] at hK ⊢; exact hK) | (simp (disch := omega) only [tput_eq, tput2, tput_ne, upd_eq, upd_ne, ne_eq, va_upeq, va_upne, va_up2, not_true_eq_false, not_false_eq_true, or_false, false_or, or_true, true_or, and_true, true_and, and_false, false_and, or_self, and_self, if_true, if_false, ite_true, ite_false, eq_self]; exact hK) | (simp (disch := omega) only [tput_eq, tput2, tput_ne, upd_eq, upd_ne, ne_eq, va_upeq, va_upne, va_up2, not_true_eq_false, not_false_eq_true, or_false, false_or, or_true, true_or, and_true, true_and, and_false, false_and, or_self, and_self, if_true, if_false, ite_true, ite_false, eq_self] at hK; exact hK)
    · refine wp_if_eq_t (tgt := 29) d_Rf_buses_15 (by decide) (by decide) ?_
      refine wp_bipush (q := 31) d_Rf_buses_29 rfl bp_m2 ?_
      refine wp_iret d_Rf_buses_31 rfl (Nat.le_refl _) (Nat.le_refl _) ?_
      simp only [sp_buses, inn, inb, inm, btw, inn_t hs1, tnl hs1, ht1, not_true_eq_false, not_false_eq_true, or_false, false_or, or_true, true_or, and_true, true_and, and_false, false_and, or_self, and_self, if_true, if_false, ite_true, ite_false, eq_self] at hK
      first | exact hK | (simp (disch := omega) only [tput_eq, tput2, tput_ne, upd_eq, upd_ne, ne_eq, va_upeq, va_upne, va_up2, not_true_eq_false, not_false_eq_true, or_false, false_or, or_true, true_or, and_true, true_and, and_false, false_and, or_self, and_self, if_true, if_false, ite_true, ite_false, eq_self] at hK ⊢; exact hK) | (simp (disch := omega) only [tput_eq, tput2, tput_ne, upd_eq, upd_ne, ne_eq, va_upeq, va_upne, va_up2, not_true_eq_false, not_false_eq_true, or_false, false_or, or_true, true_or, and_true, true_and, and_false, false_and, or_self, and_self, if_true, if_false, ite_true, ite_false, eq_self]; exact hK) | (simp (disch := omega) only [tput_eq, tput2, tput_ne, upd_eq, upd_ne, ne_eq, va_upeq, va_upne, va_up2, not_true_eq_false, not_false_eq_true, or_false, false_or, or_true, true_or, and_true, true_and, and_false, false_and, or_self, and_self, if_true, if_false, ite_true, ite_false, eq_self] at hK; exact hK)
  · refine wp_if_eq_t (tgt := 29) d_Rf_buses_6 (by decide) (by decide) ?_
    refine wp_bipush (q := 31) d_Rf_buses_29 rfl bp_m2 ?_
    refine wp_iret d_Rf_buses_31 rfl (Nat.le_refl _) (Nat.le_refl _) ?_
    simp only [sp_buses, inn, inb, inm, btw, hs1, not_true_eq_false, not_false_eq_true, or_false, false_or, or_true, true_or, and_true, true_and, and_false, false_and, or_self, and_self, if_true, if_false, ite_true, ite_false, eq_self] at hK
    first | exact hK | (simp (disch := omega) only [tput_eq, tput2, tput_ne, upd_eq, upd_ne, ne_eq, va_upeq, va_upne, va_up2, not_true_eq_false, not_false_eq_true, or_false, false_or, or_true, true_or, and_true, true_and, and_false, false_and, or_self, and_self, if_true, if_false, ite_true, ite_false, eq_self] at hK ⊢; exact hK) | (simp (disch := omega) only [tput_eq, tput2, tput_ne, upd_eq, upd_ne, ne_eq, va_upeq, va_upne, va_up2, not_true_eq_false, not_false_eq_true, or_false, false_or, or_true, true_or, and_true, true_and, and_false, false_and, or_self, and_self, if_true, if_false, ite_true, ite_false, eq_self]; exact hK) | (simp (disch := omega) only [tput_eq, tput2, tput_ne, upd_eq, upd_ne, ne_eq, va_upeq, va_upne, va_up2, not_true_eq_false, not_false_eq_true, or_false, false_or, or_true, true_or, and_true, true_and, and_false, false_and, or_self, and_self, if_true, if_false, ite_true, ite_false, eq_self] at hK; exact hK)
