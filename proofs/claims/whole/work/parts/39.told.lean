def tlV (c : T2) (kn : Int32) (k : Nat) : Int32 := if ¬ c 20 k = -1 ∧ c 20 k ≤ kn then c 19 k else c 17 k
def tlN (c : T2) (b lo hi kn : Int32) : Nat → Int64
  | 0 => 0
  | k + 1 => if c 15 k = b ∧ (lo ≤ c 16 k ∧ c 16 k ≤ hi) ∧ c 18 k ≤ kn then tlN c b lo hi kn k + (tlV c kn k).toInt64 else tlN c b lo hi kn k
theorem tl_y {c : T2} {b lo hi kn : Int32} {k : Nat} (h1 : c 15 k = b) (h2 : lo ≤ c 16 k) (h3 : c 16 k ≤ hi) (h4 : c 18 k ≤ kn) : tlN c b lo hi kn (k + 1) = tlN c b lo hi kn k + (tlV c kn k).toInt64 := by rw [tlN, if_pos ⟨h1, ⟨h2, h3⟩, h4⟩]
theorem tl_n {c : T2} {b lo hi kn : Int32} {k : Nat} (h : ¬ (c 15 k = b ∧ (lo ≤ c 16 k ∧ c 16 k ≤ hi) ∧ c 18 k ≤ kn)) : tlN c b lo hi kn (k + 1) = tlN c b lo hi kn k := by rw [tlN, if_neg h]
def sp_told (c : T2) (P : Nat → Int32) (nk : Nat) (b y kn : Int32) : Int64 := if ¬ inb c b ∨ ¬ inn y 99 then (-4611686018427387904) else if tn y % 10 < tn y / 10 then (-4611686018427387904) else if ¬ btw (nI 0) kn (P 234) then (-4611686018427387904) else tlN c b (nI (tn y / 10)) (nI (tn y % 10)) kn nk
theorem d_FG_sumKnown_0 : decode M_FG_sumKnown.2.1 0 = .ok (.aload_n 0, 1) := by decide +kernel
theorem d_FG_sumKnown_1 : decode M_FG_sumKnown.2.1 1 = .ok (.iconst 5, 1) := by decide +kernel
theorem d_FG_sumKnown_2 : decode M_FG_sumKnown.2.1 2 = .ok (.iaload, 1) := by decide +kernel
theorem d_FG_sumKnown_3 : decode M_FG_sumKnown.2.1 3 = .ok (.iconst (-1), 1) := by decide +kernel
theorem d_FG_sumKnown_4 : decode M_FG_sumKnown.2.1 4 = .ok (.if_icmp .eq 14, 3) := by decide +kernel
theorem d_FG_sumKnown_7 : decode M_FG_sumKnown.2.1 7 = .ok (.aload_n 0, 1) := by decide +kernel
theorem d_FG_sumKnown_8 : decode M_FG_sumKnown.2.1 8 = .ok (.iconst 5, 1) := by decide +kernel
theorem d_FG_sumKnown_9 : decode M_FG_sumKnown.2.1 9 = .ok (.iaload, 1) := by decide +kernel
theorem d_FG_sumKnown_10 : decode M_FG_sumKnown.2.1 10 = .ok (.iload_n 1, 1) := by decide +kernel
theorem d_FG_sumKnown_11 : decode M_FG_sumKnown.2.1 11 = .ok (.if_icmp .gt 7, 3) := by decide +kernel
theorem d_FG_sumKnown_14 : decode M_FG_sumKnown.2.1 14 = .ok (.iconst 1, 1) := by decide +kernel
theorem d_FG_sumKnown_15 : decode M_FG_sumKnown.2.1 15 = .ok (.goto 4, 3) := by decide +kernel
theorem d_FG_sumKnown_18 : decode M_FG_sumKnown.2.1 18 = .ok (.iconst 0, 1) := by decide +kernel
theorem d_FG_sumKnown_19 : decode M_FG_sumKnown.2.1 19 = .ok (.istore_n 2, 1) := by decide +kernel
theorem d_FG_sumKnown_20 : decode M_FG_sumKnown.2.1 20 = .ok (.iload_n 2, 1) := by decide +kernel
theorem d_FG_sumKnown_21 : decode M_FG_sumKnown.2.1 21 = .ok (.ifCond .eq 9, 3) := by decide +kernel
theorem d_FG_sumKnown_24 : decode M_FG_sumKnown.2.1 24 = .ok (.aload_n 0, 1) := by decide +kernel
theorem d_FG_sumKnown_25 : decode M_FG_sumKnown.2.1 25 = .ok (.iconst 4, 1) := by decide +kernel
theorem d_FG_sumKnown_26 : decode M_FG_sumKnown.2.1 26 = .ok (.iaload, 1) := by decide +kernel
theorem d_FG_sumKnown_27 : decode M_FG_sumKnown.2.1 27 = .ok (.goto 6, 3) := by decide +kernel
theorem d_FG_sumKnown_30 : decode M_FG_sumKnown.2.1 30 = .ok (.aload_n 0, 1) := by decide +kernel
theorem d_FG_sumKnown_31 : decode M_FG_sumKnown.2.1 31 = .ok (.iconst 2, 1) := by decide +kernel
theorem d_FG_sumKnown_32 : decode M_FG_sumKnown.2.1 32 = .ok (.iaload, 1) := by decide +kernel
theorem d_FG_sumKnown_33 : decode M_FG_sumKnown.2.1 33 = .ok (.ireturn, 1) := by decide +kernel
set_option maxHeartbeats 4000000 in
set_option maxRecDepth 100000 in
theorem ok_FG_sumKnown {D : xD} {N : Nat} {l : Launch} {d : Nat} {c x V : T2} {ln df : Nat → Option Nat} {rest : List va_E} {K : Option Value → List va_E → Prop} {nk : Nat} (hnk : c 32 7 = nI nk) (h30 : nk ≤ 30) {k : Nat} {kn : Int32} (hk : k < nk) (hK : K (some (.int (tlV c kn k))) (encC D N c x V ln df ++ rest)) : Ok D N l d M_FG_sumKnown [.ref (N + (87 + k)), .int kn] (encC D N c x V ln df ++ rest) 0 0 K := by
  refine ok_of (L := [(0, _), (1, _)]) (by decide) (Nat.le_of_ble_eq_true rfl) rfl ?_
  refine wp_aload_n (q := 1) d_FG_sumKnown_0 rfl rfl ?_
  refine wp_iconst (q := 2) d_FG_sumKnown_1 rfl ic_5 ?_
  refine wp_iald (q := 3) d_FG_sumKnown_2 rfl (rd_book (by omega)) (by omega) (by decide) ?_
  rw [show bookC c k 5 = c 20 k by simp [bookC, hnk, tnt (show nk < 31 by omega), hk]]
  refine wp_iconst (q := 4) d_FG_sumKnown_3 rfl ic_m1 ?_
  refine wp_icmp_eq (q := 7) (tgt := 18) d_FG_sumKnown_4 (by decide) rfl (fun hc_4 => ?_) (fun hc_4 => ?_)
  · refine wp_iconst (q := 19) d_FG_sumKnown_18 rfl ic_0 ?_
    refine wp_istore_n (q := 20) (L2 := [(2, _), (0, _), (1, _)]) d_FG_sumKnown_19 rfl (by decide) rfl ?_
    refine wp_iload_n (q := 21) d_FG_sumKnown_20 rfl rfl ?_
    refine wp_if_eq_t (tgt := 30) d_FG_sumKnown_21 (by decide) (by decide) ?_
    refine wp_aload_n (q := 31) d_FG_sumKnown_30 rfl rfl ?_
    refine wp_iconst (q := 32) d_FG_sumKnown_31 rfl ic_2 ?_
    refine wp_iald (q := 33) d_FG_sumKnown_32 rfl (rd_book (by omega)) (by omega) (by decide) ?_
    refine wp_iret d_FG_sumKnown_33 rfl (Nat.le_refl _) (Nat.le_refl _) ?_
    exact (show tlV c kn k = bookC c k 2 from if_neg (fun h => h.1 hc_4)) ▸ hK
  · refine wp_aload_n (q := 8) d_FG_sumKnown_7 rfl rfl ?_
    refine wp_iconst (q := 9) d_FG_sumKnown_8 rfl ic_5 ?_
    refine wp_iald (q := 10) d_FG_sumKnown_9 rfl (rd_book (by omega)) (by omega) (by decide) ?_
    rw [show bookC c k 5 = c 20 k by simp [bookC, hnk, tnt (show nk < 31 by omega), hk]]
    refine wp_iload_n (q := 11) d_FG_sumKnown_10 rfl rfl ?_
    refine wp_icmp_gt (q := 14) (tgt := 18) d_FG_sumKnown_11 (by decide) rfl (fun hc_11 => ?_) (fun hc_11 => ?_)
    · refine wp_iconst (q := 19) d_FG_sumKnown_18 rfl ic_0 ?_
      refine wp_istore_n (q := 20) (L2 := [(2, _), (0, _), (1, _)]) d_FG_sumKnown_19 rfl (by decide) rfl ?_
      refine wp_iload_n (q := 21) d_FG_sumKnown_20 rfl rfl ?_
      refine wp_if_eq_t (tgt := 30) d_FG_sumKnown_21 (by decide) (by decide) ?_
      refine wp_aload_n (q := 31) d_FG_sumKnown_30 rfl rfl ?_
      refine wp_iconst (q := 32) d_FG_sumKnown_31 rfl ic_2 ?_
      refine wp_iald (q := 33) d_FG_sumKnown_32 rfl (rd_book (by omega)) (by omega) (by decide) ?_
      refine wp_iret d_FG_sumKnown_33 rfl (Nat.le_refl _) (Nat.le_refl _) ?_
      exact (show tlV c kn k = bookC c k 2 from if_neg (fun h => lt_le hc_11 h.2)) ▸ hK
    · refine wp_iconst (q := 15) d_FG_sumKnown_14 rfl ic_1 ?_
      refine wp_goto (tgt := 19) d_FG_sumKnown_15 (by decide) ?_
      refine wp_istore_n (q := 20) (L2 := [(2, _), (0, _), (1, _)]) d_FG_sumKnown_19 rfl (by decide) rfl ?_
      refine wp_iload_n (q := 21) d_FG_sumKnown_20 rfl rfl ?_
      refine wp_if_eq_f (q := 24) (tgt := 30) d_FG_sumKnown_21 (by decide) rfl (by decide) ?_
      refine wp_aload_n (q := 25) d_FG_sumKnown_24 rfl rfl ?_
      refine wp_iconst (q := 26) d_FG_sumKnown_25 rfl ic_4 ?_
      refine wp_iald (q := 27) d_FG_sumKnown_26 rfl (rd_book (by omega)) (by omega) (by decide) ?_
      refine wp_goto (tgt := 33) d_FG_sumKnown_27 (by decide) ?_
      refine wp_iret d_FG_sumKnown_33 rfl (Nat.le_refl _) (Nat.le_refl _) ?_
      exact (show tlV c kn k = bookC c k 4 from if_pos ⟨hc_4, nlt_le hc_11⟩) ▸ hK
theorem d_FG_told_0 : decode M_FG_told.2.1 0 = .ok (.aload_n 0, 1) := by decide +kernel
theorem d_FG_told_1 : decode M_FG_told.2.1 1 = .ok (.iload_n 1, 1) := by decide +kernel
theorem d_FG_told_2 : decode M_FG_told.2.1 2 = .ok (.invokevirtual 82, 3) := by decide +kernel
theorem d_FG_told_5 : decode M_FG_told.2.1 5 = .ok (.ifCond .eq 24, 3) := by decide +kernel
theorem d_FG_told_8 : decode M_FG_told.2.1 8 = .ok (.iload_n 2, 1) := by decide +kernel
theorem d_FG_told_9 : decode M_FG_told.2.1 9 = .ok (.iconst 0, 1) := by decide +kernel
theorem d_FG_told_10 : decode M_FG_told.2.1 10 = .ok (.bipush 99, 2) := by decide +kernel
theorem d_FG_told_12 : decode M_FG_told.2.1 12 = .ok (.invokestatic 61, 3) := by decide +kernel
theorem d_FG_told_15 : decode M_FG_told.2.1 15 = .ok (.ifCond .eq 14, 3) := by decide +kernel
theorem d_FG_told_18 : decode M_FG_told.2.1 18 = .ok (.iload_n 2, 1) := by decide +kernel
theorem d_FG_told_19 : decode M_FG_told.2.1 19 = .ok (.bipush 10, 2) := by decide +kernel
theorem d_FG_told_21 : decode M_FG_told.2.1 21 = .ok (.irem, 1) := by decide +kernel
theorem d_FG_told_22 : decode M_FG_told.2.1 22 = .ok (.iload_n 2, 1) := by decide +kernel
theorem d_FG_told_23 : decode M_FG_told.2.1 23 = .ok (.bipush 10, 2) := by decide +kernel
theorem d_FG_told_25 : decode M_FG_told.2.1 25 = .ok (.idiv, 1) := by decide +kernel
theorem d_FG_told_26 : decode M_FG_told.2.1 26 = .ok (.if_icmp .ge 7, 3) := by decide +kernel
theorem d_FG_told_29 : decode M_FG_told.2.1 29 = .ok (.ldc2_w 253, 3) := by decide +kernel
theorem d_FG_told_32 : decode M_FG_told.2.1 32 = .ok (.lreturn, 1) := by decide +kernel
theorem d_FG_told_33 : decode M_FG_told.2.1 33 = .ok (.iload_n 3, 1) := by decide +kernel
theorem d_FG_told_34 : decode M_FG_told.2.1 34 = .ok (.iconst 0, 1) := by decide +kernel
theorem d_FG_told_35 : decode M_FG_told.2.1 35 = .ok (.aload_n 0, 1) := by decide +kernel
theorem d_FG_told_36 : decode M_FG_told.2.1 36 = .ok (.getfield 19, 3) := by decide +kernel
theorem d_FG_told_39 : decode M_FG_told.2.1 39 = .ok (.getfield 111, 3) := by decide +kernel
theorem d_FG_told_42 : decode M_FG_told.2.1 42 = .ok (.invokestatic 61, 3) := by decide +kernel
theorem d_FG_told_45 : decode M_FG_told.2.1 45 = .ok (.ifCond .ne 7, 3) := by decide +kernel
theorem d_FG_told_48 : decode M_FG_told.2.1 48 = .ok (.ldc2_w 253, 3) := by decide +kernel
theorem d_FG_told_51 : decode M_FG_told.2.1 51 = .ok (.lreturn, 1) := by decide +kernel
theorem d_FG_told_52 : decode M_FG_told.2.1 52 = .ok (.lconst 0, 1) := by decide +kernel
theorem d_FG_told_53 : decode M_FG_told.2.1 53 = .ok (.lstore 4, 2) := by decide +kernel
theorem d_FG_told_55 : decode M_FG_told.2.1 55 = .ok (.iconst 0, 1) := by decide +kernel
theorem d_FG_told_56 : decode M_FG_told.2.1 56 = .ok (.istore 6, 2) := by decide +kernel
theorem d_FG_told_58 : decode M_FG_told.2.1 58 = .ok (.iload 6, 2) := by decide +kernel
theorem d_FG_told_60 : decode M_FG_told.2.1 60 = .ok (.aload_n 0, 1) := by decide +kernel
theorem d_FG_told_61 : decode M_FG_told.2.1 61 = .ok (.getfield 236, 3) := by decide +kernel
theorem d_FG_told_64 : decode M_FG_told.2.1 64 = .ok (.if_icmp .ge 67, 3) := by decide +kernel
theorem d_FG_told_67 : decode M_FG_told.2.1 67 = .ok (.aload_n 0, 1) := by decide +kernel
theorem d_FG_told_68 : decode M_FG_told.2.1 68 = .ok (.getfield 44, 3) := by decide +kernel
theorem d_FG_told_71 : decode M_FG_told.2.1 71 = .ok (.iload 6, 2) := by decide +kernel
theorem d_FG_told_73 : decode M_FG_told.2.1 73 = .ok (.aaload, 1) := by decide +kernel
theorem d_FG_told_74 : decode M_FG_told.2.1 74 = .ok (.astore 7, 2) := by decide +kernel
theorem d_FG_told_76 : decode M_FG_told.2.1 76 = .ok (.aload 7, 2) := by decide +kernel
theorem d_FG_told_78 : decode M_FG_told.2.1 78 = .ok (.iconst 0, 1) := by decide +kernel
theorem d_FG_told_79 : decode M_FG_told.2.1 79 = .ok (.iaload, 1) := by decide +kernel
theorem d_FG_told_80 : decode M_FG_told.2.1 80 = .ok (.iload_n 1, 1) := by decide +kernel
theorem d_FG_told_81 : decode M_FG_told.2.1 81 = .ok (.if_icmp .ne 44, 3) := by decide +kernel
theorem d_FG_told_84 : decode M_FG_told.2.1 84 = .ok (.aload 7, 2) := by decide +kernel
theorem d_FG_told_86 : decode M_FG_told.2.1 86 = .ok (.iconst 1, 1) := by decide +kernel
theorem d_FG_told_87 : decode M_FG_told.2.1 87 = .ok (.iaload, 1) := by decide +kernel
theorem d_FG_told_88 : decode M_FG_told.2.1 88 = .ok (.iload_n 2, 1) := by decide +kernel
theorem d_FG_told_89 : decode M_FG_told.2.1 89 = .ok (.bipush 10, 2) := by decide +kernel
theorem d_FG_told_91 : decode M_FG_told.2.1 91 = .ok (.idiv, 1) := by decide +kernel
theorem d_FG_told_92 : decode M_FG_told.2.1 92 = .ok (.iload_n 2, 1) := by decide +kernel
theorem d_FG_told_93 : decode M_FG_told.2.1 93 = .ok (.bipush 10, 2) := by decide +kernel
theorem d_FG_told_95 : decode M_FG_told.2.1 95 = .ok (.irem, 1) := by decide +kernel
theorem d_FG_told_96 : decode M_FG_told.2.1 96 = .ok (.invokestatic 61, 3) := by decide +kernel
theorem d_FG_told_99 : decode M_FG_told.2.1 99 = .ok (.ifCond .ne 6, 3) := by decide +kernel
theorem d_FG_told_102 : decode M_FG_told.2.1 102 = .ok (.goto 23, 3) := by decide +kernel
theorem d_FG_told_105 : decode M_FG_told.2.1 105 = .ok (.aload 7, 2) := by decide +kernel
theorem d_FG_told_107 : decode M_FG_told.2.1 107 = .ok (.iconst 3, 1) := by decide +kernel
theorem d_FG_told_108 : decode M_FG_told.2.1 108 = .ok (.iaload, 1) := by decide +kernel
theorem d_FG_told_109 : decode M_FG_told.2.1 109 = .ok (.iload_n 3, 1) := by decide +kernel
theorem d_FG_told_110 : decode M_FG_told.2.1 110 = .ok (.if_icmp .gt 15, 3) := by decide +kernel
theorem d_FG_told_113 : decode M_FG_told.2.1 113 = .ok (.lload 4, 2) := by decide +kernel
theorem d_FG_told_115 : decode M_FG_told.2.1 115 = .ok (.aload 7, 2) := by decide +kernel
theorem d_FG_told_117 : decode M_FG_told.2.1 117 = .ok (.iload_n 3, 1) := by decide +kernel
theorem d_FG_told_118 : decode M_FG_told.2.1 118 = .ok (.invokestatic 297, 3) := by decide +kernel
theorem d_FG_told_121 : decode M_FG_told.2.1 121 = .ok (.i2l, 1) := by decide +kernel
theorem d_FG_told_122 : decode M_FG_told.2.1 122 = .ok (.ladd, 1) := by decide +kernel
theorem d_FG_told_123 : decode M_FG_told.2.1 123 = .ok (.lstore 4, 2) := by decide +kernel
theorem d_FG_told_125 : decode M_FG_told.2.1 125 = .ok (.iinc 6 1, 3) := by decide +kernel
theorem d_FG_told_128 : decode M_FG_told.2.1 128 = .ok (.goto (-70), 3) := by decide +kernel
theorem d_FG_told_131 : decode M_FG_told.2.1 131 = .ok (.lload 4, 2) := by decide +kernel
theorem d_FG_told_133 : decode M_FG_told.2.1 133 = .ok (.lreturn, 1) := by decide +kernel
set_option maxHeartbeats 4000000 in
set_option maxRecDepth 100000 in
theorem tl_FG_told {D : xD} {N : Nat} {l : Launch} {d : Nat} {c x V : T2} {P : Nat → Int32} {ln df : Nat → Option Nat} {rest : List va_E} {K : Option Value → List va_E → Prop} {nk : Nat} (hnk : c 32 7 = nI nk) (h30 : nk ≤ 30) {b y : Nat} {kn : Int32} (hy : y ≤ 99) (hK : K (some (.long (tlN c (nI b) (nI (y / 10)) (nI (y % 10)) kn nk))) (encC D N c x (va_up V 0 P) ln df ++ rest)) : Wp D N l (EI M_FG_told) M_FG_told (Rm (d + 2) 0 0) (Qm D N K 0 0) 0 0 58 [(6, .int (nI 0)), (4, .long (tlN c (nI b) (nI (y / 10)) (nI (y % 10)) kn 0)), (0, .ref (N + 0)), (1, .int (nI b)), (2, .int (nI y)), (3, .int kn)] [] (encC D N c x (va_up V 0 P) ln df ++ rest) := by
  have lp : ∀ k : Nat, k ≤ nk → Wp D N l (EI M_FG_told) M_FG_told (Rm (d + 2) 0 0) (Qm D N K 0 0) 0 0 58 [(6, .int (nI k)), (4, .long (tlN c (nI b) (nI (y / 10)) (nI (y % 10)) kn k)), (0, .ref (N + 0)), (1, .int (nI b)), (2, .int (nI y)), (3, .int kn)] [] (encC D N c x (va_up V 0 P) ln df ++ rest) := by
    refine up_loop ?_ ?_
    · skip
      refine wp_iload (q := 60) d_FG_told_58 rfl rfl ?_
      refine wp_aload_n (q := 61) d_FG_told_60 rfl rfl ?_
      refine wp_get (q := 64) fl_FG_236 d_FG_told_61 rfl rfl rfl ?_
      rw [hnk]
      refine wp_icmp_ge_t (tgt := 131) d_FG_told_64 (by decide) (nI_le (Nat.le_refl _) (by omega)) ?_
      refine wp_lload (q := 133) d_FG_told_131 rfl rfl ?_
      refine wp_lret d_FG_told_133 rfl (Nat.le_refl _) (Nat.le_refl _) ?_
      exact hK
    · intro k hk ih
      refine wp_iload (q := 60) d_FG_told_58 rfl rfl ?_
      refine wp_aload_n (q := 61) d_FG_told_60 rfl rfl ?_
      refine wp_get (q := 64) fl_FG_236 d_FG_told_61 rfl rfl rfl ?_
      rw [hnk]
      refine wp_icmp_ge_f (q := 67) (tgt := 131) d_FG_told_64 (by decide) rfl (nI_ge hk (by omega)) ?_
      refine wp_aload_n (q := 68) d_FG_told_67 rfl rfl ?_
      refine wp_get (q := 71) fl_FG_44 d_FG_told_68 rfl rfl rfl ?_
      refine wp_iload (q := 73) d_FG_told_71 rfl rfl ?_
      refine wp_aldA (q := 74) d_FG_told_73 rfl (rfl) (by omega) (by decide) (rows_at (by omega)) ?_
      refine wp_astore (q := 76) (L2 := [(7, _), (6, _), (4, _), (0, _), (1, _), (2, _), (3, _)]) d_FG_told_74 rfl (by decide) rfl ?_
      refine wp_aload (q := 78) d_FG_told_76 rfl rfl ?_
      refine wp_iconst (q := 79) d_FG_told_78 rfl ic_0 ?_
      refine wp_iald (q := 80) d_FG_told_79 rfl (rd_book (by omega)) (by omega) (by decide) ?_
      rw [show bookC c k 0 = c 15 k from rfl]
      refine wp_iload_n (q := 81) d_FG_told_80 rfl rfl ?_
      refine wp_icmp_ne (q := 84) (tgt := 125) d_FG_told_81 (by decide) rfl (fun hc_81 => ?_) (fun hc_81 => ?_)
      · refine wp_iinc (q := 128) (L2 := [(6, _), (7, _), (4, _), (0, _), (1, _), (2, _), (3, _)]) d_FG_told_125 rfl rfl (iinc_1) (by decide) rfl ?_
        refine wp_goto (tgt := 58) d_FG_told_128 (by decide) ?_
        refine wp_sub [0, 2, 3, 4, 5, 6] rfl ?_
        rw [tl_n (fun h => hc_81 h.1)] at ih; exact ih
      · refine wp_aload (q := 86) d_FG_told_84 rfl rfl ?_
        refine wp_iconst (q := 87) d_FG_told_86 rfl ic_1 ?_
        refine wp_iald (q := 88) d_FG_told_87 rfl (rd_book (by omega)) (by omega) (by decide) ?_
        rw [show bookC c k 1 = c 16 k from rfl]
        refine wp_iload_n (q := 89) d_FG_told_88 rfl rfl ?_
        refine wp_bipush (q := 91) d_FG_told_89 rfl bp_10 ?_
        refine wp_idivN (q := 92) d_FG_told_91 rfl (by omega) (by decide) (by decide) ?_
        refine wp_iload_n (q := 93) d_FG_told_92 rfl rfl ?_
        refine wp_bipush (q := 95) d_FG_told_93 rfl bp_10 ?_
        refine wp_iremN (q := 96) d_FG_told_95 rfl (by omega) (by decide) (by decide) ?_
        refine wp_cs3 (q := 99) lk_FG_61 (ro _ _ _) d_FG_told_96 rfl (Nat.le_of_ble_eq_true rfl) (Nat.zero_le _) (Nat.zero_le _) ?_
        refine ok_FG_within (fun hia hib => ?_) (fun hi1 => ?_)
        · refine wp_if_ne_t (tgt := 105) d_FG_told_99 (by decide) (by decide) ?_
          refine wp_aload (q := 107) d_FG_told_105 rfl rfl ?_
          refine wp_iconst (q := 108) d_FG_told_107 rfl ic_3 ?_
          refine wp_iald (q := 109) d_FG_told_108 rfl (rd_book (by omega)) (by omega) (by decide) ?_
          rw [show bookC c k 3 = c 18 k from rfl]
          refine wp_iload_n (q := 110) d_FG_told_109 rfl rfl ?_
          refine wp_icmp_gt (q := 113) (tgt := 125) d_FG_told_110 (by decide) rfl (fun hc_110 => ?_) (fun hc_110 => ?_)
          · refine wp_iinc (q := 128) (L2 := [(6, _), (7, _), (4, _), (0, _), (1, _), (2, _), (3, _)]) d_FG_told_125 rfl rfl (iinc_1) (by decide) rfl ?_
            refine wp_goto (tgt := 58) d_FG_told_128 (by decide) ?_
            refine wp_sub [0, 2, 3, 4, 5, 6] rfl ?_
            rw [tl_n (fun h => lt_le hc_110 h.2.2)] at ih; exact ih
          · refine wp_lload (q := 115) d_FG_told_113 rfl rfl ?_
            refine wp_aload (q := 117) d_FG_told_115 rfl rfl ?_
            refine wp_iload_n (q := 118) d_FG_told_117 rfl rfl ?_
            refine wp_cs2 (q := 121) lk_FG_297 (ro _ _ _) d_FG_told_118 rfl (Nat.le_of_ble_eq_true rfl) (Nat.zero_le _) (Nat.zero_le _) ?_
            refine ok_FG_sumKnown hnk h30 hk ?_
            refine wp_i2l (q := 122) d_FG_told_121 rfl ?_
            refine wp_ladd (q := 123) d_FG_told_122 rfl ?_
            refine wp_lstore (q := 125) (L2 := [(4, _), (7, _), (6, _), (0, _), (1, _), (2, _), (3, _)]) d_FG_told_123 rfl (by decide) rfl ?_
            refine wp_iinc (q := 128) (L2 := [(6, _), (4, _), (7, _), (0, _), (1, _), (2, _), (3, _)]) d_FG_told_125 rfl rfl (iinc_1) (by decide) rfl ?_
            refine wp_goto (tgt := 58) d_FG_told_128 (by decide) ?_
            refine wp_sub [0, 1, 3, 4, 5, 6] rfl ?_
            rw [tl_y hc_81 hia hib (nlt_le hc_110)] at ih; exact ih
        · refine wp_if_ne_f (q := 102) (tgt := 105) d_FG_told_99 (by decide) rfl (by decide) ?_
          refine wp_goto (tgt := 125) d_FG_told_102 (by decide) ?_
          refine wp_iinc (q := 128) (L2 := [(6, _), (7, _), (4, _), (0, _), (1, _), (2, _), (3, _)]) d_FG_told_125 rfl rfl (iinc_1) (by decide) rfl ?_
          refine wp_goto (tgt := 58) d_FG_told_128 (by decide) ?_
          refine wp_sub [0, 2, 3, 4, 5, 6] rfl ?_
          rw [tl_n (fun h => hi1 h.2.1)] at ih; exact ih
  exact lp 0 (Nat.zero_le _)
set_option maxHeartbeats 4000000 in
set_option maxRecDepth 100000 in
theorem ok_FG_told {D : xD} {N : Nat} {l : Launch} {d : Nat} {c x V : T2} {P : Nat → Int32} {ln df : Nat → Option Nat} {rest : List va_E} {K : Option Value → List va_E → Prop} {b y kn : Int32} {nb : Nat} (hnb : c 32 1 = nI nb) (h12 : nb ≤ 12) {nk : Nat} (hnk : c 32 7 = nI nk) (h30 : nk ≤ 30) (hK : K (some (.long (sp_told c P nk b y kn))) (encC D N c x (va_up V 0 P) ln df ++ rest)) : Ok D N l (d + 2) M_FG_told [.ref (N + 0), .int b, .int y, .int kn] (encC D N c x (va_up V 0 P) ln df ++ rest) 0 0 K := by
  refine ok_of (L := [(0, _), (1, _), (2, _), (3, _)]) (by decide) (Nat.le_of_ble_eq_true rfl) rfl ?_
  refine wp_aload_n (q := 1) d_FG_told_0 rfl rfl ?_
  refine wp_iload_n (q := 2) d_FG_told_1 rfl rfl ?_
  refine wp_cv1 (q := 5) lk_FG_82 (ro _ _ _) d_FG_told_2 rfl (Nat.le_of_ble_eq_true rfl) (rfl) rfl (Nat.zero_le _) (Nat.zero_le _) ?_
  refine ok_FG_isBus hnb h12 (fun b1 hb1 e => ?_) (fun hb1 => ?_)
  · subst e
    refine wp_if_eq_f (q := 8) (tgt := 29) d_FG_told_5 (by decide) rfl (by decide) ?_
    refine wp_iload_n (q := 9) d_FG_told_8 rfl rfl ?_
    refine wp_iconst (q := 10) d_FG_told_9 rfl ic_0 ?_
    refine wp_bipush (q := 12) d_FG_told_10 rfl bp_99 ?_
    refine wp_cs3 (q := 15) lk_FG_61 (ro _ _ _) d_FG_told_12 rfl (Nat.le_of_ble_eq_true rfl) (Nat.zero_le _) (Nat.zero_le _) ?_
    refine ok_FG_within0 (b := 99) (by decide) (fun y1 hy1 e => ?_) (fun hy1 => ?_)
    · subst e
      refine wp_if_eq_f (q := 18) (tgt := 29) d_FG_told_15 (by decide) rfl (by decide) ?_
      refine wp_iload_n (q := 19) d_FG_told_18 rfl rfl ?_
      refine wp_bipush (q := 21) d_FG_told_19 rfl bp_10 ?_
      refine wp_iremN (q := 22) d_FG_told_21 rfl (by omega) (by decide) (by decide) ?_
      refine wp_iload_n (q := 23) d_FG_told_22 rfl rfl ?_
      refine wp_bipush (q := 25) d_FG_told_23 rfl bp_10 ?_
      refine wp_idivN (q := 26) d_FG_told_25 rfl (by omega) (by decide) (by decide) ?_
      refine wp_icmp_ge (q := 29) (tgt := 33) d_FG_told_26 (by decide) rfl (fun hc_26 => ?_) (fun hc_26 => ?_)
      · have hq : ¬ y1 % 10 < y1 / 10 := fun h => (le_nlt hc_26) (nI_lt h (by omega))
        refine wp_iload_n (q := 34) d_FG_told_33 rfl rfl ?_
        refine wp_iconst (q := 35) d_FG_told_34 rfl ic_0 ?_
        refine wp_aload_n (q := 36) d_FG_told_35 rfl rfl ?_
        refine wp_get (q := 39) fl_FG_19 d_FG_told_36 rfl rfl rfl ?_
        refine wp_get (q := 42) fl_FG_111 d_FG_told_39 rfl (rdO (w := 0) (by decide)) rfl ?_
        refine wp_cs3 (q := 45) lk_FG_61 (ro _ _ _) d_FG_told_42 rfl (Nat.le_of_ble_eq_true rfl) (Nat.zero_le _) (Nat.zero_le _) ?_
        refine ok_FG_within (fun hn1a hn1b => ?_) (fun hn1 => ?_)
        · refine wp_if_ne_t (tgt := 52) d_FG_told_45 (by decide) (by decide) ?_
          refine wp_lconst (q := 53) d_FG_told_52 rfl rfl ?_
          refine wp_lstore (q := 55) (L2 := [(4, _), (0, _), (1, _), (2, _), (3, _)]) d_FG_told_53 rfl (by decide) rfl ?_
          refine wp_iconst (q := 56) d_FG_told_55 rfl ic_0 ?_
          refine wp_istore (q := 58) (L2 := [(6, _), (4, _), (0, _), (1, _), (2, _), (3, _)]) d_FG_told_56 rfl (by decide) rfl ?_
          refine tl_FG_told hnk h30 hy1 ?_
          simp only [sp_told, inn, inb, inm, btw, inb_t hnb h12 hb1, tnt (Nat.lt_of_lt_of_le hb1 h12), inn_t hy1, tnl hy1, hq, hn1a, hn1b, not_true_eq_false, not_false_eq_true, or_false, false_or, or_true, true_or, and_true, true_and, and_false, false_and, or_self, and_self, if_true, if_false, ite_true, ite_false, eq_self] at hK
          exact hK
        · refine wp_if_ne_f (q := 48) (tgt := 52) d_FG_told_45 (by decide) rfl (by decide) ?_
          refine wp_ldc2 (q := 51) d_FG_told_48 rfl kl_FG_253 ?_
          refine wp_lret d_FG_told_51 rfl (Nat.le_refl _) (Nat.le_refl _) ?_
          simp only [sp_told, inn, inb, inm, btw, inb_t hnb h12 hb1, tnt (Nat.lt_of_lt_of_le hb1 h12), inn_t hy1, tnl hy1, hq, hn1, not_true_eq_false, not_false_eq_true, or_false, false_or, or_true, true_or, and_true, true_and, and_false, false_and, or_self, and_self, if_true, if_false, ite_true, ite_false, eq_self] at hK
          first | exact hK | (simp (disch := omega) only [tput_eq, tput2, tput_ne, upd_eq, upd_ne, ne_eq, va_upeq, va_upne, va_up2, not_true_eq_false, not_false_eq_true, or_false, false_or, or_true, true_or, and_true, true_and, and_false, false_and, or_self, and_self, if_true, if_false, ite_true, ite_false, eq_self] at hK ⊢; exact hK) | (simp (disch := omega) only [tput_eq, tput2, tput_ne, upd_eq, upd_ne, ne_eq, va_upeq, va_upne, va_up2, not_true_eq_false, not_false_eq_true, or_false, false_or, or_true, true_or, and_true, true_and, and_false, false_and, or_self, and_self, if_true, if_false, ite_true, ite_false, eq_self]; exact hK) | (simp (disch := omega) only [tput_eq, tput2, tput_ne, upd_eq, upd_ne, ne_eq, va_upeq, va_upne, va_up2, not_true_eq_false, not_false_eq_true, or_false, false_or, or_true, true_or, and_true, true_and, and_false, false_and, or_self, and_self, if_true, if_false, ite_true, ite_false, eq_self] at hK; exact hK)
      · have hq : y1 % 10 < y1 / 10 := by
          exact Nat.lt_of_not_le (fun h => hc_26 (nI_le h (by omega)))
        refine wp_ldc2 (q := 32) d_FG_told_29 rfl kl_FG_253 ?_
        refine wp_lret d_FG_told_32 rfl (Nat.le_refl _) (Nat.le_refl _) ?_
        simp only [sp_told, inn, inb, inm, btw, inb_t hnb h12 hb1, tnt (Nat.lt_of_lt_of_le hb1 h12), inn_t hy1, tnl hy1, hq, not_true_eq_false, not_false_eq_true, or_false, false_or, or_true, true_or, and_true, true_and, and_false, false_and, or_self, and_self, if_true, if_false, ite_true, ite_false, eq_self] at hK
        first | exact hK | (simp (disch := omega) only [tput_eq, tput2, tput_ne, upd_eq, upd_ne, ne_eq, va_upeq, va_upne, va_up2, not_true_eq_false, not_false_eq_true, or_false, false_or, or_true, true_or, and_true, true_and, and_false, false_and, or_self, and_self, if_true, if_false, ite_true, ite_false, eq_self] at hK ⊢; exact hK) | (simp (disch := omega) only [tput_eq, tput2, tput_ne, upd_eq, upd_ne, ne_eq, va_upeq, va_upne, va_up2, not_true_eq_false, not_false_eq_true, or_false, false_or, or_true, true_or, and_true, true_and, and_false, false_and, or_self, and_self, if_true, if_false, ite_true, ite_false, eq_self]; exact hK) | (simp (disch := omega) only [tput_eq, tput2, tput_ne, upd_eq, upd_ne, ne_eq, va_upeq, va_upne, va_up2, not_true_eq_false, not_false_eq_true, or_false, false_or, or_true, true_or, and_true, true_and, and_false, false_and, or_self, and_self, if_true, if_false, ite_true, ite_false, eq_self] at hK; exact hK)
    · refine wp_if_eq_t (tgt := 29) d_FG_told_15 (by decide) (by decide) ?_
      refine wp_ldc2 (q := 32) d_FG_told_29 rfl kl_FG_253 ?_
      refine wp_lret d_FG_told_32 rfl (Nat.le_refl _) (Nat.le_refl _) ?_
      simp only [sp_told, inn, inb, inm, btw, inb_t hnb h12 hb1, tnt (Nat.lt_of_lt_of_le hb1 h12), hy1, not_true_eq_false, not_false_eq_true, or_false, false_or, or_true, true_or, and_true, true_and, and_false, false_and, or_self, and_self, if_true, if_false, ite_true, ite_false, eq_self] at hK
      first | exact hK | (simp (disch := omega) only [tput_eq, tput2, tput_ne, upd_eq, upd_ne, ne_eq, va_upeq, va_upne, va_up2, not_true_eq_false, not_false_eq_true, or_false, false_or, or_true, true_or, and_true, true_and, and_false, false_and, or_self, and_self, if_true, if_false, ite_true, ite_false, eq_self] at hK ⊢; exact hK) | (simp (disch := omega) only [tput_eq, tput2, tput_ne, upd_eq, upd_ne, ne_eq, va_upeq, va_upne, va_up2, not_true_eq_false, not_false_eq_true, or_false, false_or, or_true, true_or, and_true, true_and, and_false, false_and, or_self, and_self, if_true, if_false, ite_true, ite_false, eq_self]; exact hK) | (simp (disch := omega) only [tput_eq, tput2, tput_ne, upd_eq, upd_ne, ne_eq, va_upeq, va_upne, va_up2, not_true_eq_false, not_false_eq_true, or_false, false_or, or_true, true_or, and_true, true_and, and_false, false_and, or_self, and_self, if_true, if_false, ite_true, ite_false, eq_self] at hK; exact hK)
  · refine wp_if_eq_t (tgt := 29) d_FG_told_5 (by decide) (by decide) ?_
    refine wp_ldc2 (q := 32) d_FG_told_29 rfl kl_FG_253 ?_
    refine wp_lret d_FG_told_32 rfl (Nat.le_refl _) (Nat.le_refl _) ?_
    simp only [sp_told, inn, inb, inm, btw, hb1, not_true_eq_false, not_false_eq_true, or_false, false_or, or_true, true_or, and_true, true_and, and_false, false_and, or_self, and_self, if_true, if_false, ite_true, ite_false, eq_self] at hK
    first | exact hK | (simp (disch := omega) only [tput_eq, tput2, tput_ne, upd_eq, upd_ne, ne_eq, va_upeq, va_upne, va_up2, not_true_eq_false, not_false_eq_true, or_false, false_or, or_true, true_or, and_true, true_and, and_false, false_and, or_self, and_self, if_true, if_false, ite_true, ite_false, eq_self] at hK ⊢; exact hK) | (simp (disch := omega) only [tput_eq, tput2, tput_ne, upd_eq, upd_ne, ne_eq, va_upeq, va_upne, va_up2, not_true_eq_false, not_false_eq_true, or_false, false_or, or_true, true_or, and_true, true_and, and_false, false_and, or_self, and_self, if_true, if_false, ite_true, ite_false, eq_self]; exact hK) | (simp (disch := omega) only [tput_eq, tput2, tput_ne, upd_eq, upd_ne, ne_eq, va_upeq, va_upne, va_up2, not_true_eq_false, not_false_eq_true, or_false, false_or, or_true, true_or, and_true, true_and, and_false, false_and, or_self, and_self, if_true, if_false, ite_true, ite_false, eq_self] at hK; exact hK)
theorem d_Rf_told_0 : decode M_Rf_told.2.1 0 = .ok (.aload_n 0, 1) := by decide +kernel
theorem d_Rf_told_1 : decode M_Rf_told.2.1 1 = .ok (.iload_n 1, 1) := by decide +kernel
theorem d_Rf_told_2 : decode M_Rf_told.2.1 2 = .ok (.invokevirtual 167, 3) := by decide +kernel
theorem d_Rf_told_5 : decode M_Rf_told.2.1 5 = .ok (.ifCond .eq 40, 3) := by decide +kernel
theorem d_Rf_told_8 : decode M_Rf_told.2.1 8 = .ok (.iload_n 2, 1) := by decide +kernel
theorem d_Rf_told_9 : decode M_Rf_told.2.1 9 = .ok (.iconst 0, 1) := by decide +kernel
theorem d_Rf_told_10 : decode M_Rf_told.2.1 10 = .ok (.bipush 99, 2) := by decide +kernel
theorem d_Rf_told_12 : decode M_Rf_told.2.1 12 = .ok (.invokestatic 151, 3) := by decide +kernel
theorem d_Rf_told_15 : decode M_Rf_told.2.1 15 = .ok (.ifCond .eq 30, 3) := by decide +kernel
theorem d_Rf_told_18 : decode M_Rf_told.2.1 18 = .ok (.iload_n 2, 1) := by decide +kernel
theorem d_Rf_told_19 : decode M_Rf_told.2.1 19 = .ok (.bipush 10, 2) := by decide +kernel
theorem d_Rf_told_21 : decode M_Rf_told.2.1 21 = .ok (.idiv, 1) := by decide +kernel
theorem d_Rf_told_22 : decode M_Rf_told.2.1 22 = .ok (.iload_n 2, 1) := by decide +kernel
theorem d_Rf_told_23 : decode M_Rf_told.2.1 23 = .ok (.bipush 10, 2) := by decide +kernel
theorem d_Rf_told_25 : decode M_Rf_told.2.1 25 = .ok (.irem, 1) := by decide +kernel
theorem d_Rf_told_26 : decode M_Rf_told.2.1 26 = .ok (.if_icmp .gt 19, 3) := by decide +kernel
theorem d_Rf_told_29 : decode M_Rf_told.2.1 29 = .ok (.iload_n 3, 1) := by decide +kernel
theorem d_Rf_told_30 : decode M_Rf_told.2.1 30 = .ok (.iconst 0, 1) := by decide +kernel
theorem d_Rf_told_31 : decode M_Rf_told.2.1 31 = .ok (.aload_n 0, 1) := by decide +kernel
theorem d_Rf_told_32 : decode M_Rf_told.2.1 32 = .ok (.getfield 7, 3) := by decide +kernel
theorem d_Rf_told_35 : decode M_Rf_told.2.1 35 = .ok (.sipush 234, 3) := by decide +kernel
theorem d_Rf_told_38 : decode M_Rf_told.2.1 38 = .ok (.iaload, 1) := by decide +kernel
theorem d_Rf_told_39 : decode M_Rf_told.2.1 39 = .ok (.invokestatic 151, 3) := by decide +kernel
theorem d_Rf_told_42 : decode M_Rf_told.2.1 42 = .ok (.ifCond .ne 7, 3) := by decide +kernel
theorem d_Rf_told_45 : decode M_Rf_told.2.1 45 = .ok (.ldc2_w 275, 3) := by decide +kernel
theorem d_Rf_told_48 : decode M_Rf_told.2.1 48 = .ok (.lreturn, 1) := by decide +kernel
theorem d_Rf_told_49 : decode M_Rf_told.2.1 49 = .ok (.lconst 0, 1) := by decide +kernel
theorem d_Rf_told_50 : decode M_Rf_told.2.1 50 = .ok (.lstore 4, 2) := by decide +kernel
theorem d_Rf_told_52 : decode M_Rf_told.2.1 52 = .ok (.iconst 0, 1) := by decide +kernel
theorem d_Rf_told_53 : decode M_Rf_told.2.1 53 = .ok (.istore 6, 2) := by decide +kernel
theorem d_Rf_told_55 : decode M_Rf_told.2.1 55 = .ok (.iload 6, 2) := by decide +kernel
theorem d_Rf_told_57 : decode M_Rf_told.2.1 57 = .ok (.aload_n 0, 1) := by decide +kernel
theorem d_Rf_told_58 : decode M_Rf_told.2.1 58 = .ok (.getfield 264, 3) := by decide +kernel
theorem d_Rf_told_61 : decode M_Rf_told.2.1 61 = .ok (.if_icmp .ge 98, 3) := by decide +kernel
theorem d_Rf_told_64 : decode M_Rf_told.2.1 64 = .ok (.aload_n 0, 1) := by decide +kernel
theorem d_Rf_told_65 : decode M_Rf_told.2.1 65 = .ok (.getfield 59, 3) := by decide +kernel
theorem d_Rf_told_68 : decode M_Rf_told.2.1 68 = .ok (.iload 6, 2) := by decide +kernel
theorem d_Rf_told_70 : decode M_Rf_told.2.1 70 = .ok (.iaload, 1) := by decide +kernel
theorem d_Rf_told_71 : decode M_Rf_told.2.1 71 = .ok (.iload_n 1, 1) := by decide +kernel
theorem d_Rf_told_72 : decode M_Rf_told.2.1 72 = .ok (.if_icmp .ne 81, 3) := by decide +kernel
theorem d_Rf_told_75 : decode M_Rf_told.2.1 75 = .ok (.aload_n 0, 1) := by decide +kernel
theorem d_Rf_told_76 : decode M_Rf_told.2.1 76 = .ok (.getfield 62, 3) := by decide +kernel
theorem d_Rf_told_79 : decode M_Rf_told.2.1 79 = .ok (.iload 6, 2) := by decide +kernel
theorem d_Rf_told_81 : decode M_Rf_told.2.1 81 = .ok (.iaload, 1) := by decide +kernel
theorem d_Rf_told_82 : decode M_Rf_told.2.1 82 = .ok (.iload_n 2, 1) := by decide +kernel
theorem d_Rf_told_83 : decode M_Rf_told.2.1 83 = .ok (.bipush 10, 2) := by decide +kernel
theorem d_Rf_told_85 : decode M_Rf_told.2.1 85 = .ok (.idiv, 1) := by decide +kernel
theorem d_Rf_told_86 : decode M_Rf_told.2.1 86 = .ok (.iload_n 2, 1) := by decide +kernel
theorem d_Rf_told_87 : decode M_Rf_told.2.1 87 = .ok (.bipush 10, 2) := by decide +kernel
theorem d_Rf_told_89 : decode M_Rf_told.2.1 89 = .ok (.irem, 1) := by decide +kernel
theorem d_Rf_told_90 : decode M_Rf_told.2.1 90 = .ok (.invokestatic 151, 3) := by decide +kernel
theorem d_Rf_told_93 : decode M_Rf_told.2.1 93 = .ok (.ifCond .eq 60, 3) := by decide +kernel
theorem d_Rf_told_96 : decode M_Rf_told.2.1 96 = .ok (.aload_n 0, 1) := by decide +kernel
theorem d_Rf_told_97 : decode M_Rf_told.2.1 97 = .ok (.getfield 68, 3) := by decide +kernel
theorem d_Rf_told_100 : decode M_Rf_told.2.1 100 = .ok (.iload 6, 2) := by decide +kernel
theorem d_Rf_told_102 : decode M_Rf_told.2.1 102 = .ok (.iaload, 1) := by decide +kernel
theorem d_Rf_told_103 : decode M_Rf_told.2.1 103 = .ok (.iload_n 3, 1) := by decide +kernel
theorem d_Rf_told_104 : decode M_Rf_told.2.1 104 = .ok (.if_icmp .gt 49, 3) := by decide +kernel
theorem d_Rf_told_107 : decode M_Rf_told.2.1 107 = .ok (.lload 4, 2) := by decide +kernel
theorem d_Rf_told_109 : decode M_Rf_told.2.1 109 = .ok (.aload_n 0, 1) := by decide +kernel
theorem d_Rf_told_110 : decode M_Rf_told.2.1 110 = .ok (.getfield 74, 3) := by decide +kernel
theorem d_Rf_told_113 : decode M_Rf_told.2.1 113 = .ok (.iload 6, 2) := by decide +kernel
theorem d_Rf_told_115 : decode M_Rf_told.2.1 115 = .ok (.iaload, 1) := by decide +kernel
theorem d_Rf_told_116 : decode M_Rf_told.2.1 116 = .ok (.iconst (-1), 1) := by decide +kernel
theorem d_Rf_told_117 : decode M_Rf_told.2.1 117 = .ok (.if_icmp .eq 25, 3) := by decide +kernel
theorem d_Rf_told_120 : decode M_Rf_told.2.1 120 = .ok (.aload_n 0, 1) := by decide +kernel
theorem d_Rf_told_121 : decode M_Rf_told.2.1 121 = .ok (.getfield 74, 3) := by decide +kernel
theorem d_Rf_told_124 : decode M_Rf_told.2.1 124 = .ok (.iload 6, 2) := by decide +kernel
theorem d_Rf_told_126 : decode M_Rf_told.2.1 126 = .ok (.iaload, 1) := by decide +kernel
theorem d_Rf_told_127 : decode M_Rf_told.2.1 127 = .ok (.iload_n 3, 1) := by decide +kernel
theorem d_Rf_told_128 : decode M_Rf_told.2.1 128 = .ok (.if_icmp .gt 14, 3) := by decide +kernel
theorem d_Rf_told_131 : decode M_Rf_told.2.1 131 = .ok (.aload_n 0, 1) := by decide +kernel
theorem d_Rf_told_132 : decode M_Rf_told.2.1 132 = .ok (.getfield 71, 3) := by decide +kernel
theorem d_Rf_told_135 : decode M_Rf_told.2.1 135 = .ok (.iload 6, 2) := by decide +kernel
theorem d_Rf_told_137 : decode M_Rf_told.2.1 137 = .ok (.iaload, 1) := by decide +kernel
theorem d_Rf_told_138 : decode M_Rf_told.2.1 138 = .ok (.i2l, 1) := by decide +kernel
theorem d_Rf_told_139 : decode M_Rf_told.2.1 139 = .ok (.goto 11, 3) := by decide +kernel
theorem d_Rf_told_142 : decode M_Rf_told.2.1 142 = .ok (.aload_n 0, 1) := by decide +kernel
theorem d_Rf_told_143 : decode M_Rf_told.2.1 143 = .ok (.getfield 65, 3) := by decide +kernel
theorem d_Rf_told_146 : decode M_Rf_told.2.1 146 = .ok (.iload 6, 2) := by decide +kernel
theorem d_Rf_told_148 : decode M_Rf_told.2.1 148 = .ok (.iaload, 1) := by decide +kernel
theorem d_Rf_told_149 : decode M_Rf_told.2.1 149 = .ok (.i2l, 1) := by decide +kernel
theorem d_Rf_told_150 : decode M_Rf_told.2.1 150 = .ok (.ladd, 1) := by decide +kernel
theorem d_Rf_told_151 : decode M_Rf_told.2.1 151 = .ok (.lstore 4, 2) := by decide +kernel
theorem d_Rf_told_153 : decode M_Rf_told.2.1 153 = .ok (.iinc 6 1, 3) := by decide +kernel
theorem d_Rf_told_156 : decode M_Rf_told.2.1 156 = .ok (.goto (-101), 3) := by decide +kernel
theorem d_Rf_told_159 : decode M_Rf_told.2.1 159 = .ok (.lload 4, 2) := by decide +kernel
theorem d_Rf_told_161 : decode M_Rf_told.2.1 161 = .ok (.lreturn, 1) := by decide +kernel
set_option maxHeartbeats 4000000 in
set_option maxRecDepth 100000 in
theorem tl_Rf_told {D : xD} {N : Nat} {l : Launch} {d : Nat} {c z : T2} {P Q : Nat → Int32} {rest : List va_E} {K : Option Value → List va_E → Prop} {nk : Nat} (hnk : c 32 7 = nI nk) (h30 : nk ≤ 30) {b y : Nat} {kn : Int32} (hy : y ≤ 99) (hK : K (some (.long (tlN c (nI b) (nI (y / 10)) (nI (y % 10)) kn nk))) (encR D N c z P Q ++ rest)) : Wp D N l (EI M_Rf_told) M_Rf_told (Rm (d + 2) 0 0) (Qm D N K 0 0) 0 0 55 [(6, .int (nI 0)), (4, .long (tlN c (nI b) (nI (y / 10)) (nI (y % 10)) kn 0)), (0, .ref (N + 0)), (1, .int (nI b)), (2, .int (nI y)), (3, .int kn)] [] (encR D N c z P Q ++ rest) := by
  have lp : ∀ k : Nat, k ≤ nk → Wp D N l (EI M_Rf_told) M_Rf_told (Rm (d + 2) 0 0) (Qm D N K 0 0) 0 0 55 [(6, .int (nI k)), (4, .long (tlN c (nI b) (nI (y / 10)) (nI (y % 10)) kn k)), (0, .ref (N + 0)), (1, .int (nI b)), (2, .int (nI y)), (3, .int kn)] [] (encR D N c z P Q ++ rest) := by
    refine up_loop ?_ ?_
    · skip
      refine wp_iload (q := 57) d_Rf_told_55 rfl rfl ?_
      refine wp_aload_n (q := 58) d_Rf_told_57 rfl rfl ?_
      refine wp_get (q := 61) fl_Rf_264 d_Rf_told_58 rfl rfl rfl ?_
      rw [hnk]
      refine wp_icmp_ge_t (tgt := 159) d_Rf_told_61 (by decide) (nI_le (Nat.le_refl _) (by omega)) ?_
      refine wp_lload (q := 161) d_Rf_told_159 rfl rfl ?_
      refine wp_lret d_Rf_told_161 rfl (Nat.le_refl _) (Nat.le_refl _) ?_
      exact hK
    · intro k hk ih
      refine wp_iload (q := 57) d_Rf_told_55 rfl rfl ?_
      refine wp_aload_n (q := 58) d_Rf_told_57 rfl rfl ?_
      refine wp_get (q := 61) fl_Rf_264 d_Rf_told_58 rfl rfl rfl ?_
      rw [hnk]
      refine wp_icmp_ge_f (q := 64) (tgt := 159) d_Rf_told_61 (by decide) rfl (nI_ge hk (by omega)) ?_
      refine wp_aload_n (q := 65) d_Rf_told_64 rfl rfl ?_
      refine wp_get (q := 68) fl_Rf_59 d_Rf_told_65 rfl rfl rfl ?_
      refine wp_iload (q := 70) d_Rf_told_68 rfl rfl ?_
      refine wp_iald (q := 71) d_Rf_told_70 rfl (rfl) (by omega) (by decide) ?_
      refine wp_iload_n (q := 72) d_Rf_told_71 rfl rfl ?_
      refine wp_icmp_ne (q := 75) (tgt := 153) d_Rf_told_72 (by decide) rfl (fun hc_72 => ?_) (fun hc_72 => ?_)
      · refine wp_iinc (q := 156) (L2 := [(6, _), (4, _), (0, _), (1, _), (2, _), (3, _)]) d_Rf_told_153 rfl rfl (iinc_1) (by decide) rfl ?_
        refine wp_goto (tgt := 55) d_Rf_told_156 (by decide) ?_
        rw [tl_n (fun h => hc_72 h.1)] at ih; exact ih
      · refine wp_aload_n (q := 76) d_Rf_told_75 rfl rfl ?_
        refine wp_get (q := 79) fl_Rf_62 d_Rf_told_76 rfl rfl rfl ?_
        refine wp_iload (q := 81) d_Rf_told_79 rfl rfl ?_
        refine wp_iald (q := 82) d_Rf_told_81 rfl (rfl) (by omega) (by decide) ?_
        refine wp_iload_n (q := 83) d_Rf_told_82 rfl rfl ?_
        refine wp_bipush (q := 85) d_Rf_told_83 rfl bp_10 ?_
        refine wp_idivN (q := 86) d_Rf_told_85 rfl (by omega) (by decide) (by decide) ?_
        refine wp_iload_n (q := 87) d_Rf_told_86 rfl rfl ?_
        refine wp_bipush (q := 89) d_Rf_told_87 rfl bp_10 ?_
        refine wp_iremN (q := 90) d_Rf_told_89 rfl (by omega) (by decide) (by decide) ?_
        refine wp_cs3 (q := 93) lk_Rf_151 (ro _ _ _) d_Rf_told_90 rfl (Nat.le_of_ble_eq_true rfl) (Nat.zero_le _) (Nat.zero_le _) ?_
        refine ok_Rf_in (fun hia hib => ?_) (fun hi1 => ?_)
        · refine wp_if_eq_f (q := 96) (tgt := 153) d_Rf_told_93 (by decide) rfl (by decide) ?_
          refine wp_aload_n (q := 97) d_Rf_told_96 rfl rfl ?_
          refine wp_get (q := 100) fl_Rf_68 d_Rf_told_97 rfl rfl rfl ?_
          refine wp_iload (q := 102) d_Rf_told_100 rfl rfl ?_
          refine wp_iald (q := 103) d_Rf_told_102 rfl (rfl) (by omega) (by decide) ?_
          refine wp_iload_n (q := 104) d_Rf_told_103 rfl rfl ?_
          refine wp_icmp_gt (q := 107) (tgt := 153) d_Rf_told_104 (by decide) rfl (fun hc_104 => ?_) (fun hc_104 => ?_)
          · refine wp_iinc (q := 156) (L2 := [(6, _), (4, _), (0, _), (1, _), (2, _), (3, _)]) d_Rf_told_153 rfl rfl (iinc_1) (by decide) rfl ?_
            refine wp_goto (tgt := 55) d_Rf_told_156 (by decide) ?_
            rw [tl_n (fun h => lt_le hc_104 h.2.2)] at ih; exact ih
          · refine wp_lload (q := 109) d_Rf_told_107 rfl rfl ?_
            refine wp_aload_n (q := 110) d_Rf_told_109 rfl rfl ?_
            refine wp_get (q := 113) fl_Rf_74 d_Rf_told_110 rfl rfl rfl ?_
            refine wp_iload (q := 115) d_Rf_told_113 rfl rfl ?_
            refine wp_iald (q := 116) d_Rf_told_115 rfl (rfl) (by omega) (by decide) ?_
            refine wp_iconst (q := 117) d_Rf_told_116 rfl ic_m1 ?_
            refine wp_icmp_eq (q := 120) (tgt := 142) d_Rf_told_117 (by decide) rfl (fun hc_117 => ?_) (fun hc_117 => ?_)
            · refine wp_aload_n (q := 143) d_Rf_told_142 rfl rfl ?_
              refine wp_get (q := 146) fl_Rf_65 d_Rf_told_143 rfl rfl rfl ?_
              refine wp_iload (q := 148) d_Rf_told_146 rfl rfl ?_
              refine wp_iald (q := 149) d_Rf_told_148 rfl (rfl) (by omega) (by decide) ?_
              refine wp_i2l (q := 150) d_Rf_told_149 rfl ?_
              refine wp_ladd (q := 151) d_Rf_told_150 rfl ?_
              refine wp_lstore (q := 153) (L2 := [(4, _), (6, _), (0, _), (1, _), (2, _), (3, _)]) d_Rf_told_151 rfl (by decide) rfl ?_
              refine wp_iinc (q := 156) (L2 := [(6, _), (4, _), (0, _), (1, _), (2, _), (3, _)]) d_Rf_told_153 rfl rfl (iinc_1) (by decide) rfl ?_
              refine wp_goto (tgt := 55) d_Rf_told_156 (by decide) ?_
              rw [tl_y hc_72 hia hib (nlt_le hc_104), show tlV c kn k = c 17 k from if_neg (fun h => h.1 hc_117)] at ih; exact ih
            · refine wp_aload_n (q := 121) d_Rf_told_120 rfl rfl ?_
              refine wp_get (q := 124) fl_Rf_74 d_Rf_told_121 rfl rfl rfl ?_
              refine wp_iload (q := 126) d_Rf_told_124 rfl rfl ?_
              refine wp_iald (q := 127) d_Rf_told_126 rfl (rfl) (by omega) (by decide) ?_
              refine wp_iload_n (q := 128) d_Rf_told_127 rfl rfl ?_
              refine wp_icmp_gt (q := 131) (tgt := 142) d_Rf_told_128 (by decide) rfl (fun hc_128 => ?_) (fun hc_128 => ?_)
              · refine wp_aload_n (q := 143) d_Rf_told_142 rfl rfl ?_
                refine wp_get (q := 146) fl_Rf_65 d_Rf_told_143 rfl rfl rfl ?_
                refine wp_iload (q := 148) d_Rf_told_146 rfl rfl ?_
                refine wp_iald (q := 149) d_Rf_told_148 rfl (rfl) (by omega) (by decide) ?_
                refine wp_i2l (q := 150) d_Rf_told_149 rfl ?_
                refine wp_ladd (q := 151) d_Rf_told_150 rfl ?_
                refine wp_lstore (q := 153) (L2 := [(4, _), (6, _), (0, _), (1, _), (2, _), (3, _)]) d_Rf_told_151 rfl (by decide) rfl ?_
                refine wp_iinc (q := 156) (L2 := [(6, _), (4, _), (0, _), (1, _), (2, _), (3, _)]) d_Rf_told_153 rfl rfl (iinc_1) (by decide) rfl ?_
                refine wp_goto (tgt := 55) d_Rf_told_156 (by decide) ?_
                rw [tl_y hc_72 hia hib (nlt_le hc_104), show tlV c kn k = c 17 k from if_neg (fun h => lt_le hc_128 h.2)] at ih; exact ih
              · refine wp_aload_n (q := 132) d_Rf_told_131 rfl rfl ?_
                refine wp_get (q := 135) fl_Rf_71 d_Rf_told_132 rfl rfl rfl ?_
                refine wp_iload (q := 137) d_Rf_told_135 rfl rfl ?_
                refine wp_iald (q := 138) d_Rf_told_137 rfl (rfl) (by omega) (by decide) ?_
                refine wp_i2l (q := 139) d_Rf_told_138 rfl ?_
                refine wp_goto (tgt := 150) d_Rf_told_139 (by decide) ?_
                refine wp_ladd (q := 151) d_Rf_told_150 rfl ?_
                refine wp_lstore (q := 153) (L2 := [(4, _), (6, _), (0, _), (1, _), (2, _), (3, _)]) d_Rf_told_151 rfl (by decide) rfl ?_
                refine wp_iinc (q := 156) (L2 := [(6, _), (4, _), (0, _), (1, _), (2, _), (3, _)]) d_Rf_told_153 rfl rfl (iinc_1) (by decide) rfl ?_
                refine wp_goto (tgt := 55) d_Rf_told_156 (by decide) ?_
                rw [tl_y hc_72 hia hib (nlt_le hc_104), show tlV c kn k = c 19 k from if_pos ⟨hc_117, nlt_le hc_128⟩] at ih; exact ih
        · refine wp_if_eq_t (tgt := 153) d_Rf_told_93 (by decide) (by decide) ?_
          refine wp_iinc (q := 156) (L2 := [(6, _), (4, _), (0, _), (1, _), (2, _), (3, _)]) d_Rf_told_153 rfl rfl (iinc_1) (by decide) rfl ?_
          refine wp_goto (tgt := 55) d_Rf_told_156 (by decide) ?_
          rw [tl_n (fun h => hi1 h.2.1)] at ih; exact ih
  exact lp 0 (Nat.zero_le _)
set_option maxHeartbeats 4000000 in
set_option maxRecDepth 100000 in
theorem ok_Rf_told {D : xD} {N : Nat} {l : Launch} {d : Nat} {c z : T2} {P Q : Nat → Int32} {rest : List va_E} {K : Option Value → List va_E → Prop} {b y kn : Int32} {nb : Nat} (hnb : c 32 1 = nI nb) (h12 : nb ≤ 12) {nk : Nat} (hnk : c 32 7 = nI nk) (h30 : nk ≤ 30) (hK : K (some (.long (sp_told c P nk b y kn))) (encR D N c z P Q ++ rest)) : Ok D N l (d + 2) M_Rf_told [.ref (N + 0), .int b, .int y, .int kn] (encR D N c z P Q ++ rest) 0 0 K := by
  refine ok_of (L := [(0, _), (1, _), (2, _), (3, _)]) (by decide) (Nat.le_of_ble_eq_true rfl) rfl ?_
  refine wp_aload_n (q := 1) d_Rf_told_0 rfl rfl ?_
  refine wp_iload_n (q := 2) d_Rf_told_1 rfl rfl ?_
  refine wp_cv1 (q := 5) lk_Rf_167 (ro _ _ _) d_Rf_told_2 rfl (Nat.le_of_ble_eq_true rfl) (rfl) rfl (Nat.zero_le _) (Nat.zero_le _) ?_
  refine ok_Rf_isBus hnb h12 (fun b1 hb1 e => ?_) (fun hb1 => ?_)
  · subst e
    refine wp_if_eq_f (q := 8) (tgt := 45) d_Rf_told_5 (by decide) rfl (by decide) ?_
    refine wp_iload_n (q := 9) d_Rf_told_8 rfl rfl ?_
    refine wp_iconst (q := 10) d_Rf_told_9 rfl ic_0 ?_
    refine wp_bipush (q := 12) d_Rf_told_10 rfl bp_99 ?_
    refine wp_cs3 (q := 15) lk_Rf_151 (ro _ _ _) d_Rf_told_12 rfl (Nat.le_of_ble_eq_true rfl) (Nat.zero_le _) (Nat.zero_le _) ?_
    refine ok_Rf_in0 (b := 99) (by decide) (fun y1 hy1 e => ?_) (fun hy1 => ?_)
    · subst e
      refine wp_if_eq_f (q := 18) (tgt := 45) d_Rf_told_15 (by decide) rfl (by decide) ?_
      refine wp_iload_n (q := 19) d_Rf_told_18 rfl rfl ?_
      refine wp_bipush (q := 21) d_Rf_told_19 rfl bp_10 ?_
      refine wp_idivN (q := 22) d_Rf_told_21 rfl (by omega) (by decide) (by decide) ?_
      refine wp_iload_n (q := 23) d_Rf_told_22 rfl rfl ?_
      refine wp_bipush (q := 25) d_Rf_told_23 rfl bp_10 ?_
      refine wp_iremN (q := 26) d_Rf_told_25 rfl (by omega) (by decide) (by decide) ?_
      refine wp_icmp_gt (q := 29) (tgt := 45) d_Rf_told_26 (by decide) rfl (fun hc_26 => ?_) (fun hc_26 => ?_)
      · have hq : y1 % 10 < y1 / 10 := (nI_ltI (by omega) (by omega)).mp hc_26
        refine wp_ldc2 (q := 48) d_Rf_told_45 rfl kl_Rf_275 ?_
        refine wp_lret d_Rf_told_48 rfl (Nat.le_refl _) (Nat.le_refl _) ?_
        simp only [sp_told, inn, inb, inm, btw, inb_t hnb h12 hb1, tnt (Nat.lt_of_lt_of_le hb1 h12), inn_t hy1, tnl hy1, hq, not_true_eq_false, not_false_eq_true, or_false, false_or, or_true, true_or, and_true, true_and, and_false, false_and, or_self, and_self, if_true, if_false, ite_true, ite_false, eq_self] at hK
        first | exact hK | (simp (disch := omega) only [tput_eq, tput2, tput_ne, upd_eq, upd_ne, ne_eq, va_upeq, va_upne, va_up2, not_true_eq_false, not_false_eq_true, or_false, false_or, or_true, true_or, and_true, true_and, and_false, false_and, or_self, and_self, if_true, if_false, ite_true, ite_false, eq_self] at hK ⊢; exact hK) | (simp (disch := omega) only [tput_eq, tput2, tput_ne, upd_eq, upd_ne, ne_eq, va_upeq, va_upne, va_up2, not_true_eq_false, not_false_eq_true, or_false, false_or, or_true, true_or, and_true, true_and, and_false, false_and, or_self, and_self, if_true, if_false, ite_true, ite_false, eq_self]; exact hK) | (simp (disch := omega) only [tput_eq, tput2, tput_ne, upd_eq, upd_ne, ne_eq, va_upeq, va_upne, va_up2, not_true_eq_false, not_false_eq_true, or_false, false_or, or_true, true_or, and_true, true_and, and_false, false_and, or_self, and_self, if_true, if_false, ite_true, ite_false, eq_self] at hK; exact hK)
      · have hq : ¬ y1 % 10 < y1 / 10 := fun h => hc_26 (nI_lt h (by omega))
        refine wp_iload_n (q := 30) d_Rf_told_29 rfl rfl ?_
        refine wp_iconst (q := 31) d_Rf_told_30 rfl ic_0 ?_
        refine wp_aload_n (q := 32) d_Rf_told_31 rfl rfl ?_
        refine wp_get (q := 35) fl_Rf_7 d_Rf_told_32 rfl rfl rfl ?_
        refine wp_sipush (q := 38) d_Rf_told_35 rfl sp_234 ?_
        refine wp_iald (q := 39) d_Rf_told_38 rfl (rfl) (by omega) (by decide) ?_
        refine wp_cs3 (q := 42) lk_Rf_151 (ro _ _ _) d_Rf_told_39 rfl (Nat.le_of_ble_eq_true rfl) (Nat.zero_le _) (Nat.zero_le _) ?_
        refine ok_Rf_in (fun hn1a hn1b => ?_) (fun hn1 => ?_)
        · refine wp_if_ne_t (tgt := 49) d_Rf_told_42 (by decide) (by decide) ?_
          refine wp_lconst (q := 50) d_Rf_told_49 rfl rfl ?_
          refine wp_lstore (q := 52) (L2 := [(4, _), (0, _), (1, _), (2, _), (3, _)]) d_Rf_told_50 rfl (by decide) rfl ?_
          refine wp_iconst (q := 53) d_Rf_told_52 rfl ic_0 ?_
          refine wp_istore (q := 55) (L2 := [(6, _), (4, _), (0, _), (1, _), (2, _), (3, _)]) d_Rf_told_53 rfl (by decide) rfl ?_
          refine tl_Rf_told hnk h30 hy1 ?_
          simp only [sp_told, inn, inb, inm, btw, inb_t hnb h12 hb1, tnt (Nat.lt_of_lt_of_le hb1 h12), inn_t hy1, tnl hy1, hq, hn1a, hn1b, not_true_eq_false, not_false_eq_true, or_false, false_or, or_true, true_or, and_true, true_and, and_false, false_and, or_self, and_self, if_true, if_false, ite_true, ite_false, eq_self] at hK
          exact hK
        · refine wp_if_ne_f (q := 45) (tgt := 49) d_Rf_told_42 (by decide) rfl (by decide) ?_
          refine wp_ldc2 (q := 48) d_Rf_told_45 rfl kl_Rf_275 ?_
          refine wp_lret d_Rf_told_48 rfl (Nat.le_refl _) (Nat.le_refl _) ?_
          simp only [sp_told, inn, inb, inm, btw, inb_t hnb h12 hb1, tnt (Nat.lt_of_lt_of_le hb1 h12), inn_t hy1, tnl hy1, hq, hn1, not_true_eq_false, not_false_eq_true, or_false, false_or, or_true, true_or, and_true, true_and, and_false, false_and, or_self, and_self, if_true, if_false, ite_true, ite_false, eq_self] at hK
          first | exact hK | (simp (disch := omega) only [tput_eq, tput2, tput_ne, upd_eq, upd_ne, ne_eq, va_upeq, va_upne, va_up2, not_true_eq_false, not_false_eq_true, or_false, false_or, or_true, true_or, and_true, true_and, and_false, false_and, or_self, and_self, if_true, if_false, ite_true, ite_false, eq_self] at hK ⊢; exact hK) | (simp (disch := omega) only [tput_eq, tput2, tput_ne, upd_eq, upd_ne, ne_eq, va_upeq, va_upne, va_up2, not_true_eq_false, not_false_eq_true, or_false, false_or, or_true, true_or, and_true, true_and, and_false, false_and, or_self, and_self, if_true, if_false, ite_true, ite_false, eq_self]; exact hK) | (simp (disch := omega) only [tput_eq, tput2, tput_ne, upd_eq, upd_ne, ne_eq, va_upeq, va_upne, va_up2, not_true_eq_false, not_false_eq_true, or_false, false_or, or_true, true_or, and_true, true_and, and_false, false_and, or_self, and_self, if_true, if_false, ite_true, ite_false, eq_self] at hK; exact hK)
    · refine wp_if_eq_t (tgt := 45) d_Rf_told_15 (by decide) (by decide) ?_
      refine wp_ldc2 (q := 48) d_Rf_told_45 rfl kl_Rf_275 ?_
      refine wp_lret d_Rf_told_48 rfl (Nat.le_refl _) (Nat.le_refl _) ?_
      simp only [sp_told, inn, inb, inm, btw, inb_t hnb h12 hb1, tnt (Nat.lt_of_lt_of_le hb1 h12), hy1, not_true_eq_false, not_false_eq_true, or_false, false_or, or_true, true_or, and_true, true_and, and_false, false_and, or_self, and_self, if_true, if_false, ite_true, ite_false, eq_self] at hK
      first | exact hK | (simp (disch := omega) only [tput_eq, tput2, tput_ne, upd_eq, upd_ne, ne_eq, va_upeq, va_upne, va_up2, not_true_eq_false, not_false_eq_true, or_false, false_or, or_true, true_or, and_true, true_and, and_false, false_and, or_self, and_self, if_true, if_false, ite_true, ite_false, eq_self] at hK ⊢; exact hK) | (simp (disch := omega) only [tput_eq, tput2, tput_ne, upd_eq, upd_ne, ne_eq, va_upeq, va_upne, va_up2, not_true_eq_false, not_false_eq_true, or_false, false_or, or_true, true_or, and_true, true_and, and_false, false_and, or_self, and_self, if_true, if_false, ite_true, ite_false, eq_self]; exact hK) | (simp (disch := omega) only [tput_eq, tput2, tput_ne, upd_eq, upd_ne, ne_eq, va_upeq, va_upne, va_up2, not_true_eq_false, not_false_eq_true, or_false, false_or, or_true, true_or, and_true, true_and, and_false, false_and, or_self, and_self, if_true, if_false, ite_true, ite_false, eq_self] at hK; exact hK)
  · refine wp_if_eq_t (tgt := 45) d_Rf_told_5 (by decide) (by decide) ?_
    refine wp_ldc2 (q := 48) d_Rf_told_45 rfl kl_Rf_275 ?_
    refine wp_lret d_Rf_told_48 rfl (Nat.le_refl _) (Nat.le_refl _) ?_
    simp only [sp_told, inn, inb, inm, btw, hb1, not_true_eq_false, not_false_eq_true, or_false, false_or, or_true, true_or, and_true, true_and, and_false, false_and, or_self, and_self, if_true, if_false, ite_true, ite_false, eq_self] at hK
    first | exact hK | (simp (disch := omega) only [tput_eq, tput2, tput_ne, upd_eq, upd_ne, ne_eq, va_upeq, va_upne, va_up2, not_true_eq_false, not_false_eq_true, or_false, false_or, or_true, true_or, and_true, true_and, and_false, false_and, or_self, and_self, if_true, if_false, ite_true, ite_false, eq_self] at hK ⊢; exact hK) | (simp (disch := omega) only [tput_eq, tput2, tput_ne, upd_eq, upd_ne, ne_eq, va_upeq, va_upne, va_up2, not_true_eq_false, not_false_eq_true, or_false, false_or, or_true, true_or, and_true, true_and, and_false, false_and, or_self, and_self, if_true, if_false, ite_true, ite_false, eq_self]; exact hK) | (simp (disch := omega) only [tput_eq, tput2, tput_ne, upd_eq, upd_ne, ne_eq, va_upeq, va_upne, va_up2, not_true_eq_false, not_false_eq_true, or_false, false_or, or_true, true_or, and_true, true_and, and_false, false_and, or_self, and_self, if_true, if_false, ite_true, ite_false, eq_self] at hK; exact hK)
