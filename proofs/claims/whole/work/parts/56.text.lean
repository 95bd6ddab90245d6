def M_JP_checkIndex : MD := (⟨"jdk/internal/util/Preconditions", "checkIndex", "(IILjava/util/function/BiFunction;)I"⟩, prog_21_method_11_code, 3, (some .int))
theorem cw_JP_checkIndex : CW M_JP_checkIndex 3 := ⟨gc2 230 rfl rfl, gw 15 (by decide +kernel) (by decide +kernel), ⟨by decide +kernel, by decide +kernel, by decide +kernel⟩, by decide⟩
theorem lk_JS_1059 : LkS "java/lang/String" 1059 M_JP_checkIndex 3 := ⟨cw_JP_checkIndex, gw 468 (by decide +kernel) (by decide +kernel), gw 469 (by decide +kernel) (by decide +kernel)⟩
theorem sf_val : Cond.fieldLink "java/lang/String" 9 "java/lang/String" "value" "[B" ∈ lw_good := gw 1434 (by decide +kernel) (by decide +kernel)
theorem sf_cod : Cond.fieldLink "java/lang/String" 15 "java/lang/String" "coder" "B" ∈ lw_good := gw 1435 (by decide +kernel) (by decide +kernel)
theorem sf_cmp : Cond.fieldLink "java/lang/String" 38 "java/lang/String" "COMPACT_STRINGS" "Z" ∈ lw_good := gw 450 (by decide +kernel) (by decide +kernel)
theorem sf_fmt : Cond.fieldLink "java/lang/String" 1053 "jdk/internal/util/Preconditions" "SIOOBE_FORMATTER" "Ljava/util/function/BiFunction;" ∈ lw_good := gw 466 (by decide +kernel) (by decide +kernel)
section WS
variable {D : xD} {N : Nat} {l : Launch} {E : EX} {M : MD} {R : Room} {Qf : QF} {k n pc : Nat} {L : List (Nat × Value)} {st : List Value} {g : List va_E}
theorem wp_txt0 {q : Nat} (hM : M.1.cls = "FillAndGo$Tape") (hd : decode M.2.1 pc = .ok (.ldc 39, 2)) (hq : pc + 2 = q) (h : Wp D N l E M R Qf k n q L (.ref (D.2.2.2.1 0) :: st) g) : Wp D N l E M R Qf k n pc L st g := by
  subst hq
  intro p e s m args below meth c C H locs ls hH hS hl
  exact va_ldcS C.1 C.2.1 (own := "FillAndGo$Tape") (by rw [← hM]; exact C.2.2.2.1) C.2.2.2.2.2.1.2.2.2.2.2.1 hd (h p e s m args below meth c C H locs ls hH hS hl)
theorem wp_txt1 {q : Nat} (hM : M.1.cls = "FillAndGo$Tape") (hd : decode M.2.1 pc = .ok (.ldc 56, 2)) (hq : pc + 2 = q) (h : Wp D N l E M R Qf k n q L (.ref (D.2.2.2.1 1) :: st) g) : Wp D N l E M R Qf k n pc L st g := by
  subst hq
  intro p e s m args below meth c C H locs ls hH hS hl
  exact va_ldcS C.1 C.2.1 (own := "FillAndGo$Tape") (by rw [← hM]; exact C.2.2.2.1) C.2.2.2.2.2.1.2.2.2.2.2.2.1 hd (h p e s m args below meth c C H locs ls hH hS hl)
theorem wp_sval {q idx i : Nat} (hi : i < 2) (hw : Cond.fieldLink M.1.cls idx "java/lang/String" "value" "[B" ∈ lw_good) (hd : decode M.2.1 pc = .ok (.getfield idx, 3)) (hq : pc + 3 = q) (h : Wp D N l E M R Qf k n q L (.ref (D.2.2.2.2 i) :: st) g) : Wp D N l E M R Qf k n pc L (.ref (D.2.2.2.1 i) :: st) g := by
  subst hq
  intro p e s m args below meth c C H locs ls hH hS hl
  exact vk_getf C.1 C.2.1 (C.2.2.2.2.2.1.2.2.2.2.1.1 i hi).2.2.1 hS C.2.2.2.1 (C.2.2.2.2.1 _ hw) (fun _ h => h) hd (h p e s m args below meth c C H locs ls hH hS hl)
theorem wp_scod {q idx i : Nat} (hi : i < 2) (hw : Cond.fieldLink M.1.cls idx "java/lang/String" "coder" "B" ∈ lw_good) (hd : decode M.2.1 pc = .ok (.getfield idx, 3)) (hq : pc + 3 = q) (h : Wp D N l E M R Qf k n q L (.int 0 :: st) g) : Wp D N l E M R Qf k n pc L (.ref (D.2.2.2.1 i) :: st) g := by
  subst hq
  intro p e s m args below meth c C H locs ls hH hS hl
  exact vk_getf C.1 C.2.1 (C.2.2.2.2.2.1.2.2.2.2.1.1 i hi).2.1 hS C.2.2.2.1 (C.2.2.2.2.1 _ hw) (fun _ h => h) hd (h p e s m args below meth c C H locs ls hH hS hl)
theorem wp_scmp {q idx : Nat} (hw : Cond.fieldLink M.1.cls idx "java/lang/String" "COMPACT_STRINGS" "Z" ∈ lw_good) (hd : decode M.2.1 pc = .ok (.getstatic idx, 3)) (hq : pc + 3 = q) (h : Wp D N l E M R Qf k n q L (.int 1 :: st) g) : Wp D N l E M R Qf k n pc L st g := by
  subst hq
  intro p e s m args below meth c C H locs ls hH hS hl
  exact va_gets C.1 C.2.1 C.2.2.2.2.2.1.2.2.2.2.2.2.2.1 hS C.2.2.2.1 (C.2.2.2.2.1 _ hw) (fun _ h => h) hd (h p e s m args below meth c C H locs ls hH hS hl)
theorem wp_sfmt {q idx : Nat} (hw : Cond.fieldLink M.1.cls idx "jdk/internal/util/Preconditions" "SIOOBE_FORMATTER" "Ljava/util/function/BiFunction;" ∈ lw_good) (hd : decode M.2.1 pc = .ok (.getstatic idx, 3)) (hq : pc + 3 = q) (h0 : Wp D N l E M R Qf k n q L (.null :: st) g) (h1 : ∀ t, Wp D N l E M R Qf k n q L (.ref t :: st) g) : Wp D N l E M R Qf k n pc L st g := by
  subst hq
  intro p e s m args below meth c C H locs ls hH hS hl
  rcases C.2.2.2.2.2.1.2.2.2.2.2.2.2.2 with hz | ⟨t, hz⟩
  · exact va_gets C.1 C.2.1 hz hS C.2.2.2.1 (C.2.2.2.2.1 _ hw) (fun _ h => h) hd (h0 p e s m args below meth c C H locs ls hH hS hl)
  · exact va_gets C.1 C.2.1 hz hS C.2.2.2.1 (C.2.2.2.2.1 _ hw) (fun _ h => h) hd (h1 t p e s m args below meth c C H locs ls hH hS hl)
theorem wp_slen {q i : Nat} (hi : i < 2) (hd : decode M.2.1 pc = .ok (.arraylength, 1)) (hq : pc + 1 = q) (h : Wp D N l E M R Qf k n q L (.int (nI (txtLen.getD i 0)) :: st) g) : Wp D N l E M R Qf k n pc L (.ref (D.2.2.2.2 i) :: st) g := by
  subst hq
  intro p e s m args below meth c C H locs ls hH hS hl
  exact va_tlen C.1 C.2.1 (C.2.2.2.2.2.1.2.2.2.2.1.1 i hi).2.2.2 hS rfl hd (h p e s m args below meth c C H locs ls hH hS hl)
theorem wp_sbal {q i j : Nat} (hi : i < 2) (hj : j < txtLen.getD i 0) (hj2 : txtLen.getD i 0 < 2147483648) (hd : decode M.2.1 pc = .ok (.baload, 1)) (hq : pc + 1 = q) (h : Wp D N l E M R Qf k n q L (.int ((txtB.getD i []).getD j 0) :: st) g) : Wp D N l E M R Qf k n pc L (.int (nI j) :: .ref (D.2.2.2.2 i) :: st) g := by
  subst hq
  intro p e s m args below meth c C H locs ls hH hS hl
  exact va_tb C.1 C.2.1 (C.2.2.2.2.2.1.2.2.2.2.1.1 i hi).2.2.2 hS (nI_vp hj hj2) (by rw [nI_cl hj hj2]) hd (h p e s m args below meth c C H locs ls hH hS hl)
theorem ok_preVS {as : List Value} {p : Program} {s : State} {m : MethodId} {args : Array Value} {meth : Method} {c : Code} (C : Cx D N E M p s m args meth c) {H : Heap} {locs : List Loc} (hH : hs D.1 N g H) (hS : va_S (fr N) s.heap H locs) {i : Nat} (hi : i < 2) : PreV s H "java/lang/String" (D.2.2.2.1 i) (va_Pc (.ref (D.2.2.2.1 i) :: as) (fun U => hs D.1 N g U.heap ∧ xK D N U ∧ N ≤ U.heap.size)) as :=
  ⟨ok_blind, vk_recv C.2.2.2.2.2.1.2.2.2.2.1 hi hS, fun U hU hW => ⟨rfl, by rw [hU]; exact hH, C.2.2.2.2.2.1.move hS hU hW, by rw [hU, hH.1]; exact Nat.le_add_right _ _⟩⟩
theorem wp_callVS {q d np idx i : Nat} {M2 : MD} (as : List Value) {st0 : List Value} (hL : LV M.1.cls idx M2 np) (hcl : M2.1.cls = "java/lang/String") (hi : i < 2) (hR : RO R d) (hd : decode M.2.1 pc = .ok (.invokevirtual idx, 3)) (hq : pc + 3 = q) (hn : as.length = np) (hst : st0 = as.reverse ++ .ref (D.2.2.2.1 i) :: st) (hcat : (st.map fun v => v.category).sum ≤ 8) (hc : k ≤ R.cells) (hs : n ≤ R.slots) (hok : Ok D N l d M2 (.ref (D.2.2.2.1 i) :: as) g 0 0 (fun v g2 => Wp D N l E M R Qf k n q L (pv v st) g2)) : Wp D N l E M R Qf k n pc L st0 g := by
  intro p e s m args below meth c C H locs ls hH hS hl
  obtain ⟨⟨c1, c2, c3, c4⟩, l1, l2, l3⟩ := hL
  have hts := C.2.2.2.2.1
  subst hst
  exact wp_run (mc := 0) (ms := 0) C hq (va_runV (As := as) (rest := st) ⟨C.1, C.2.1, C.2.2.1, C.2.2.2.1, hts⟩ hok ⟨callB_of np hts (good_ws c1) rfl rfl rfl (hts _ c2) (hts _ l1) c3 (ro_call hR c4 0 0), hts _ l2, hts _ l3⟩ (by rw [hcl]; exact ok_preVS C hH hS hi) rfl hn hl.1 rfl (lv_room hcat) hd ⟨hc, hs⟩) hS hl
end WS
def chT (i j : Nat) : Int32 := (txtB.getD i []).getD j 0
theorem tl_lt : ∀ i, i < 2 → txtLen.getD i 0 < 48 := by decide
theorem ch_c2 : ∀ i, i < 2 → ∀ j, j < 47 → ((chT i j &&& nI 255).toUInt32 % 65536).toInt32 = chT i j := by decide +kernel
theorem ch_na : ∀ i, i < 2 → ∀ j, j < 47 → narrow .char (.int (chT i j)) = .int (chT i j) := by
  intro i hi j hj
  have h : ∀ i, i < 2 → ∀ j, j < 47 → ((chT i j).toUInt32 % 65536).toInt32 = chT i j := by decide +kernel
  have e := h i hi j hj
  simp only [narrow]
  first | exact congrArg Value.int e | (rw [Value.int.injEq]; exact e) | exact e
theorem d_JP_checkIndex_0 : decode M_JP_checkIndex.2.1 0 = .ok (.iload_n 0, 1) := by decide +kernel
theorem d_JP_checkIndex_1 : decode M_JP_checkIndex.2.1 1 = .ok (.ifCond .lt 8, 3) := by decide +kernel
theorem d_JP_checkIndex_4 : decode M_JP_checkIndex.2.1 4 = .ok (.iload_n 0, 1) := by decide +kernel
theorem d_JP_checkIndex_5 : decode M_JP_checkIndex.2.1 5 = .ok (.iload_n 1, 1) := by decide +kernel
theorem d_JP_checkIndex_6 : decode M_JP_checkIndex.2.1 6 = .ok (.if_icmp .lt 10, 3) := by decide +kernel
theorem d_JP_checkIndex_9 : decode M_JP_checkIndex.2.1 9 = .ok (.aload_n 2, 1) := by decide +kernel
theorem d_JP_checkIndex_10 : decode M_JP_checkIndex.2.1 10 = .ok (.iload_n 0, 1) := by decide +kernel
theorem d_JP_checkIndex_11 : decode M_JP_checkIndex.2.1 11 = .ok (.iload_n 1, 1) := by decide +kernel
theorem d_JP_checkIndex_12 : decode M_JP_checkIndex.2.1 12 = .ok (.invokestatic 95, 3) := by decide +kernel
theorem d_JP_checkIndex_15 : decode M_JP_checkIndex.2.1 15 = .ok (.athrow, 1) := by decide +kernel
theorem d_JP_checkIndex_16 : decode M_JP_checkIndex.2.1 16 = .ok (.iload_n 0, 1) := by decide +kernel
theorem d_JP_checkIndex_17 : decode M_JP_checkIndex.2.1 17 = .ok (.ireturn, 1) := by decide +kernel
set_option maxHeartbeats 4000000 in
set_option maxRecDepth 100000 in
theorem ok_JP_checkIndex_n {D : xD} {N : Nat} {l : Launch} {d : Nat} {g : List va_E} {K : Option Value → List va_E → Prop} {j n : Nat}  (hj : j < n) (hn : n < 1000) (hK : K (some (.int (nI j))) g) : Ok D N l d M_JP_checkIndex [.int (nI j), .int (nI n), .null] g 0 0 K := by
  refine ok_of (L := [(0, _), (1, _), (2, _)]) (by decide) (Nat.le_of_ble_eq_true rfl) rfl ?_
  refine wp_iload_n (q := 1) d_JP_checkIndex_0 rfl rfl ?_
  refine wp_if_lt_f (q := 4) (tgt := 9) d_JP_checkIndex_1 (by decide) rfl (nI_pos (by omega)) ?_
  refine wp_iload_n (q := 5) d_JP_checkIndex_4 rfl rfl ?_
  refine wp_iload_n (q := 6) d_JP_checkIndex_5 rfl rfl ?_
  refine wp_icmp_lt_t (tgt := 16) d_JP_checkIndex_6 (by decide) (nI_lt hj (by omega)) ?_
  refine wp_iload_n (q := 17) d_JP_checkIndex_16 rfl rfl ?_
  refine wp_iret d_JP_checkIndex_17 rfl (Nat.le_refl _) (Nat.le_refl _) ?_
  exact hK
set_option maxHeartbeats 4000000 in
set_option maxRecDepth 100000 in
theorem ok_JP_checkIndex_r {D : xD} {N : Nat} {l : Launch} {d : Nat} {g : List va_E} {K : Option Value → List va_E → Prop} {j n : Nat} {t : Nat} (hj : j < n) (hn : n < 1000) (hK : K (some (.int (nI j))) g) : Ok D N l d M_JP_checkIndex [.int (nI j), .int (nI n), .ref t] g 0 0 K := by
  refine ok_of (L := [(0, _), (1, _), (2, _)]) (by decide) (Nat.le_of_ble_eq_true rfl) rfl ?_
  refine wp_iload_n (q := 1) d_JP_checkIndex_0 rfl rfl ?_
  refine wp_if_lt_f (q := 4) (tgt := 9) d_JP_checkIndex_1 (by decide) rfl (nI_pos (by omega)) ?_
  refine wp_iload_n (q := 5) d_JP_checkIndex_4 rfl rfl ?_
  refine wp_iload_n (q := 6) d_JP_checkIndex_5 rfl rfl ?_
  refine wp_icmp_lt_t (tgt := 16) d_JP_checkIndex_6 (by decide) (nI_lt hj (by omega)) ?_
  refine wp_iload_n (q := 17) d_JP_checkIndex_16 rfl rfl ?_
  refine wp_iret d_JP_checkIndex_17 rfl (Nat.le_refl _) (Nat.le_refl _) ?_
  exact hK
theorem d_JS_checkIndex_0 : decode M_JS_checkIndex.2.1 0 = .ok (.iload_n 0, 1) := by decide +kernel
theorem d_JS_checkIndex_1 : decode M_JS_checkIndex.2.1 1 = .ok (.iload_n 1, 1) := by decide +kernel
theorem d_JS_checkIndex_2 : decode M_JS_checkIndex.2.1 2 = .ok (.getstatic 1053, 3) := by decide +kernel
theorem d_JS_checkIndex_5 : decode M_JS_checkIndex.2.1 5 = .ok (.invokestatic 1059, 3) := by decide +kernel
theorem d_JS_checkIndex_8 : decode M_JS_checkIndex.2.1 8 = .ok (.pop, 1) := by decide +kernel
theorem d_JS_checkIndex_9 : decode M_JS_checkIndex.2.1 9 = .ok (.return_, 1) := by decide +kernel
set_option maxHeartbeats 4000000 in
set_option maxRecDepth 100000 in
theorem ok_JS_checkIndex {D : xD} {N : Nat} {l : Launch} {d : Nat} {g : List va_E} {K : Option Value → List va_E → Prop} {j n : Nat} (hj : j < n) (hn : n < 1000) (hK : K none g) : Ok D N l (d + 1) M_JS_checkIndex [.int (nI j), .int (nI n)] g 0 0 K := by
  refine ok_of (L := [(0, _), (1, _)]) (by decide) (Nat.le_of_ble_eq_true rfl) rfl ?_
  refine wp_iload_n (q := 1) d_JS_checkIndex_0 rfl rfl ?_
  refine wp_iload_n (q := 2) d_JS_checkIndex_1 rfl rfl ?_
  refine wp_sfmt (q := 5) sf_fmt d_JS_checkIndex_2 rfl ?_ (fun t => ?_)
  · refine wp_cs3 (q := 8) lk_JS_1059 (ro _ _ _) d_JS_checkIndex_5 rfl (Nat.le_of_ble_eq_true rfl) (Nat.zero_le _) (Nat.zero_le _) ?_
    refine ok_JP_checkIndex_n hj hn ?_
    refine wp_pop (q := 9) d_JS_checkIndex_8 rfl rfl ?_
    refine wp_vret d_JS_checkIndex_9 rfl (Nat.le_refl _) (Nat.le_refl _) ?_
    exact hK
  · refine wp_cs3 (q := 8) lk_JS_1059 (ro _ _ _) d_JS_checkIndex_5 rfl (Nat.le_of_ble_eq_true rfl) (Nat.zero_le _) (Nat.zero_le _) ?_
    refine ok_JP_checkIndex_r hj hn ?_
    refine wp_pop (q := 9) d_JS_checkIndex_8 rfl rfl ?_
    refine wp_vret d_JS_checkIndex_9 rfl (Nat.le_refl _) (Nat.le_refl _) ?_
    exact hK
theorem d_JL_charAt_0 : decode M_JL_charAt.2.1 0 = .ok (.iload_n 1, 1) := by decide +kernel
theorem d_JL_charAt_1 : decode M_JL_charAt.2.1 1 = .ok (.aload_n 0, 1) := by decide +kernel
theorem d_JL_charAt_2 : decode M_JL_charAt.2.1 2 = .ok (.arraylength, 1) := by decide +kernel
theorem d_JL_charAt_3 : decode M_JL_charAt.2.1 3 = .ok (.invokestatic 9, 3) := by decide +kernel
theorem d_JL_charAt_6 : decode M_JL_charAt.2.1 6 = .ok (.aload_n 0, 1) := by decide +kernel
theorem d_JL_charAt_7 : decode M_JL_charAt.2.1 7 = .ok (.iload_n 1, 1) := by decide +kernel
theorem d_JL_charAt_8 : decode M_JL_charAt.2.1 8 = .ok (.baload, 1) := by decide +kernel
theorem d_JL_charAt_9 : decode M_JL_charAt.2.1 9 = .ok (.sipush 255, 3) := by decide +kernel
theorem d_JL_charAt_12 : decode M_JL_charAt.2.1 12 = .ok (.iand, 1) := by decide +kernel
theorem d_JL_charAt_13 : decode M_JL_charAt.2.1 13 = .ok (.i2c, 1) := by decide +kernel
theorem d_JL_charAt_14 : decode M_JL_charAt.2.1 14 = .ok (.ireturn, 1) := by decide +kernel
set_option maxHeartbeats 4000000 in
set_option maxRecDepth 100000 in
theorem ok_JL_charAt {D : xD} {N : Nat} {l : Launch} {d : Nat} {g : List va_E} {K : Option Value → List va_E → Prop} {i j : Nat} (hi : i < 2) (hj : j < txtLen.getD i 0) (hK : K (some (.int (chT i j))) g) : Ok D N l (d + 2) M_JL_charAt [.ref (D.2.2.2.2 i), .int (nI j)] g 0 0 K := by
  have htl := tl_lt i hi
  refine ok_of (L := [(0, _), (1, _)]) (by decide) (Nat.le_of_ble_eq_true rfl) rfl ?_
  refine wp_iload_n (q := 1) d_JL_charAt_0 rfl rfl ?_
  refine wp_aload_n (q := 2) d_JL_charAt_1 rfl rfl ?_
  refine wp_slen (q := 3) hi d_JL_charAt_2 rfl ?_
  refine wp_cs2 (q := 6) lk_JL_9 (ro _ _ _) d_JL_charAt_3 rfl (Nat.le_of_ble_eq_true rfl) (Nat.zero_le _) (Nat.zero_le _) ?_
  refine ok_JS_checkIndex hj (by omega) ?_
  refine wp_aload_n (q := 7) d_JL_charAt_6 rfl rfl ?_
  refine wp_iload_n (q := 8) d_JL_charAt_7 rfl rfl ?_
  refine wp_sbal (q := 9) hi hj (Nat.lt_trans htl (by decide)) d_JL_charAt_8 rfl ?_
  rw [show (txtB.getD i []).getD j 0 = chT i j from rfl]
  refine wp_sipush (q := 12) d_JL_charAt_9 rfl sp_255 ?_
  refine wp_iand (q := 13) d_JL_charAt_12 rfl ?_
  refine wp_i2c (q := 14) d_JL_charAt_13 rfl ?_
  rw [ch_c2 i hi j (by omega)]
  refine wp_zret d_JL_charAt_14 rfl (ch_na i hi j (by omega)) (Nat.le_refl _) (Nat.le_refl _) ?_
  exact hK
theorem d_JS_isLatin1_0 : decode M_JS_isLatin1.2.1 0 = .ok (.getstatic 38, 3) := by decide +kernel
theorem d_JS_isLatin1_3 : decode M_JS_isLatin1.2.1 3 = .ok (.ifCond .eq 14, 3) := by decide +kernel
theorem d_JS_isLatin1_6 : decode M_JS_isLatin1.2.1 6 = .ok (.aload_n 0, 1) := by decide +kernel
theorem d_JS_isLatin1_7 : decode M_JS_isLatin1.2.1 7 = .ok (.getfield 15, 3) := by decide +kernel
theorem d_JS_isLatin1_10 : decode M_JS_isLatin1.2.1 10 = .ok (.ifCond .ne 7, 3) := by decide +kernel
theorem d_JS_isLatin1_13 : decode M_JS_isLatin1.2.1 13 = .ok (.iconst 1, 1) := by decide +kernel
theorem d_JS_isLatin1_14 : decode M_JS_isLatin1.2.1 14 = .ok (.goto 4, 3) := by decide +kernel
theorem d_JS_isLatin1_17 : decode M_JS_isLatin1.2.1 17 = .ok (.iconst 0, 1) := by decide +kernel
theorem d_JS_isLatin1_18 : decode M_JS_isLatin1.2.1 18 = .ok (.ireturn, 1) := by decide +kernel
set_option maxHeartbeats 4000000 in
set_option maxRecDepth 100000 in
theorem ok_JS_isLatin1 {D : xD} {N : Nat} {l : Launch} {d : Nat} {g : List va_E} {K : Option Value → List va_E → Prop} {i : Nat} (hi : i < 2) (hK : K (some (.int (nI 1))) g) : Ok D N l d M_JS_isLatin1 [.ref (D.2.2.2.1 i)] g 0 0 K := by
  refine ok_of (L := [(0, _)]) (by decide) (Nat.le_of_ble_eq_true rfl) rfl ?_
  refine wp_scmp (q := 3) sf_cmp d_JS_isLatin1_0 rfl ?_
  refine wp_if_eq_f (q := 6) (tgt := 17) d_JS_isLatin1_3 (by decide) rfl (by decide) ?_
  refine wp_aload_n (q := 7) d_JS_isLatin1_6 rfl rfl ?_
  refine wp_scod (q := 10) hi sf_cod d_JS_isLatin1_7 rfl ?_
  refine wp_if_ne_f (q := 13) (tgt := 17) d_JS_isLatin1_10 (by decide) rfl (by decide) ?_
  refine wp_iconst (q := 14) d_JS_isLatin1_13 rfl ic_1 ?_
  refine wp_goto (tgt := 18) d_JS_isLatin1_14 (by decide) ?_
  refine wp_zret d_JS_isLatin1_18 rfl (rfl) (Nat.le_refl _) (Nat.le_refl _) ?_
  exact hK
theorem d_JS_coder_0 : decode M_JS_coder.2.1 0 = .ok (.getstatic 38, 3) := by decide +kernel
theorem d_JS_coder_3 : decode M_JS_coder.2.1 3 = .ok (.ifCond .eq 10, 3) := by decide +kernel
theorem d_JS_coder_6 : decode M_JS_coder.2.1 6 = .ok (.aload_n 0, 1) := by decide +kernel
theorem d_JS_coder_7 : decode M_JS_coder.2.1 7 = .ok (.getfield 15, 3) := by decide +kernel
theorem d_JS_coder_10 : decode M_JS_coder.2.1 10 = .ok (.goto 4, 3) := by decide +kernel
theorem d_JS_coder_13 : decode M_JS_coder.2.1 13 = .ok (.iconst 1, 1) := by decide +kernel
theorem d_JS_coder_14 : decode M_JS_coder.2.1 14 = .ok (.ireturn, 1) := by decide +kernel
set_option maxHeartbeats 4000000 in
set_option maxRecDepth 100000 in
theorem ok_JS_coder {D : xD} {N : Nat} {l : Launch} {d : Nat} {g : List va_E} {K : Option Value → List va_E → Prop} {i : Nat} (hi : i < 2) (hK : K (some (.int 0)) g) : Ok D N l d M_JS_coder [.ref (D.2.2.2.1 i)] g 0 0 K := by
  refine ok_of (L := [(0, _)]) (by decide) (Nat.le_of_ble_eq_true rfl) rfl ?_
  refine wp_scmp (q := 3) sf_cmp d_JS_coder_0 rfl ?_
  refine wp_if_eq_f (q := 6) (tgt := 13) d_JS_coder_3 (by decide) rfl (by decide) ?_
  refine wp_aload_n (q := 7) d_JS_coder_6 rfl rfl ?_
  refine wp_scod (q := 10) hi sf_cod d_JS_coder_7 rfl ?_
  refine wp_goto (tgt := 14) d_JS_coder_10 (by decide) ?_
  refine wp_zret d_JS_coder_14 rfl (rfl) (Nat.le_refl _) (Nat.le_refl _) ?_
  exact hK
theorem d_JS_charAt_0 : decode M_JS_charAt.2.1 0 = .ok (.aload_n 0, 1) := by decide +kernel
theorem d_JS_charAt_1 : decode M_JS_charAt.2.1 1 = .ok (.invokevirtual 492, 3) := by decide +kernel
theorem d_JS_charAt_4 : decode M_JS_charAt.2.1 4 = .ok (.ifCond .eq 12, 3) := by decide +kernel
theorem d_JS_charAt_7 : decode M_JS_charAt.2.1 7 = .ok (.aload_n 0, 1) := by decide +kernel
theorem d_JS_charAt_8 : decode M_JS_charAt.2.1 8 = .ok (.getfield 9, 3) := by decide +kernel
theorem d_JS_charAt_11 : decode M_JS_charAt.2.1 11 = .ok (.iload_n 1, 1) := by decide +kernel
theorem d_JS_charAt_12 : decode M_JS_charAt.2.1 12 = .ok (.invokestatic 495, 3) := by decide +kernel
theorem d_JS_charAt_15 : decode M_JS_charAt.2.1 15 = .ok (.ireturn, 1) := by decide +kernel
theorem d_JS_charAt_16 : decode M_JS_charAt.2.1 16 = .ok (.aload_n 0, 1) := by decide +kernel
theorem d_JS_charAt_17 : decode M_JS_charAt.2.1 17 = .ok (.getfield 9, 3) := by decide +kernel
theorem d_JS_charAt_20 : decode M_JS_charAt.2.1 20 = .ok (.iload_n 1, 1) := by decide +kernel
theorem d_JS_charAt_21 : decode M_JS_charAt.2.1 21 = .ok (.invokestatic 498, 3) := by decide +kernel
theorem d_JS_charAt_24 : decode M_JS_charAt.2.1 24 = .ok (.ireturn, 1) := by decide +kernel
set_option maxHeartbeats 4000000 in
set_option maxRecDepth 100000 in
theorem ok_JS_charAt {D : xD} {N : Nat} {l : Launch} {d : Nat} {g : List va_E} {K : Option Value → List va_E → Prop} {i j : Nat} (hi : i < 2) (hj : j < txtLen.getD i 0) (hK : K (some (.int (chT i j))) g) : Ok D N l (d + 3) M_JS_charAt [.ref (D.2.2.2.1 i), .int (nI j)] g 0 0 K := by
  have htl := tl_lt i hi
  refine ok_of (L := [(0, _), (1, _)]) (by decide) (Nat.le_of_ble_eq_true rfl) rfl ?_
  refine wp_aload_n (q := 1) d_JS_charAt_0 rfl rfl ?_
  refine wp_callVS (q := 4) [] lk_JS_492 rfl hi (ro _ _ _) d_JS_charAt_1 rfl rfl rfl (Nat.le_of_ble_eq_true rfl) (Nat.zero_le _) (Nat.zero_le _) ?_
  refine ok_JS_isLatin1 hi ?_
  refine wp_if_eq_f (q := 7) (tgt := 16) d_JS_charAt_4 (by decide) rfl (by decide) ?_
  refine wp_aload_n (q := 8) d_JS_charAt_7 rfl rfl ?_
  refine wp_sval (q := 11) hi sf_val d_JS_charAt_8 rfl ?_
  refine wp_iload_n (q := 12) d_JS_charAt_11 rfl rfl ?_
  refine wp_cs2 (q := 15) lk_JS_495 (ro _ _ _) d_JS_charAt_12 rfl (Nat.le_of_ble_eq_true rfl) (Nat.zero_le _) (Nat.zero_le _) ?_
  refine ok_JL_charAt hi hj ?_
  refine wp_zret d_JS_charAt_15 rfl (ch_na i hi j (by omega)) (Nat.le_refl _) (Nat.le_refl _) ?_
  exact hK
theorem d_JS_length_0 : decode M_JS_length.2.1 0 = .ok (.aload_n 0, 1) := by decide +kernel
theorem d_JS_length_1 : decode M_JS_length.2.1 1 = .ok (.getfield 9, 3) := by decide +kernel
theorem d_JS_length_4 : decode M_JS_length.2.1 4 = .ok (.arraylength, 1) := by decide +kernel
theorem d_JS_length_5 : decode M_JS_length.2.1 5 = .ok (.aload_n 0, 1) := by decide +kernel
theorem d_JS_length_6 : decode M_JS_length.2.1 6 = .ok (.invokevirtual 335, 3) := by decide +kernel
theorem d_JS_length_9 : decode M_JS_length.2.1 9 = .ok (.ishr, 1) := by decide +kernel
theorem d_JS_length_10 : decode M_JS_length.2.1 10 = .ok (.ireturn, 1) := by decide +kernel
theorem tl_sh : ∀ i, i < 2 → nI (txtLen.getD i 0) >>> ((0 : Int32) &&& 31) = nI (txtLen.getD i 0) := by decide +kernel
set_option maxHeartbeats 4000000 in
set_option maxRecDepth 100000 in
theorem ok_JS_length {D : xD} {N : Nat} {l : Launch} {d : Nat} {g : List va_E} {K : Option Value → List va_E → Prop} {i : Nat} (hi : i < 2) (hK : K (some (.int (nI (txtLen.getD i 0)))) g) : Ok D N l (d + 1) M_JS_length [.ref (D.2.2.2.1 i)] g 0 0 K := by
  refine ok_of (L := [(0, _)]) (by decide) (Nat.le_of_ble_eq_true rfl) rfl ?_
  refine wp_aload_n (q := 1) d_JS_length_0 rfl rfl ?_
  refine wp_sval (q := 4) hi sf_val d_JS_length_1 rfl ?_
  refine wp_slen (q := 5) hi d_JS_length_4 rfl ?_
  refine wp_aload_n (q := 6) d_JS_length_5 rfl rfl ?_
  refine wp_callVS (q := 9) [] lk_JS_335 rfl hi (ro _ _ _) d_JS_length_6 rfl rfl rfl (Nat.le_of_ble_eq_true rfl) (Nat.zero_le _) (Nat.zero_le _) ?_
  refine ok_JS_coder hi ?_
  refine wp_ishr (q := 10) d_JS_length_9 rfl ?_
  rw [tl_sh i hi]
  refine wp_iret d_JS_length_10 rfl (Nat.le_refl _) (Nat.le_refl _) ?_
  exact hK
