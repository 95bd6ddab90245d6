theorem iinc_2 {a : Nat} : nI a + Int32.ofInt 2 = nI (a + 2) := by rw [show Int32.ofInt 2 = nI 2 from by decide, nI_add]
def bit (set k : Nat) : Int32 := nI set >>> (nI k &&& 31) &&& nI 1
def bcN (set : Nat) : Nat → Nat
  | 0 => 0
  | k + 1 => bcN set k + if bit set k = 0 then 0 else 1
theorem bit_01 : ∀ set, set < 32 → ∀ k, k < 6 → bit set k = 0 ∨ bit set k = nI 1 := by decide +kernel
theorem bit_hi : ∀ h, h < 6 → ∀ set, set < 2 ^ h → ∀ k, k < 6 → h ≤ k → bit set k = 0 := by decide +kernel
theorem bcN_le (set : Nat) : ∀ k, bcN set k ≤ k
  | 0 => Nat.le_refl _
  | k + 1 => by have := bcN_le set k; rw [bcN]; split <;> omega
theorem sh_5 : ∀ h, h < 6 → nI 1 <<< (nI h &&& 31) = nI (2 ^ h) := by decide +kernel
def qp (c : T2) (P : Nat → Int32) (s set : Nat) : Nat → Option (Nat → Int32)
  | 0 => some P
  | j + 1 => match qp c P s set j with
    | none => none
    | some R => if bit set j = 0 then some R else if R (72 + tn (c 31 (40 * s + 2 * j))) = 0 then some (lineP R (tn (c 31 (40 * s + 2 * j))) (tn (c 31 (40 * s + (2 * j + 1))))) else none
theorem qp_0 {c : T2} {P R : Nat → Int32} {s set j : Nat} (h : qp c P s set j = some R) (hb : bit set j = 0) : qp c P s set (j + 1) = some R := by rw [qp, h]; exact if_pos hb
theorem qp_y {c : T2} {P R : Nat → Int32} {s set j : Nat} (h : qp c P s set j = some R) (hb : ¬ bit set j = 0) (hr : R (72 + tn (c 31 (40 * s + 2 * j))) = 0) : qp c P s set (j + 1) = some (lineP R (tn (c 31 (40 * s + 2 * j))) (tn (c 31 (40 * s + (2 * j + 1))))) := by
  rw [qp, h]
  show (if bit set j = 0 then _ else _) = _
  rw [if_neg hb, if_pos hr]
theorem qp_n {c : T2} {P R : Nat → Int32} {s set j : Nat} (h : qp c P s set j = some R) (hb : ¬ bit set j = 0) (hr : ¬ R (72 + tn (c 31 (40 * s + 2 * j))) = 0) : qp c P s set (j + 1) = none := by
  rw [qp, h]
  show (if bit set j = 0 then _ else _) = _
  rw [if_neg hb, if_neg hr]
theorem qp_none {c : T2} {P : Nat → Int32} {s set j : Nat} (h : qp c P s set j = none) : ∀ k, qp c P s set (j + k) = none
  | 0 => h
  | k + 1 => by rw [show j + (k + 1) = j + k + 1 from rfl, qp, qp_none h k]
theorem qp_hi {c : T2} {P : Nat → Int32} {s set h : Nat} (hh : h < 6) (hs : set < 2 ^ h) : ∀ k, h + k < 7 → qp c P s set (h + k) = qp c P s set h
  | 0, _ => rfl
  | k + 1, hk => by
    have ih := qp_hi (c := c) (P := P) (s := s) hh hs k (by omega)
    rw [show h + (k + 1) = h + k + 1 from rfl, qp, ih]
    cases qp c P s set h with
    | none => rfl
    | some R => exact if_pos (bit_hi h hh set hs (h + k) (by omega) (by omega))
/-- a sheet that tells places -/
def tpl (c : T2) (s : Nat) : Prop := ¬ c 29 s = -1 ∧ tn (c 30 s) % 2 = 0 ∧ tn (c 30 s) ≤ 10 ∧ ∀ k, k < tn (c 30 s) / 2 → inb c (c 31 (40 * s + 2 * k)) ∧ inn (c 31 (40 * s + (2 * k + 1))) 5
theorem WV.line {c : T2} {P : Nat → Int32} {nb m b s : Nat} (h : WV c P nb m) (hb : b < nb) (h12 : nb ≤ 12) (hs : s < 6) (hSE : SE c) : WV c (lineP P b s) nb m := ⟨h.1.line hb h12 hs, h.2.line (by omega) hs hSE⟩
theorem tpl.at {c : T2} {s k nb : Nat} (h : tpl c s) (hnb : c 32 1 = nI nb) (h12 : nb ≤ 12) (hk : k < tn (c 30 s) / 2) : ∃ b t, b < nb ∧ t < 6 ∧ c 31 (40 * s + 2 * k) = nI b ∧ c 31 (40 * s + (2 * k + 1)) = nI t := by
  obtain ⟨h1, h2⟩ := h.2.2.2 k hk
  obtain ⟨b, hb, eb⟩ := (inb_iff hnb (by omega)).mp h1
  obtain ⟨t, ht, et⟩ := nI_btw (by decide) h2.1 h2.2
  exact ⟨b, t, hb, by omega, eb, et⟩
theorem qp_WV {c : T2} {P : Nat → Int32} {s set nb m q h : Nat} (hWV : WV c P nb m) (hSt : St P q) (hq : q < 800000000) (ht : tpl c s) (hnb : c 32 1 = nI nb) (h12 : nb ≤ 12) (hSE : SE c) (eh : tn (c 30 s) / 2 = h) (hs : set < 2 ^ h) (hh : h < 6) : ∀ j, j ≤ 6 → ∀ R, qp c P s set j = some R → WV c R nb m ∧ St R (q + j) ∧ R 238 = P 238
  | 0, _, R, e => by
    have := Option.some.inj e
    subst this
    exact ⟨hWV, hSt, rfl⟩
  | j + 1, hj, R, e => by
    cases hp : qp c P s set j with
    | none => rw [qp, hp] at e; cases e
    | some R0 =>
      obtain ⟨w, st, e8⟩ := qp_WV hWV hSt hq ht hnb h12 hSE eh hs hh j (by omega) R0 hp
      by_cases hb : bit set j = 0
      · rw [qp_0 hp hb] at e
        have := Option.some.inj e
        subst this
        exact ⟨w, st.mono (by omega), e8⟩
      · by_cases hr : R0 (72 + tn (c 31 (40 * s + 2 * j))) = 0
        · rw [qp_y hp hb hr] at e
          have := Option.some.inj e
          subst this
          have hjh : j < h := Nat.lt_of_not_le (fun g => hb (bit_hi h hh set hs j (by omega) g))
          obtain ⟨b, t, hb2, ht2, eb, et⟩ := ht.at hnb h12 (k := j) (by rw [eh]; exact hjh)
          rw [eb, et, tnt (show b < 12 by omega), tnt ht2]
          refine ⟨w.line hb2 h12 ht2 hSE, (st.line (by omega) ht2 (by omega)).mono (by omega), ?_⟩
          unfold lineP
          simp (disch := omega) only [upd_ne]
          exact e8
        · rw [qp_n hp hb hr] at e; cases e
/-- what is waited never grows less -/
theorem sv2_238 {c : T2} {P : Nat → Int32} {nb m s b kd a : Nat} (hs : s < 6) (ha : a < 6) (hb : b < 12) : sv2 c P nb m s b kd a 238 = P 238 := by
  unfold sv2 go2 lvP letP
  split <;> simp (disch := omega) only [upd_ne]
theorem sv_238 {c : T2} {P : Nat → Int32} {nb m s : Nat} (hW : WI P nb m) (h12 : nb ≤ 12) (hs : s < 6) : sv c P nb m s 238 = P 238 := by
  rcases h1 : lf P s nb with _ | b
  · rcases h2 : ff P s nb with _ | b
    · simp only [sv, h1, h2]
    · have := (ff_lt h2).1
      rcases h3 : am c P s 6 with _ | a
      · simp only [sv, h1, h2, h3]
      · simp only [sv, h1, h2, h3]
        rw [sv2_238 hs (am_lt h3).1 (by omega)]
        unfold upP
        simp (disch := omega) only [upd_ne]
  · have := (lf_lt h1).1
    simp only [sv, h1]
    exact sv2_238 hs (hW.2.1 b (by omega)).2.1.2 (by omega)
theorem svN_238 {c : T2} {P : Nat → Int32} {nb m : Nat} (hW : WI P nb m) (hT : TI c) (h12 : nb ≤ 12) : ∀ s, s ≤ 6 → svN c P nb m s 238 = P 238
  | 0, _ => rfl
  | s + 1, hs => by rw [svN, sv_238 (hW.svs hT h12 s (by omega)) h12 (by omega)]; exact svN_238 hW hT h12 s (by omega)
theorem mv_238 {P : Nat → Int32} {b kd s a : Nat} (hb : b < 12) (hs : s < 6) (ha : a < 6) : mv1 P b kd s a 238 = P 238 := by
  have hsa : (if kd = 1 then s else a) < 6 := by split <;> assumption
  unfold mv1 arr
  generalize (if kd = 1 then s else a) = t at hsa ⊢
  unfold lineP
  repeat' split
  all_goals first | rfl | simp (disch := omega) only [upd_ne]
theorem mvN_238 {P : Nat → Int32} {nb m : Nat} (hW : WI P nb m) (h12 : nb ≤ 12) : ∀ b, b ≤ nb → mvN P b 238 = P 238
  | 0, _ => rfl
  | b + 1, hb => by
    have hc := (hW.mvs h12 b (by omega)).2.1 b (by omega)
    rw [mvN, mvB, mv_238 (by omega) hc.1.2 hc.2.1.2]
    exact mvN_238 hW h12 b (by omega)
theorem stN_238 {c : T2} {P : Nat → Int32} {nb m : Nat} (h12 : nb ≤ 12) : ∀ b, b ≤ nb → stN c P nb m b 238 = P 238
  | 0, _ => rfl
  | b + 1, hb => by
    have ih := stN_238 (c := c) (P := P) (m := m) h12 b (by omega)
    rw [stN, stB]
    unfold stl
    split <;> simp (disch := omega) only [upd_ne] <;> exact ih
theorem tn_add {x y : Int32} {a b : Nat} (hx : isN x a) (hy : isN y b) (hab : a + b < 2000000000) : tn x ≤ tn (x + y) := by
  obtain ⟨e1, l1⟩ := hx
  obtain ⟨e2, l2⟩ := hy
  have h : x + y = nI (tn x + tn y) := by
    rw [← nI_add, ← e1, ← e2]
  rw [h]
  have e : tn (nI (tn x + tn y)) = tn x + tn y := nI_clamp (by omega)
  rw [e]; omega
theorem pass_238 {c : T2} {P : Nat → Int32} {nb m : Nat} (h : WV c P nb m) (hT : TI c) (hSE : SE c) (h12 : nb ≤ 12) (hm : m < 14700) : tn (P 238) ≤ tn (passP c P nb m 238) := by
  obtain ⟨hW, hG⟩ := h
  have w1 := hW.cm (c := c) (m2 := m) 36 (Nat.le_refl _)
  have w2 := w1.svs hT h12 6 (Nat.le_refl _)
  obtain ⟨a1, a2, a3⟩ := hG.cm hT (by omega) 36 (Nat.le_refl _)
  have g1 : GV c (cmN c P m 36) (490 + (m + 1) % 10) (m * 2100 + 1800) (m * 500) (m * 18100) := by
    refine ⟨fun k hk => ?_, a2, fun b hb => ?_, a3, ?_, ?_⟩
    · have := a1 k hk
      rw [if_pos hk] at this
      exact this
    · rw [cmN_at (Nat.le_refl _) (by omega)]; exact hG.2.2.1 b hb
    · rw [cmN_at (Nat.le_refl _) (by omega)]; exact hG.2.2.2.2.1
    · rw [cmN_at (Nat.le_refl _) (by omega)]; exact hG.2.2.2.2.2
  have g2 := g1.svs w1 hT h12 (by omega) hSE 6 (Nat.le_refl _)
  have g3 := g2.mvs w2 h12 hSE (by omega) nb (Nat.le_refl _)
  have hs := smN_N (B := 490 + (m + 1) % 10) (by omega) g3.1 36 (Nat.le_refl _)
  have e3 : mvN (svN c (cmN c P m 36) nb m 6) nb 238 = P 238 := by
    rw [mvN_238 w2 h12 nb (Nat.le_refl _), svN_238 w1 hT h12 6 (Nat.le_refl _), cmN_at (Nat.le_refl _) (by omega)]
  have e4 : passP c P nb m 238 = P 238 + smN (mvN (svN c (cmN c P m 36) nb m 6) nb) 36 := by
    unfold passP
    rw [upd_ne _ _ (by decide)]
    have e5 : pas1 c P nb m 238 = P 238 + smN (mvN (svN c (cmN c P m 36) nb m 6) nb) 36 := by
      unfold pas1 wtP
      rw [upd_eq, e3]
    split
    · rw [stN_238 h12 nb (Nat.le_refl _)]; exact e5
    · exact e5
  rw [e4]
  exact tn_add hG.2.2.2.2.2 hs (by omega)
theorem pN_238 {c : T2} {P : Nat → Int32} {nb m : Nat} (h : WV c P nb m) (hT : TI c) (hSE : SE c) (h12 : nb ≤ 12) : ∀ k, m + k ≤ 14700 → tn (P 238) ≤ tn (pN c P nb m k 238)
  | 0, _ => Nat.le_refl _
  | k + 1, hk => Nat.le_trans (pN_238 h hT hSE h12 k (by omega)) (pass_238 (h.ps hT hSE h12 k (by omega)) hT hSE h12 (by omega))
theorem df_238 {c : T2} {P R : Nat → Int32} {nb m n : Nat} (hP : WV c P nb m) (h : WV c R nb m) (e : R 238 = P 238) (hT : TI c) (hSE : SE c) (h12 : nb ≤ 12) (hm : m + n ≤ 14400) : ∃ a, a < 1000000000 ∧ (pN c R nb m n 238).toInt64 - (P 238).toInt64 = (nI a).toInt64 := by
  have h1 := pN_238 h hT hSE h12 n (by omega)
  have w := h.ps hT hSE h12 n (by omega)
  have e1 := w.2.2.2.2.2.2
  have e2 := hP.2.2.2.2.2.2
  refine ⟨tn (pN c R nb m n 238) - tn (P 238), ?_, ?_⟩
  · have := e1.2; omega
  · have h3 : (nI (tn (pN c R nb m n 238) - tn (P 238))).toInt64 = (pN c R nb m n 238 - P 238).toInt64 := by
      rw [← isN_sub e1.1 e2.1 (by rw [← e]; exact h1)]
    rw [h3]
    exact (hP.diff (w := 0) w (by omega) (by omega)).symm
theorem d_JI_bitCount_0 : decode M_JI_bitCount.2.1 0 = .ok (.iload_n 0, 1) := by decide +kernel
theorem d_JI_bitCount_1 : decode M_JI_bitCount.2.1 1 = .ok (.iload_n 0, 1) := by decide +kernel
theorem d_JI_bitCount_2 : decode M_JI_bitCount.2.1 2 = .ok (.iconst 1, 1) := by decide +kernel
theorem d_JI_bitCount_3 : decode M_JI_bitCount.2.1 3 = .ok (.iushr, 1) := by decide +kernel
theorem d_JI_bitCount_4 : decode M_JI_bitCount.2.1 4 = .ok (.ldc_w 265, 3) := by decide +kernel
theorem d_JI_bitCount_7 : decode M_JI_bitCount.2.1 7 = .ok (.iand, 1) := by decide +kernel
theorem d_JI_bitCount_8 : decode M_JI_bitCount.2.1 8 = .ok (.isub, 1) := by decide +kernel
theorem d_JI_bitCount_9 : decode M_JI_bitCount.2.1 9 = .ok (.istore_n 0, 1) := by decide +kernel
theorem d_JI_bitCount_10 : decode M_JI_bitCount.2.1 10 = .ok (.iload_n 0, 1) := by decide +kernel
theorem d_JI_bitCount_11 : decode M_JI_bitCount.2.1 11 = .ok (.ldc_w 266, 3) := by decide +kernel
theorem d_JI_bitCount_14 : decode M_JI_bitCount.2.1 14 = .ok (.iand, 1) := by decide +kernel
theorem d_JI_bitCount_15 : decode M_JI_bitCount.2.1 15 = .ok (.iload_n 0, 1) := by decide +kernel
theorem d_JI_bitCount_16 : decode M_JI_bitCount.2.1 16 = .ok (.iconst 2, 1) := by decide +kernel
theorem d_JI_bitCount_17 : decode M_JI_bitCount.2.1 17 = .ok (.iushr, 1) := by decide +kernel
theorem d_JI_bitCount_18 : decode M_JI_bitCount.2.1 18 = .ok (.ldc_w 266, 3) := by decide +kernel
theorem d_JI_bitCount_21 : decode M_JI_bitCount.2.1 21 = .ok (.iand, 1) := by decide +kernel
theorem d_JI_bitCount_22 : decode M_JI_bitCount.2.1 22 = .ok (.iadd, 1) := by decide +kernel
theorem d_JI_bitCount_23 : decode M_JI_bitCount.2.1 23 = .ok (.istore_n 0, 1) := by decide +kernel
theorem d_JI_bitCount_24 : decode M_JI_bitCount.2.1 24 = .ok (.iload_n 0, 1) := by decide +kernel
theorem d_JI_bitCount_25 : decode M_JI_bitCount.2.1 25 = .ok (.iload_n 0, 1) := by decide +kernel
theorem d_JI_bitCount_26 : decode M_JI_bitCount.2.1 26 = .ok (.iconst 4, 1) := by decide +kernel
theorem d_JI_bitCount_27 : decode M_JI_bitCount.2.1 27 = .ok (.iushr, 1) := by decide +kernel
theorem d_JI_bitCount_28 : decode M_JI_bitCount.2.1 28 = .ok (.iadd, 1) := by decide +kernel
theorem d_JI_bitCount_29 : decode M_JI_bitCount.2.1 29 = .ok (.ldc_w 267, 3) := by decide +kernel
theorem d_JI_bitCount_32 : decode M_JI_bitCount.2.1 32 = .ok (.iand, 1) := by decide +kernel
theorem d_JI_bitCount_33 : decode M_JI_bitCount.2.1 33 = .ok (.istore_n 0, 1) := by decide +kernel
theorem d_JI_bitCount_34 : decode M_JI_bitCount.2.1 34 = .ok (.iload_n 0, 1) := by decide +kernel
theorem d_JI_bitCount_35 : decode M_JI_bitCount.2.1 35 = .ok (.iload_n 0, 1) := by decide +kernel
theorem d_JI_bitCount_36 : decode M_JI_bitCount.2.1 36 = .ok (.bipush 8, 2) := by decide +kernel
theorem d_JI_bitCount_38 : decode M_JI_bitCount.2.1 38 = .ok (.iushr, 1) := by decide +kernel
theorem d_JI_bitCount_39 : decode M_JI_bitCount.2.1 39 = .ok (.iadd, 1) := by decide +kernel
theorem d_JI_bitCount_40 : decode M_JI_bitCount.2.1 40 = .ok (.istore_n 0, 1) := by decide +kernel
theorem d_JI_bitCount_41 : decode M_JI_bitCount.2.1 41 = .ok (.iload_n 0, 1) := by decide +kernel
theorem d_JI_bitCount_42 : decode M_JI_bitCount.2.1 42 = .ok (.iload_n 0, 1) := by decide +kernel
theorem d_JI_bitCount_43 : decode M_JI_bitCount.2.1 43 = .ok (.bipush 16, 2) := by decide +kernel
theorem d_JI_bitCount_45 : decode M_JI_bitCount.2.1 45 = .ok (.iushr, 1) := by decide +kernel
theorem d_JI_bitCount_46 : decode M_JI_bitCount.2.1 46 = .ok (.iadd, 1) := by decide +kernel
theorem d_JI_bitCount_47 : decode M_JI_bitCount.2.1 47 = .ok (.istore_n 0, 1) := by decide +kernel
theorem d_JI_bitCount_48 : decode M_JI_bitCount.2.1 48 = .ok (.iload_n 0, 1) := by decide +kernel
theorem d_JI_bitCount_49 : decode M_JI_bitCount.2.1 49 = .ok (.bipush 63, 2) := by decide +kernel
theorem d_JI_bitCount_51 : decode M_JI_bitCount.2.1 51 = .ok (.iand, 1) := by decide +kernel
theorem d_JI_bitCount_52 : decode M_JI_bitCount.2.1 52 = .ok (.ireturn, 1) := by decide +kernel
def bcE (x : Int32) : Int32 := (((((((x - (((x).toUInt32 >>> ((nI 1).toUInt32 &&& Int32.toUInt32 31)).toInt32 &&& (1431655765 : Int32))) &&& (858993459 : Int32)) + ((((x - (((x).toUInt32 >>> ((nI 1).toUInt32 &&& Int32.toUInt32 31)).toInt32 &&& (1431655765 : Int32)))).toUInt32 >>> ((nI 2).toUInt32 &&& Int32.toUInt32 31)).toInt32 &&& (858993459 : Int32))) + (((((x - (((x).toUInt32 >>> ((nI 1).toUInt32 &&& Int32.toUInt32 31)).toInt32 &&& (1431655765 : Int32))) &&& (858993459 : Int32)) + ((((x - (((x).toUInt32 >>> ((nI 1).toUInt32 &&& Int32.toUInt32 31)).toInt32 &&& (1431655765 : Int32)))).toUInt32 >>> ((nI 2).toUInt32 &&& Int32.toUInt32 31)).toInt32 &&& (858993459 : Int32)))).toUInt32 >>> ((nI 4).toUInt32 &&& Int32.toUInt32 31)).toInt32) &&& (252645135 : Int32)) + (((((((x - (((x).toUInt32 >>> ((nI 1).toUInt32 &&& Int32.toUInt32 31)).toInt32 &&& (1431655765 : Int32))) &&& (858993459 : Int32)) + ((((x - (((x).toUInt32 >>> ((nI 1).toUInt32 &&& Int32.toUInt32 31)).toInt32 &&& (1431655765 : Int32)))).toUInt32 >>> ((nI 2).toUInt32 &&& Int32.toUInt32 31)).toInt32 &&& (858993459 : Int32))) + (((((x - (((x).toUInt32 >>> ((nI 1).toUInt32 &&& Int32.toUInt32 31)).toInt32 &&& (1431655765 : Int32))) &&& (858993459 : Int32)) + ((((x - (((x).toUInt32 >>> ((nI 1).toUInt32 &&& Int32.toUInt32 31)).toInt32 &&& (1431655765 : Int32)))).toUInt32 >>> ((nI 2).toUInt32 &&& Int32.toUInt32 31)).toInt32 &&& (858993459 : Int32)))).toUInt32 >>> ((nI 4).toUInt32 &&& Int32.toUInt32 31)).toInt32) &&& (252645135 : Int32))).toUInt32 >>> ((nI 8).toUInt32 &&& Int32.toUInt32 31)).toInt32) + ((((((((x - (((x).toUInt32 >>> ((nI 1).toUInt32 &&& Int32.toUInt32 31)).toInt32 &&& (1431655765 : Int32))) &&& (858993459 : Int32)) + ((((x - (((x).toUInt32 >>> ((nI 1).toUInt32 &&& Int32.toUInt32 31)).toInt32 &&& (1431655765 : Int32)))).toUInt32 >>> ((nI 2).toUInt32 &&& Int32.toUInt32 31)).toInt32 &&& (858993459 : Int32))) + (((((x - (((x).toUInt32 >>> ((nI 1).toUInt32 &&& Int32.toUInt32 31)).toInt32 &&& (1431655765 : Int32))) &&& (858993459 : Int32)) + ((((x - (((x).toUInt32 >>> ((nI 1).toUInt32 &&& Int32.toUInt32 31)).toInt32 &&& (1431655765 : Int32)))).toUInt32 >>> ((nI 2).toUInt32 &&& Int32.toUInt32 31)).toInt32 &&& (858993459 : Int32)))).toUInt32 >>> ((nI 4).toUInt32 &&& Int32.toUInt32 31)).toInt32) &&& (252645135 : Int32)) + (((((((x - (((x).toUInt32 >>> ((nI 1).toUInt32 &&& Int32.toUInt32 31)).toInt32 &&& (1431655765 : Int32))) &&& (858993459 : Int32)) + ((((x - (((x).toUInt32 >>> ((nI 1).toUInt32 &&& Int32.toUInt32 31)).toInt32 &&& (1431655765 : Int32)))).toUInt32 >>> ((nI 2).toUInt32 &&& Int32.toUInt32 31)).toInt32 &&& (858993459 : Int32))) + (((((x - (((x).toUInt32 >>> ((nI 1).toUInt32 &&& Int32.toUInt32 31)).toInt32 &&& (1431655765 : Int32))) &&& (858993459 : Int32)) + ((((x - (((x).toUInt32 >>> ((nI 1).toUInt32 &&& Int32.toUInt32 31)).toInt32 &&& (1431655765 : Int32)))).toUInt32 >>> ((nI 2).toUInt32 &&& Int32.toUInt32 31)).toInt32 &&& (858993459 : Int32)))).toUInt32 >>> ((nI 4).toUInt32 &&& Int32.toUInt32 31)).toInt32) &&& (252645135 : Int32))).toUInt32 >>> ((nI 8).toUInt32 &&& Int32.toUInt32 31)).toInt32)).toUInt32 >>> ((nI 16).toUInt32 &&& Int32.toUInt32 31)).toInt32) &&& nI 63
theorem bc_ok : ∀ set, set < 32 → bcE (nI set) = nI (bcN set 6) := by decide +kernel
set_option maxHeartbeats 4000000 in
set_option maxRecDepth 100000 in
theorem ok_JI_bitCount {D : xD} {N : Nat} {l : Launch} {d : Nat} {g : List va_E} {K : Option Value → List va_E → Prop} {set : Nat} (hs : set < 32) (hK : K (some (.int (nI (bcN set 6)))) g) : Ok D N l d M_JI_bitCount [.int (nI set)] g 0 0 K := by
  refine ok_of (L := [(0, _)]) (by decide) (Nat.le_of_ble_eq_true rfl) rfl ?_
  refine wp_iload_n (q := 1) d_JI_bitCount_0 rfl rfl ?_
  refine wp_iload_n (q := 2) d_JI_bitCount_1 rfl rfl ?_
  refine wp_iconst (q := 3) d_JI_bitCount_2 rfl ic_1 ?_
  refine wp_iushr (q := 4) d_JI_bitCount_3 rfl ?_
  refine wp_ldcw (q := 7) d_JI_bitCount_4 rfl kc_JI_265 ?_
  refine wp_iand (q := 8) d_JI_bitCount_7 rfl ?_
  refine wp_isub (q := 9) d_JI_bitCount_8 rfl ?_
  refine wp_istore_n (q := 10) (L2 := [(0, _)]) d_JI_bitCount_9 rfl (by decide) rfl ?_
  refine wp_iload_n (q := 11) d_JI_bitCount_10 rfl rfl ?_
  refine wp_ldcw (q := 14) d_JI_bitCount_11 rfl kc_JI_266 ?_
  refine wp_iand (q := 15) d_JI_bitCount_14 rfl ?_
  refine wp_iload_n (q := 16) d_JI_bitCount_15 rfl rfl ?_
  refine wp_iconst (q := 17) d_JI_bitCount_16 rfl ic_2 ?_
  refine wp_iushr (q := 18) d_JI_bitCount_17 rfl ?_
  refine wp_ldcw (q := 21) d_JI_bitCount_18 rfl kc_JI_266 ?_
  refine wp_iand (q := 22) d_JI_bitCount_21 rfl ?_
  refine wp_iadd (q := 23) d_JI_bitCount_22 rfl ?_
  refine wp_istore_n (q := 24) (L2 := [(0, _)]) d_JI_bitCount_23 rfl (by decide) rfl ?_
  refine wp_iload_n (q := 25) d_JI_bitCount_24 rfl rfl ?_
  refine wp_iload_n (q := 26) d_JI_bitCount_25 rfl rfl ?_
  refine wp_iconst (q := 27) d_JI_bitCount_26 rfl ic_4 ?_
  refine wp_iushr (q := 28) d_JI_bitCount_27 rfl ?_
  refine wp_iadd (q := 29) d_JI_bitCount_28 rfl ?_
  refine wp_ldcw (q := 32) d_JI_bitCount_29 rfl kc_JI_267 ?_
  refine wp_iand (q := 33) d_JI_bitCount_32 rfl ?_
  refine wp_istore_n (q := 34) (L2 := [(0, _)]) d_JI_bitCount_33 rfl (by decide) rfl ?_
  refine wp_iload_n (q := 35) d_JI_bitCount_34 rfl rfl ?_
  refine wp_iload_n (q := 36) d_JI_bitCount_35 rfl rfl ?_
  refine wp_bipush (q := 38) d_JI_bitCount_36 rfl bp_8 ?_
  refine wp_iushr (q := 39) d_JI_bitCount_38 rfl ?_
  refine wp_iadd (q := 40) d_JI_bitCount_39 rfl ?_
  refine wp_istore_n (q := 41) (L2 := [(0, _)]) d_JI_bitCount_40 rfl (by decide) rfl ?_
  refine wp_iload_n (q := 42) d_JI_bitCount_41 rfl rfl ?_
  refine wp_iload_n (q := 43) d_JI_bitCount_42 rfl rfl ?_
  refine wp_bipush (q := 45) d_JI_bitCount_43 rfl bp_16 ?_
  refine wp_iushr (q := 46) d_JI_bitCount_45 rfl ?_
  refine wp_iadd (q := 47) d_JI_bitCount_46 rfl ?_
  refine wp_istore_n (q := 48) (L2 := [(0, _)]) d_JI_bitCount_47 rfl (by decide) rfl ?_
  refine wp_iload_n (q := 49) d_JI_bitCount_48 rfl rfl ?_
  refine wp_bipush (q := 51) d_JI_bitCount_49 rfl bp_63 ?_
  refine wp_iand (q := 52) d_JI_bitCount_51 rfl ?_
  refine wp_iret d_JI_bitCount_52 rfl (Nat.le_refl _) (Nat.le_refl _) ?_
  have e := bc_ok set hs
  unfold bcE at e
  rw [← e] at hK
  exact hK
theorem d_Rf_many_0 : decode M_Rf_many.2.1 0 = .ok (.iconst 0, 1) := by decide +kernel
theorem d_Rf_many_1 : decode M_Rf_many.2.1 1 = .ok (.istore_n 1, 1) := by decide +kernel
theorem d_Rf_many_2 : decode M_Rf_many.2.1 2 = .ok (.iconst 0, 1) := by decide +kernel
theorem d_Rf_many_3 : decode M_Rf_many.2.1 3 = .ok (.istore_n 2, 1) := by decide +kernel
theorem d_Rf_many_4 : decode M_Rf_many.2.1 4 = .ok (.iload_n 2, 1) := by decide +kernel
theorem d_Rf_many_5 : decode M_Rf_many.2.1 5 = .ok (.bipush 6, 2) := by decide +kernel
theorem d_Rf_many_7 : decode M_Rf_many.2.1 7 = .ok (.if_icmp .ge 17, 3) := by decide +kernel
theorem d_Rf_many_10 : decode M_Rf_many.2.1 10 = .ok (.iload_n 1, 1) := by decide +kernel
theorem d_Rf_many_11 : decode M_Rf_many.2.1 11 = .ok (.iload_n 0, 1) := by decide +kernel
theorem d_Rf_many_12 : decode M_Rf_many.2.1 12 = .ok (.iload_n 2, 1) := by decide +kernel
theorem d_Rf_many_13 : decode M_Rf_many.2.1 13 = .ok (.ishr, 1) := by decide +kernel
theorem d_Rf_many_14 : decode M_Rf_many.2.1 14 = .ok (.iconst 1, 1) := by decide +kernel
theorem d_Rf_many_15 : decode M_Rf_many.2.1 15 = .ok (.iand, 1) := by decide +kernel
theorem d_Rf_many_16 : decode M_Rf_many.2.1 16 = .ok (.iadd, 1) := by decide +kernel
theorem d_Rf_many_17 : decode M_Rf_many.2.1 17 = .ok (.istore_n 1, 1) := by decide +kernel
theorem d_Rf_many_18 : decode M_Rf_many.2.1 18 = .ok (.iinc 2 1, 3) := by decide +kernel
theorem d_Rf_many_21 : decode M_Rf_many.2.1 21 = .ok (.goto (-17), 3) := by decide +kernel
theorem d_Rf_many_24 : decode M_Rf_many.2.1 24 = .ok (.iload_n 1, 1) := by decide +kernel
theorem d_Rf_many_25 : decode M_Rf_many.2.1 25 = .ok (.ireturn, 1) := by decide +kernel
set_option maxHeartbeats 4000000 in
set_option maxRecDepth 100000 in
theorem ok_Rf_many {D : xD} {N : Nat} {l : Launch} {d : Nat} {g : List va_E} {K : Option Value → List va_E → Prop} {set : Nat} (hs : set < 32) (hK : K (some (.int (nI (bcN set 6)))) g) : Ok D N l d M_Rf_many [.int (nI set)] g 0 0 K := by
  have lp : ∀ k : Nat, k ≤ 6 → Wp D N l (EI M_Rf_many) M_Rf_many (Rm d 0 0) (Qm D N K 0 0) 0 0 4 [(2, .int (nI k)), (1, .int (nI (bcN set k))), (0, .int (nI set))] [] g := by
    refine up_loop ?_ ?_
    · skip
      refine wp_iload_n (q := 5) d_Rf_many_4 rfl rfl ?_
      refine wp_bipush (q := 7) d_Rf_many_5 rfl bp_6 ?_
      refine wp_icmp_ge_t (tgt := 24) d_Rf_many_7 (by decide) (nI_le (Nat.le_refl _) (by decide)) ?_
      refine wp_iload_n (q := 25) d_Rf_many_24 rfl rfl ?_
      refine wp_iret d_Rf_many_25 rfl (Nat.le_refl _) (Nat.le_refl _) ?_
      exact hK
    · intro k hk ih
      rcases bit_01 set hs k hk with hb | hb
      · skip
        refine wp_iload_n (q := 5) d_Rf_many_4 rfl rfl ?_
        refine wp_bipush (q := 7) d_Rf_many_5 rfl bp_6 ?_
        refine wp_icmp_ge_f (q := 10) (tgt := 24) d_Rf_many_7 (by decide) rfl (nI_ge hk (by decide)) ?_
        refine wp_iload_n (q := 11) d_Rf_many_10 rfl rfl ?_
        refine wp_iload_n (q := 12) d_Rf_many_11 rfl rfl ?_
        refine wp_iload_n (q := 13) d_Rf_many_12 rfl rfl ?_
        refine wp_ishr (q := 14) d_Rf_many_13 rfl ?_
        refine wp_iconst (q := 15) d_Rf_many_14 rfl ic_1 ?_
        refine wp_iand (q := 16) d_Rf_many_15 rfl ?_
        rw [show nI set >>> (nI k &&& 31) &&& nI 1 = nI 0 from hb]
        refine wp_iaddN (q := 17) d_Rf_many_16 rfl ?_
        refine wp_istore_n (q := 18) (L2 := [(1, _), (2, _), (0, _)]) d_Rf_many_17 rfl (by decide) rfl ?_
        refine wp_iinc (q := 21) (L2 := [(2, _), (1, _), (0, _)]) d_Rf_many_18 rfl rfl (iinc_1) (by decide) rfl ?_
        refine wp_goto (tgt := 4) d_Rf_many_21 (by decide) ?_
        rw [bcN, if_pos hb] at ih; exact ih
      · skip
        refine wp_iload_n (q := 5) d_Rf_many_4 rfl rfl ?_
        refine wp_bipush (q := 7) d_Rf_many_5 rfl bp_6 ?_
        refine wp_icmp_ge_f (q := 10) (tgt := 24) d_Rf_many_7 (by decide) rfl (nI_ge hk (by decide)) ?_
        refine wp_iload_n (q := 11) d_Rf_many_10 rfl rfl ?_
        refine wp_iload_n (q := 12) d_Rf_many_11 rfl rfl ?_
        refine wp_iload_n (q := 13) d_Rf_many_12 rfl rfl ?_
        refine wp_ishr (q := 14) d_Rf_many_13 rfl ?_
        refine wp_iconst (q := 15) d_Rf_many_14 rfl ic_1 ?_
        refine wp_iand (q := 16) d_Rf_many_15 rfl ?_
        rw [show nI set >>> (nI k &&& 31) &&& nI 1 = nI 1 from hb]
        refine wp_iaddN (q := 17) d_Rf_many_16 rfl ?_
        refine wp_istore_n (q := 18) (L2 := [(1, _), (2, _), (0, _)]) d_Rf_many_17 rfl (by decide) rfl ?_
        refine wp_iinc (q := 21) (L2 := [(2, _), (1, _), (0, _)]) d_Rf_many_18 rfl rfl (iinc_1) (by decide) rfl ?_
        refine wp_goto (tgt := 4) d_Rf_many_21 (by decide) ?_
        rw [bcN, if_neg (by rw [hb]; decide)] at ih; exact ih
  refine ok_of (L := [(0, _)]) (by decide) (Nat.le_of_ble_eq_true rfl) rfl ?_
  refine wp_iconst (q := 1) d_Rf_many_0 rfl ic_0 ?_
  refine wp_istore_n (q := 2) (L2 := [(1, _), (0, _)]) d_Rf_many_1 rfl (by decide) rfl ?_
  refine wp_iconst (q := 3) d_Rf_many_2 rfl ic_0 ?_
  refine wp_istore_n (q := 4) (L2 := [(2, _), (1, _), (0, _)]) d_Rf_many_3 rfl (by decide) rfl ?_
  exact lp 0 (Nat.zero_le _)
