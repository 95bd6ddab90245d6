theorem by_256 : ∀ n, n < 256 → (nI n).toInt8.toInt32 &&& nI 255 = nI n := by decide +kernel
theorem by256 {x : Int32} (h : isN x 256) : x.toInt8.toInt32 &&& nI 255 = x := by
  obtain ⟨n, hn, e⟩ := h.ex
  rw [e]
  exact by_256 n hn
def xp (x : T2) (p : Nat) : T2 := tput x 3 (upd (x 3) 0 (nI p))
theorem xp_at (x : T2) (p : Nat) : xp x p 3 0 = nI p := by unfold xp; rw [tput_eq, upd_eq]
theorem xp_xp (x : T2) (p q : Nat) : xp (xp x p) q = xp x q := by
  unfold xp
  rw [tput2, tput_eq, upd_upd]
theorem xp_self {x : T2} {p : Nat} (h : x 3 0 = nI p) : xp x p = x := by
  unfold xp
  rw [upd_id h, tput_id]
theorem mx_nI {a b : Nat} (ha : a < 1000000) (hb : b < 1000000) : (if nI a < nI b then nI b else nI a) = nI (if a < b then b else a) := by
  by_cases h : a < b
  · rw [if_pos (nI_lt h (by omega)), if_pos h]
  · rw [if_neg (nI_nlt (by omega) (by omega)), if_neg h]
theorem tl_len : ∀ i, i < 2 → txtLen.getD i 0 = (txtB.getD i []).length := by decide +kernel
theorem drop_c {l : List Int32} {j : Nat} {ch : Int32} {cs : List Int32} (h : l.drop j = ch :: cs) : j < l.length ∧ l.getD j 0 = ch ∧ l.drop (j + 1) = cs := by
  have h1 : j < l.length := by
    rcases Nat.lt_or_ge j l.length with g | g
    · exact g
    · rw [List.drop_eq_nil_of_le g] at h; cases h
  rw [List.drop_eq_getElem_cons h1] at h
  injection h with a b
  refine ⟨h1, ?_, b⟩
  rw [← a]
  simp [List.getD, h1]
theorem nmV_y {B : FN} {k p : Nat} {v : Int32} (h : nI 48 ≤ B p ∧ B p ≤ nI 57) : nmV B (k + 1) p v = nmV B k (p + 1) (nI 10 * v + B p - nI 48) := by rw [nmV, if_pos h]
theorem nmV_n {B : FN} {k p : Nat} {v : Int32} (h : ¬ (nI 48 ≤ B p ∧ B p ≤ nI 57)) : nmV B (k + 1) p v = (v, p) := by rw [nmV, if_neg h]
theorem drop_n {l : List Int32} {j : Nat} (h : l.drop j = []) : l.length ≤ j := List.drop_eq_nil_iff.mp h
theorem d_Tp_byteAt_0 : decode M_Tp_byteAt.2.1 0 = .ok (.iload_n 1, 1) := by decide +kernel
theorem d_Tp_byteAt_1 : decode M_Tp_byteAt.2.1 1 = .ok (.ifCond .lt 31, 3) := by decide +kernel
theorem d_Tp_byteAt_4 : decode M_Tp_byteAt.2.1 4 = .ok (.iload_n 1, 1) := by decide +kernel
theorem d_Tp_byteAt_5 : decode M_Tp_byteAt.2.1 5 = .ok (.aload_n 0, 1) := by decide +kernel
theorem d_Tp_byteAt_6 : decode M_Tp_byteAt.2.1 6 = .ok (.getfield 21, 3) := by decide +kernel
theorem d_Tp_byteAt_9 : decode M_Tp_byteAt.2.1 9 = .ok (.if_icmp .ge 23, 3) := by decide +kernel
theorem d_Tp_byteAt_12 : decode M_Tp_byteAt.2.1 12 = .ok (.iload_n 1, 1) := by decide +kernel
theorem d_Tp_byteAt_13 : decode M_Tp_byteAt.2.1 13 = .ok (.sipush 160, 3) := by decide +kernel
theorem d_Tp_byteAt_16 : decode M_Tp_byteAt.2.1 16 = .ok (.if_icmp .ge 16, 3) := by decide +kernel
theorem d_Tp_byteAt_19 : decode M_Tp_byteAt.2.1 19 = .ok (.aload_n 0, 1) := by decide +kernel
theorem d_Tp_byteAt_20 : decode M_Tp_byteAt.2.1 20 = .ok (.getfield 9, 3) := by decide +kernel
theorem d_Tp_byteAt_23 : decode M_Tp_byteAt.2.1 23 = .ok (.iload_n 1, 1) := by decide +kernel
theorem d_Tp_byteAt_24 : decode M_Tp_byteAt.2.1 24 = .ok (.baload, 1) := by decide +kernel
theorem d_Tp_byteAt_25 : decode M_Tp_byteAt.2.1 25 = .ok (.sipush 255, 3) := by decide +kernel
theorem d_Tp_byteAt_28 : decode M_Tp_byteAt.2.1 28 = .ok (.iand, 1) := by decide +kernel
theorem d_Tp_byteAt_29 : decode M_Tp_byteAt.2.1 29 = .ok (.goto 4, 3) := by decide +kernel
theorem d_Tp_byteAt_32 : decode M_Tp_byteAt.2.1 32 = .ok (.iconst (-1), 1) := by decide +kernel
theorem d_Tp_byteAt_33 : decode M_Tp_byteAt.2.1 33 = .ok (.ireturn, 1) := by decide +kernel
set_option maxHeartbeats 4000000 in
set_option maxRecDepth 100000 in
theorem ok_Tp_byteAt {D : xD} {N : Nat} {l : Launch} {d : Nat} {c x V : T2} {ln df : Nat → Option Nat} {rest : List va_E} {K : Option Value → List va_E → Prop} {tp : Nat} (htp : c 32 8 = nI tp) (h160 : tp ≤ 160) (hB : TBy c tp) {i : Nat} (hi : i < 1000000) (hK : K (some (.int (byB c tp i))) (encC D N c x V ln df ++ rest)) : Ok D N l d M_Tp_byteAt [.ref (N + 72), .int (nI i)] (encC D N c x V ln df ++ rest) 0 0 K := by
  refine ok_of (L := [(0, _), (1, _)]) (by decide) (Nat.le_of_ble_eq_true rfl) rfl ?_
  by_cases hlt : i < tp
  · skip
    refine wp_iload_n (q := 1) d_Tp_byteAt_0 rfl rfl ?_
    refine wp_if_lt_f (q := 4) (tgt := 32) d_Tp_byteAt_1 (by decide) rfl (nI_pos (by omega)) ?_
    refine wp_iload_n (q := 5) d_Tp_byteAt_4 rfl rfl ?_
    refine wp_aload_n (q := 6) d_Tp_byteAt_5 rfl rfl ?_
    refine wp_get (q := 9) fl_Tp_21 d_Tp_byteAt_6 rfl rfl rfl ?_
    rw [htp]
    refine wp_icmp_ge_f (q := 12) (tgt := 32) d_Tp_byteAt_9 (by decide) rfl (nI_ge hlt (by omega)) ?_
    refine wp_iload_n (q := 13) d_Tp_byteAt_12 rfl rfl ?_
    refine wp_sipush (q := 16) d_Tp_byteAt_13 rfl sp_160 ?_
    refine wp_icmp_ge_f (q := 19) (tgt := 32) d_Tp_byteAt_16 (by decide) rfl (nI_ge (by omega) (by decide)) ?_
    refine wp_aload_n (q := 20) d_Tp_byteAt_19 rfl rfl ?_
    refine wp_get (q := 23) fl_Tp_9 d_Tp_byteAt_20 rfl rfl rfl ?_
    refine wp_iload_n (q := 24) d_Tp_byteAt_23 rfl rfl ?_
    refine wp_bald (q := 25) d_Tp_byteAt_24 rfl (rfl) (by omega) (by decide) ?_
    refine wp_sipush (q := 28) d_Tp_byteAt_25 rfl sp_255 ?_
    refine wp_iand (q := 29) d_Tp_byteAt_28 rfl ?_
    first | rw [by256 (hB i hlt)] | (dsimp only; rw [by256 (hB i hlt)])
    refine wp_goto (tgt := 33) d_Tp_byteAt_29 (by decide) ?_
    refine wp_iret d_Tp_byteAt_33 rfl (Nat.le_refl _) (Nat.le_refl _) ?_
    unfold byB at hK; rw [if_pos hlt] at hK; exact hK
  · skip
    refine wp_iload_n (q := 1) d_Tp_byteAt_0 rfl rfl ?_
    refine wp_if_lt_f (q := 4) (tgt := 32) d_Tp_byteAt_1 (by decide) rfl (nI_pos (by omega)) ?_
    refine wp_iload_n (q := 5) d_Tp_byteAt_4 rfl rfl ?_
    refine wp_aload_n (q := 6) d_Tp_byteAt_5 rfl rfl ?_
    refine wp_get (q := 9) fl_Tp_21 d_Tp_byteAt_6 rfl rfl rfl ?_
    rw [htp]
    refine wp_icmp_ge_t (tgt := 32) d_Tp_byteAt_9 (by decide) (nI_le (by omega) (by omega)) ?_
    refine wp_iconst (q := 33) d_Tp_byteAt_32 rfl ic_m1 ?_
    refine wp_iret d_Tp_byteAt_33 rfl (Nat.le_refl _) (Nat.le_refl _) ?_
    unfold byB at hK; rw [if_neg hlt] at hK; exact hK
theorem d_Tp_parseNumber_0 : decode M_Tp_parseNumber.2.1 0 = .ok (.iconst 0, 1) := by decide +kernel
theorem d_Tp_parseNumber_1 : decode M_Tp_parseNumber.2.1 1 = .ok (.istore_n 1, 1) := by decide +kernel
theorem d_Tp_parseNumber_2 : decode M_Tp_parseNumber.2.1 2 = .ok (.iconst 0, 1) := by decide +kernel
theorem d_Tp_parseNumber_3 : decode M_Tp_parseNumber.2.1 3 = .ok (.istore_n 2, 1) := by decide +kernel
theorem d_Tp_parseNumber_4 : decode M_Tp_parseNumber.2.1 4 = .ok (.iload_n 2, 1) := by decide +kernel
theorem d_Tp_parseNumber_5 : decode M_Tp_parseNumber.2.1 5 = .ok (.iconst 4, 1) := by decide +kernel
theorem d_Tp_parseNumber_6 : decode M_Tp_parseNumber.2.1 6 = .ok (.if_icmp .ge 62, 3) := by decide +kernel
theorem d_Tp_parseNumber_9 : decode M_Tp_parseNumber.2.1 9 = .ok (.aload_n 0, 1) := by decide +kernel
theorem d_Tp_parseNumber_10 : decode M_Tp_parseNumber.2.1 10 = .ok (.aload_n 0, 1) := by decide +kernel
theorem d_Tp_parseNumber_11 : decode M_Tp_parseNumber.2.1 11 = .ok (.getfield 25, 3) := by decide +kernel
theorem d_Tp_parseNumber_14 : decode M_Tp_parseNumber.2.1 14 = .ok (.invokevirtual 35, 3) := by decide +kernel
theorem d_Tp_parseNumber_17 : decode M_Tp_parseNumber.2.1 17 = .ok (.bipush 48, 2) := by decide +kernel
theorem d_Tp_parseNumber_19 : decode M_Tp_parseNumber.2.1 19 = .ok (.if_icmp .lt 49, 3) := by decide +kernel
theorem d_Tp_parseNumber_22 : decode M_Tp_parseNumber.2.1 22 = .ok (.aload_n 0, 1) := by decide +kernel
theorem d_Tp_parseNumber_23 : decode M_Tp_parseNumber.2.1 23 = .ok (.aload_n 0, 1) := by decide +kernel
theorem d_Tp_parseNumber_24 : decode M_Tp_parseNumber.2.1 24 = .ok (.getfield 25, 3) := by decide +kernel
theorem d_Tp_parseNumber_27 : decode M_Tp_parseNumber.2.1 27 = .ok (.invokevirtual 35, 3) := by decide +kernel
theorem d_Tp_parseNumber_30 : decode M_Tp_parseNumber.2.1 30 = .ok (.bipush 57, 2) := by decide +kernel
theorem d_Tp_parseNumber_32 : decode M_Tp_parseNumber.2.1 32 = .ok (.if_icmp .gt 36, 3) := by decide +kernel
theorem d_Tp_parseNumber_35 : decode M_Tp_parseNumber.2.1 35 = .ok (.bipush 10, 2) := by decide +kernel
theorem d_Tp_parseNumber_37 : decode M_Tp_parseNumber.2.1 37 = .ok (.iload_n 1, 1) := by decide +kernel
theorem d_Tp_parseNumber_38 : decode M_Tp_parseNumber.2.1 38 = .ok (.imul, 1) := by decide +kernel
theorem d_Tp_parseNumber_39 : decode M_Tp_parseNumber.2.1 39 = .ok (.aload_n 0, 1) := by decide +kernel
theorem d_Tp_parseNumber_40 : decode M_Tp_parseNumber.2.1 40 = .ok (.aload_n 0, 1) := by decide +kernel
theorem d_Tp_parseNumber_41 : decode M_Tp_parseNumber.2.1 41 = .ok (.getfield 25, 3) := by decide +kernel
theorem d_Tp_parseNumber_44 : decode M_Tp_parseNumber.2.1 44 = .ok (.invokevirtual 35, 3) := by decide +kernel
theorem d_Tp_parseNumber_47 : decode M_Tp_parseNumber.2.1 47 = .ok (.iadd, 1) := by decide +kernel
theorem d_Tp_parseNumber_48 : decode M_Tp_parseNumber.2.1 48 = .ok (.bipush 48, 2) := by decide +kernel
theorem d_Tp_parseNumber_50 : decode M_Tp_parseNumber.2.1 50 = .ok (.isub, 1) := by decide +kernel
theorem d_Tp_parseNumber_51 : decode M_Tp_parseNumber.2.1 51 = .ok (.istore_n 1, 1) := by decide +kernel
theorem d_Tp_parseNumber_52 : decode M_Tp_parseNumber.2.1 52 = .ok (.iinc 2 1, 3) := by decide +kernel
theorem d_Tp_parseNumber_55 : decode M_Tp_parseNumber.2.1 55 = .ok (.aload_n 0, 1) := by decide +kernel
theorem d_Tp_parseNumber_56 : decode M_Tp_parseNumber.2.1 56 = .ok (.dup, 1) := by decide +kernel
theorem d_Tp_parseNumber_57 : decode M_Tp_parseNumber.2.1 57 = .ok (.getfield 25, 3) := by decide +kernel
theorem d_Tp_parseNumber_60 : decode M_Tp_parseNumber.2.1 60 = .ok (.iconst 1, 1) := by decide +kernel
theorem d_Tp_parseNumber_61 : decode M_Tp_parseNumber.2.1 61 = .ok (.iadd, 1) := by decide +kernel
theorem d_Tp_parseNumber_62 : decode M_Tp_parseNumber.2.1 62 = .ok (.putfield 25, 3) := by decide +kernel
theorem d_Tp_parseNumber_65 : decode M_Tp_parseNumber.2.1 65 = .ok (.goto (-61), 3) := by decide +kernel
theorem d_Tp_parseNumber_68 : decode M_Tp_parseNumber.2.1 68 = .ok (.iload_n 2, 1) := by decide +kernel
theorem d_Tp_parseNumber_69 : decode M_Tp_parseNumber.2.1 69 = .ok (.ifCond .ne 7, 3) := by decide +kernel
theorem d_Tp_parseNumber_72 : decode M_Tp_parseNumber.2.1 72 = .ok (.iconst (-1), 1) := by decide +kernel
theorem d_Tp_parseNumber_73 : decode M_Tp_parseNumber.2.1 73 = .ok (.goto 4, 3) := by decide +kernel
theorem d_Tp_parseNumber_76 : decode M_Tp_parseNumber.2.1 76 = .ok (.iload_n 1, 1) := by decide +kernel
theorem d_Tp_parseNumber_77 : decode M_Tp_parseNumber.2.1 77 = .ok (.ireturn, 1) := by decide +kernel
set_option maxHeartbeats 4000000 in
set_option maxRecDepth 100000 in
theorem pn_end {D : xD} {N : Nat} {l : Launch} {d : Nat} {c x V : T2} {ln df : Nat → Option Nat} {rest : List va_E} {K : Option Value → List va_E → Prop} {k : Nat} {v : Int32} (hk : k ≤ 4) (hE : K (some (.int (if k = 0 then -1 else v))) (encC D N c x V ln df ++ rest)) : Wp D N l (EI M_Tp_parseNumber) M_Tp_parseNumber (Rm (d + 1) 0 0) (Qm D N K 0 0) 0 0 68 [(2, .int (nI k)), (1, .int v), (0, .ref (N + 72))] [] (encC D N c x V ln df ++ rest) := by
  by_cases hk0 : k = 0
  · subst hk0
    refine wp_iload_n (q := 69) d_Tp_parseNumber_68 rfl rfl ?_
    refine wp_if_ne_f (q := 72) (tgt := 76) d_Tp_parseNumber_69 (by decide) rfl (nI_0) ?_
    refine wp_iconst (q := 73) d_Tp_parseNumber_72 rfl ic_m1 ?_
    refine wp_goto (tgt := 77) d_Tp_parseNumber_73 (by decide) ?_
    refine wp_iret d_Tp_parseNumber_77 rfl (Nat.le_refl _) (Nat.le_refl _) ?_
    rw [if_pos rfl] at hE; exact hE
  · skip
    refine wp_iload_n (q := 69) d_Tp_parseNumber_68 rfl rfl ?_
    refine wp_if_ne_t (tgt := 76) d_Tp_parseNumber_69 (by decide) (nI_ne0 (by omega) (by omega)) ?_
    refine wp_iload_n (q := 77) d_Tp_parseNumber_76 rfl rfl ?_
    refine wp_iret d_Tp_parseNumber_77 rfl (Nat.le_refl _) (Nat.le_refl _) ?_
    rw [if_neg hk0] at hE; exact hE
set_option maxHeartbeats 4000000 in
set_option maxRecDepth 100000 in
theorem pn_Tp_parseNumber {D : xD} {N : Nat} {l : Launch} {d : Nat} {c V : T2} {ln df : Nat → Option Nat} {rest : List va_E} {K : Option Value → List va_E → Prop} {tp : Nat} (htp : c 32 8 = nI tp) (h160 : tp ≤ 160) (hB : TBy c tp) : ∀ (f k p : Nat) (v : Int32) (x : T2), k + f = 4 → x 3 0 = nI p → p ≤ tp → K (some (.int (if k + ((nmV (byB c tp) f p v).2 - p) = 0 then -1 else (nmV (byB c tp) f p v).1))) (encC D N c (xp x (nmV (byB c tp) f p v).2) V ln df ++ rest) → Wp D N l (EI M_Tp_parseNumber) M_Tp_parseNumber (Rm (d + 1) 0 0) (Qm D N K 0 0) 0 0 4 [(2, .int (nI k)), (1, .int v), (0, .ref (N + 72))] [] (encC D N c x V ln df ++ rest) := by
  intro f
  induction f with
  | zero =>
    intro k p v x hk hx hp hE
    refine wp_iload_n (q := 5) d_Tp_parseNumber_4 rfl rfl ?_
    refine wp_iconst (q := 6) d_Tp_parseNumber_5 rfl ic_4 ?_
    refine wp_icmp_ge_t (tgt := 68) d_Tp_parseNumber_6 (by decide) (nI_le (by omega) (by omega)) ?_
    refine pn_end (by omega) ?_
    rw [nmV, Nat.sub_self, Nat.add_zero, xp_self hx] at hE
    exact hE
  | succ f ih =>
    intro k p v x hk hx hp hE
    refine wp_iload_n (q := 5) d_Tp_parseNumber_4 rfl rfl ?_
    refine wp_iconst (q := 6) d_Tp_parseNumber_5 rfl ic_4 ?_
    refine wp_icmp_ge_f (q := 9) (tgt := 68) d_Tp_parseNumber_6 (by decide) rfl (nI_ge (by omega) (by decide)) ?_
    refine wp_aload_n (q := 10) d_Tp_parseNumber_9 rfl rfl ?_
    refine wp_aload_n (q := 11) d_Tp_parseNumber_10 rfl rfl ?_
    refine wp_get (q := 14) fl_Tp_25 d_Tp_parseNumber_11 rfl rfl rfl ?_
    rw [hx]
    refine wp_cv1 (q := 17) lk_Tp_35 (ro _ _ _) d_Tp_parseNumber_14 rfl (Nat.le_of_ble_eq_true rfl) (rfl) rfl (Nat.zero_le _) (Nat.zero_le _) ?_
    refine ok_Tp_byteAt htp h160 hB (by omega) ?_
    refine wp_bipush (q := 19) d_Tp_parseNumber_17 rfl bp_48 ?_
    refine wp_icmp_lt (q := 22) (tgt := 68) d_Tp_parseNumber_19 (by decide) rfl (fun hc_19 => ?_) (fun hc_19 => ?_)
    · refine pn_end (by omega) ?_
      rw [nmV_n (fun g => le_nlt g.1 hc_19), Nat.sub_self, Nat.add_zero, xp_self hx] at hE
      exact hE
    · refine wp_aload_n (q := 23) d_Tp_parseNumber_22 rfl rfl ?_
      refine wp_aload_n (q := 24) d_Tp_parseNumber_23 rfl rfl ?_
      refine wp_get (q := 27) fl_Tp_25 d_Tp_parseNumber_24 rfl rfl rfl ?_
      rw [hx]
      refine wp_cv1 (q := 30) lk_Tp_35 (ro _ _ _) d_Tp_parseNumber_27 rfl (Nat.le_of_ble_eq_true rfl) (rfl) rfl (Nat.zero_le _) (Nat.zero_le _) ?_
      refine ok_Tp_byteAt htp h160 hB (by omega) ?_
      refine wp_bipush (q := 32) d_Tp_parseNumber_30 rfl bp_57 ?_
      refine wp_icmp_gt (q := 35) (tgt := 68) d_Tp_parseNumber_32 (by decide) rfl (fun hc_32 => ?_) (fun hc_32 => ?_)
      · refine pn_end (by omega) ?_
        rw [nmV_n (fun g => le_nlt g.2 hc_32), Nat.sub_self, Nat.add_zero, xp_self hx] at hE
        exact hE
      · refine wp_bipush (q := 37) d_Tp_parseNumber_35 rfl bp_10 ?_
        refine wp_iload_n (q := 38) d_Tp_parseNumber_37 rfl rfl ?_
        first | refine wp_imulN (q := 39) d_Tp_parseNumber_38 rfl ?_ | refine wp_imul (q := 39) d_Tp_parseNumber_38 rfl ?_
        refine wp_aload_n (q := 40) d_Tp_parseNumber_39 rfl rfl ?_
        refine wp_aload_n (q := 41) d_Tp_parseNumber_40 rfl rfl ?_
        refine wp_get (q := 44) fl_Tp_25 d_Tp_parseNumber_41 rfl rfl rfl ?_
        rw [hx]
        refine wp_cv1 (q := 47) lk_Tp_35 (ro _ _ _) d_Tp_parseNumber_44 rfl (Nat.le_of_ble_eq_true rfl) (rfl) rfl (Nat.zero_le _) (Nat.zero_le _) ?_
        refine ok_Tp_byteAt htp h160 hB (by omega) ?_
        refine wp_iadd (q := 48) d_Tp_parseNumber_47 rfl ?_
        refine wp_bipush (q := 50) d_Tp_parseNumber_48 rfl bp_48 ?_
        refine wp_isub (q := 51) d_Tp_parseNumber_50 rfl ?_
        refine wp_istore_n (q := 52) (L2 := [(1, _), (2, _), (0, _)]) d_Tp_parseNumber_51 rfl (by decide) rfl ?_
        refine wp_iinc (q := 55) (L2 := [(2, _), (1, _), (0, _)]) d_Tp_parseNumber_52 rfl rfl (iinc_1) (by decide) rfl ?_
        refine wp_aload_n (q := 56) d_Tp_parseNumber_55 rfl rfl ?_
        refine wp_dup (q := 57) d_Tp_parseNumber_56 rfl rfl ?_
        refine wp_get (q := 60) fl_Tp_25 d_Tp_parseNumber_57 rfl rfl rfl ?_
        rw [hx]
        refine wp_iconst (q := 61) d_Tp_parseNumber_60 rfl ic_1 ?_
        first | refine wp_iaddN (q := 62) d_Tp_parseNumber_61 rfl ?_ | refine wp_iadd (q := 62) d_Tp_parseNumber_61 rfl ?_
        refine wp_put (q := 65) fl_Tp_25 d_Tp_parseNumber_62 rfl rfl (Nat.le_of_ble_eq_true rfl) rfl rfl (fc_x30) ?_
        refine wp_goto (tgt := 4) d_Tp_parseNumber_65 (by decide) ?_
        rw [nmV_y ⟨nlt_le hc_19, nlt_le hc_32⟩] at hE
        refine ih (k + 1) (p + 1) _ (xp x (p + 1)) (by omega) (xp_at x (p + 1)) ?_ ?_
        · have : ¬ tp ≤ p := fun q => by rw [byB_out p q] at hc_19; exact hc_19 (by decide)
          omega
        · rw [xp_xp]
          have hge := nmV_ge (byB c tp) f (p + 1) (nI 10 * v + byB c tp p - nI 48)
          rw [show k + 1 + ((nmV (byB c tp) f (p + 1) (nI 10 * v + byB c tp p - nI 48)).2 - (p + 1)) = k + ((nmV (byB c tp) f (p + 1) (nI 10 * v + byB c tp p - nI 48)).2 - p) by omega]
          exact hE
set_option maxHeartbeats 4000000 in
set_option maxRecDepth 100000 in
theorem ok_Tp_parseNumber {D : xD} {N : Nat} {l : Launch} {d : Nat} {c x V : T2} {ln df : Nat → Option Nat} {rest : List va_E} {K : Option Value → List va_E → Prop} {tp : Nat} (htp : c 32 8 = nI tp) (h160 : tp ≤ 160) (hB : TBy c tp) {p : Nat} (hx : x 3 0 = nI p) (hp : p ≤ tp) (hK : K (some (.int (spN (byB c tp) p).1)) (encC D N c (xp x (spN (byB c tp) p).2) V ln df ++ rest)) : Ok D N l (d + 1) M_Tp_parseNumber [.ref (N + 72)] (encC D N c x V ln df ++ rest) 0 0 K := by
  refine ok_of (L := [(0, _)]) (by decide) (Nat.le_of_ble_eq_true rfl) rfl ?_
  refine wp_iconst (q := 1) d_Tp_parseNumber_0 rfl ic_0 ?_
  refine wp_istore_n (q := 2) (L2 := [(1, _), (0, _)]) d_Tp_parseNumber_1 rfl (by decide) rfl ?_
  refine wp_iconst (q := 3) d_Tp_parseNumber_2 rfl ic_0 ?_
  refine wp_istore_n (q := 4) (L2 := [(2, _), (1, _), (0, _)]) d_Tp_parseNumber_3 rfl (by decide) rfl ?_
  refine pn_Tp_parseNumber htp h160 hB 4 0 p (nI 0) x (by decide) hx hp ?_
  unfold spN at hK
  have hge := nmV_ge (byB c tp) 4 p (nI 0)
  by_cases e : (nmV (byB c tp) 4 p (nI 0)).2 = p
  · rw [if_pos e] at hK
    rw [if_pos (by omega), e]
    exact hK
  · rw [if_neg e] at hK
    rw [if_neg (by omega)]
    exact hK
theorem d_Tp_parseWord_0 : decode M_Tp_parseWord.2.1 0 = .ok (.iconst 0, 1) := by decide +kernel
theorem d_Tp_parseWord_1 : decode M_Tp_parseWord.2.1 1 = .ok (.istore_n 2, 1) := by decide +kernel
theorem d_Tp_parseWord_2 : decode M_Tp_parseWord.2.1 2 = .ok (.iconst 0, 1) := by decide +kernel
theorem d_Tp_parseWord_3 : decode M_Tp_parseWord.2.1 3 = .ok (.istore_n 3, 1) := by decide +kernel
theorem d_Tp_parseWord_4 : decode M_Tp_parseWord.2.1 4 = .ok (.iconst 0, 1) := by decide +kernel
theorem d_Tp_parseWord_5 : decode M_Tp_parseWord.2.1 5 = .ok (.istore 4, 2) := by decide +kernel
theorem d_Tp_parseWord_7 : decode M_Tp_parseWord.2.1 7 = .ok (.iconst 1, 1) := by decide +kernel
theorem d_Tp_parseWord_8 : decode M_Tp_parseWord.2.1 8 = .ok (.istore 5, 2) := by decide +kernel
theorem d_Tp_parseWord_10 : decode M_Tp_parseWord.2.1 10 = .ok (.iconst 0, 1) := by decide +kernel
theorem d_Tp_parseWord_11 : decode M_Tp_parseWord.2.1 11 = .ok (.istore 6, 2) := by decide +kernel
theorem d_Tp_parseWord_13 : decode M_Tp_parseWord.2.1 13 = .ok (.iload 6, 2) := by decide +kernel
theorem d_Tp_parseWord_15 : decode M_Tp_parseWord.2.1 15 = .ok (.aload_n 1, 1) := by decide +kernel
theorem d_Tp_parseWord_16 : decode M_Tp_parseWord.2.1 16 = .ok (.invokevirtual 71, 3) := by decide +kernel
theorem d_Tp_parseWord_19 : decode M_Tp_parseWord.2.1 19 = .ok (.if_icmp .ge 96, 3) := by decide +kernel
theorem d_Tp_parseWord_22 : decode M_Tp_parseWord.2.1 22 = .ok (.aload_n 1, 1) := by decide +kernel
theorem d_Tp_parseWord_23 : decode M_Tp_parseWord.2.1 23 = .ok (.iload 6, 2) := by decide +kernel
theorem d_Tp_parseWord_25 : decode M_Tp_parseWord.2.1 25 = .ok (.invokevirtual 75, 3) := by decide +kernel
theorem d_Tp_parseWord_28 : decode M_Tp_parseWord.2.1 28 = .ok (.istore 7, 2) := by decide +kernel
theorem d_Tp_parseWord_30 : decode M_Tp_parseWord.2.1 30 = .ok (.iload 7, 2) := by decide +kernel
theorem d_Tp_parseWord_32 : decode M_Tp_parseWord.2.1 32 = .ok (.bipush 32, 2) := by decide +kernel
theorem d_Tp_parseWord_34 : decode M_Tp_parseWord.2.1 34 = .ok (.if_icmp .ne 20, 3) := by decide +kernel
theorem d_Tp_parseWord_37 : decode M_Tp_parseWord.2.1 37 = .ok (.iload 5, 2) := by decide +kernel
theorem d_Tp_parseWord_39 : decode M_Tp_parseWord.2.1 39 = .ok (.ifCond .eq 15, 3) := by decide +kernel
theorem d_Tp_parseWord_42 : decode M_Tp_parseWord.2.1 42 = .ok (.aload_n 0, 1) := by decide +kernel
theorem d_Tp_parseWord_43 : decode M_Tp_parseWord.2.1 43 = .ok (.dup, 1) := by decide +kernel
theorem d_Tp_parseWord_44 : decode M_Tp_parseWord.2.1 44 = .ok (.getfield 25, 3) := by decide +kernel
theorem d_Tp_parseWord_47 : decode M_Tp_parseWord.2.1 47 = .ok (.iload_n 3, 1) := by decide +kernel
theorem d_Tp_parseWord_48 : decode M_Tp_parseWord.2.1 48 = .ok (.iadd, 1) := by decide +kernel
theorem d_Tp_parseWord_49 : decode M_Tp_parseWord.2.1 49 = .ok (.putfield 25, 3) := by decide +kernel
theorem d_Tp_parseWord_52 : decode M_Tp_parseWord.2.1 52 = .ok (.iload_n 2, 1) := by decide +kernel
theorem d_Tp_parseWord_53 : decode M_Tp_parseWord.2.1 53 = .ok (.ireturn, 1) := by decide +kernel
theorem d_Tp_parseWord_54 : decode M_Tp_parseWord.2.1 54 = .ok (.iload 7, 2) := by decide +kernel
theorem d_Tp_parseWord_56 : decode M_Tp_parseWord.2.1 56 = .ok (.bipush 32, 2) := by decide +kernel
theorem d_Tp_parseWord_58 : decode M_Tp_parseWord.2.1 58 = .ok (.if_icmp .ne 14, 3) := by decide +kernel
theorem d_Tp_parseWord_61 : decode M_Tp_parseWord.2.1 61 = .ok (.iinc 2 1, 3) := by decide +kernel
theorem d_Tp_parseWord_64 : decode M_Tp_parseWord.2.1 64 = .ok (.iconst 0, 1) := by decide +kernel
theorem d_Tp_parseWord_65 : decode M_Tp_parseWord.2.1 65 = .ok (.istore_n 3, 1) := by decide +kernel
theorem d_Tp_parseWord_66 : decode M_Tp_parseWord.2.1 66 = .ok (.iconst 1, 1) := by decide +kernel
theorem d_Tp_parseWord_67 : decode M_Tp_parseWord.2.1 67 = .ok (.istore 5, 2) := by decide +kernel
theorem d_Tp_parseWord_69 : decode M_Tp_parseWord.2.1 69 = .ok (.goto 40, 3) := by decide +kernel
theorem d_Tp_parseWord_72 : decode M_Tp_parseWord.2.1 72 = .ok (.iload 5, 2) := by decide +kernel
theorem d_Tp_parseWord_74 : decode M_Tp_parseWord.2.1 74 = .ok (.ifCond .eq 32, 3) := by decide +kernel
theorem d_Tp_parseWord_77 : decode M_Tp_parseWord.2.1 77 = .ok (.aload_n 0, 1) := by decide +kernel
theorem d_Tp_parseWord_78 : decode M_Tp_parseWord.2.1 78 = .ok (.aload_n 0, 1) := by decide +kernel
theorem d_Tp_parseWord_79 : decode M_Tp_parseWord.2.1 79 = .ok (.getfield 25, 3) := by decide +kernel
theorem d_Tp_parseWord_82 : decode M_Tp_parseWord.2.1 82 = .ok (.iload_n 3, 1) := by decide +kernel
theorem d_Tp_parseWord_83 : decode M_Tp_parseWord.2.1 83 = .ok (.iadd, 1) := by decide +kernel
theorem d_Tp_parseWord_84 : decode M_Tp_parseWord.2.1 84 = .ok (.invokevirtual 35, 3) := by decide +kernel
theorem d_Tp_parseWord_87 : decode M_Tp_parseWord.2.1 87 = .ok (.iload 7, 2) := by decide +kernel
theorem d_Tp_parseWord_89 : decode M_Tp_parseWord.2.1 89 = .ok (.if_icmp .ne 17, 3) := by decide +kernel
theorem d_Tp_parseWord_92 : decode M_Tp_parseWord.2.1 92 = .ok (.iinc 3 1, 3) := by decide +kernel
theorem d_Tp_parseWord_95 : decode M_Tp_parseWord.2.1 95 = .ok (.iload 4, 2) := by decide +kernel
theorem d_Tp_parseWord_97 : decode M_Tp_parseWord.2.1 97 = .ok (.iload_n 3, 1) := by decide +kernel
theorem d_Tp_parseWord_98 : decode M_Tp_parseWord.2.1 98 = .ok (.invokestatic 79, 3) := by decide +kernel
theorem d_Tp_parseWord_101 : decode M_Tp_parseWord.2.1 101 = .ok (.istore 4, 2) := by decide +kernel
theorem d_Tp_parseWord_103 : decode M_Tp_parseWord.2.1 103 = .ok (.goto 6, 3) := by decide +kernel
theorem d_Tp_parseWord_106 : decode M_Tp_parseWord.2.1 106 = .ok (.iconst 0, 1) := by decide +kernel
theorem d_Tp_parseWord_107 : decode M_Tp_parseWord.2.1 107 = .ok (.istore 5, 2) := by decide +kernel
theorem d_Tp_parseWord_109 : decode M_Tp_parseWord.2.1 109 = .ok (.iinc 6 1, 3) := by decide +kernel
theorem d_Tp_parseWord_112 : decode M_Tp_parseWord.2.1 112 = .ok (.goto (-99), 3) := by decide +kernel
theorem d_Tp_parseWord_115 : decode M_Tp_parseWord.2.1 115 = .ok (.aload_n 0, 1) := by decide +kernel
theorem d_Tp_parseWord_116 : decode M_Tp_parseWord.2.1 116 = .ok (.dup, 1) := by decide +kernel
theorem d_Tp_parseWord_117 : decode M_Tp_parseWord.2.1 117 = .ok (.getfield 25, 3) := by decide +kernel
theorem d_Tp_parseWord_120 : decode M_Tp_parseWord.2.1 120 = .ok (.iload 4, 2) := by decide +kernel
theorem d_Tp_parseWord_122 : decode M_Tp_parseWord.2.1 122 = .ok (.iadd, 1) := by decide +kernel
theorem d_Tp_parseWord_123 : decode M_Tp_parseWord.2.1 123 = .ok (.putfield 25, 3) := by decide +kernel
theorem d_Tp_parseWord_126 : decode M_Tp_parseWord.2.1 126 = .ok (.iconst (-1), 1) := by decide +kernel
theorem d_Tp_parseWord_127 : decode M_Tp_parseWord.2.1 127 = .ok (.ireturn, 1) := by decide +kernel
set_option maxHeartbeats 4000000 in
set_option maxRecDepth 100000 in
theorem pw_Tp_parseWord {D : xD} {N : Nat} {l : Launch} {d : Nat} {c x V : T2} {ln df : Nat → Option Nat} {rest : List va_E} {K : Option Value → List va_E → Prop} {tp : Nat} (htp : c 32 8 = nI tp) (h160 : tp ≤ 160) (hB : TBy c tp) {i p : Nat} (hi : i < 2) (hx : x 3 0 = nI p) (hp : p ≤ tp) : ∀ (cs : List Int32) (j wh al mo : Nat) (sm : Bool), (txtB.getD i []).drop j = cs → al ≤ j → mo ≤ j → j ≤ 47 → K (some (.int (pw (byB c tp) p cs wh al mo sm).1)) (encC D N c (xp x (pw (byB c tp) p cs wh al mo sm).2) V ln df ++ rest) → Wp D N l (EI M_Tp_parseWord) M_Tp_parseWord (Rm (d + 4) 0 0) (Qm D N K 0 0) 0 0 13 [(6, .int (nI j)), (5, .int (nI (if sm = true then 1 else 0))), (4, .int (nI mo)), (3, .int (nI al)), (2, .int (nI wh)), (0, .ref (N + 72)), (1, .ref (D.2.2.2.1 i))] [] (encC D N c x V ln df ++ rest) := by
  intro cs
  induction cs with
  | nil =>
    intro j wh al mo sm hdr hal hmo h47 hE
    have hlen := drop_n hdr
    rw [← tl_len i hi] at hlen
    have htl := tl_lt i hi
    refine wp_iload (q := 15) d_Tp_parseWord_13 rfl rfl ?_
    refine wp_aload_n (q := 16) d_Tp_parseWord_15 rfl rfl ?_
    refine wp_callVS (q := 19) [] lk_Tp_71 rfl hi (ro _ _ _) d_Tp_parseWord_16 rfl rfl rfl (Nat.le_of_ble_eq_true rfl) (Nat.zero_le _) (Nat.zero_le _) ?_
    refine ok_JS_length hi ?_
    refine wp_icmp_ge_t (tgt := 115) d_Tp_parseWord_19 (by decide) (nI_le hlen (by omega)) ?_
    refine wp_aload_n (q := 116) d_Tp_parseWord_115 rfl rfl ?_
    refine wp_dup (q := 117) d_Tp_parseWord_116 rfl rfl ?_
    refine wp_get (q := 120) fl_Tp_25 d_Tp_parseWord_117 rfl rfl rfl ?_
    rw [hx]
    refine wp_iload (q := 122) d_Tp_parseWord_120 rfl rfl ?_
    first | refine wp_iaddN (q := 123) d_Tp_parseWord_122 rfl ?_ | refine wp_iadd (q := 123) d_Tp_parseWord_122 rfl ?_
    refine wp_put (q := 126) fl_Tp_25 d_Tp_parseWord_123 rfl rfl (Nat.le_of_ble_eq_true rfl) rfl rfl (fc_x30) ?_
    refine wp_iconst (q := 127) d_Tp_parseWord_126 rfl ic_m1 ?_
    refine wp_iret d_Tp_parseWord_127 rfl (Nat.le_refl _) (Nat.le_refl _) ?_
    rw [pw] at hE
    exact hE
  | cons ch cs ih =>
    intro j wh al mo sm hdr hal hmo h47 hE
    obtain ⟨h1, ech, hdr⟩ := drop_c hdr
    have hjl : j < txtLen.getD i 0 := by rw [tl_len i hi]; exact h1
    have htl := tl_lt i hi
    have ech : chT i j = ch := ech
    by_cases e32 : ch = nI 32
    · cases sm with
      | true =>
        refine wp_iload (q := 15) d_Tp_parseWord_13 rfl rfl ?_
        refine wp_aload_n (q := 16) d_Tp_parseWord_15 rfl rfl ?_
        refine wp_callVS (q := 19) [] lk_Tp_71 rfl hi (ro _ _ _) d_Tp_parseWord_16 rfl rfl rfl (Nat.le_of_ble_eq_true rfl) (Nat.zero_le _) (Nat.zero_le _) ?_
        refine ok_JS_length hi ?_
        refine wp_icmp_ge_f (q := 22) (tgt := 115) d_Tp_parseWord_19 (by decide) rfl (nI_ge hjl (by have := tl_lt i hi; omega)) ?_
        refine wp_aload_n (q := 23) d_Tp_parseWord_22 rfl rfl ?_
        refine wp_iload (q := 25) d_Tp_parseWord_23 rfl rfl ?_
        refine wp_callVS (q := 28) [.int (nI j)] lk_Tp_75 rfl hi (ro _ _ _) d_Tp_parseWord_25 rfl rfl rfl (Nat.le_of_ble_eq_true rfl) (Nat.zero_le _) (Nat.zero_le _) ?_
        refine ok_JS_charAt hi hjl ?_
        rw [ech]
        refine wp_istore (q := 30) (L2 := [(7, _), (6, _), (5, _), (4, _), (3, _), (2, _), (0, _), (1, _)]) d_Tp_parseWord_28 rfl (by decide) rfl ?_
        refine wp_iload (q := 32) d_Tp_parseWord_30 rfl rfl ?_
        refine wp_bipush (q := 34) d_Tp_parseWord_32 rfl bp_32 ?_
        refine wp_icmp_ne_f (q := 37) (tgt := 54) d_Tp_parseWord_34 (by decide) rfl (e32) ?_
        refine wp_iload (q := 39) d_Tp_parseWord_37 rfl rfl ?_
        refine wp_if_eq_f (q := 42) (tgt := 54) d_Tp_parseWord_39 (by decide) rfl (by decide) ?_
        refine wp_aload_n (q := 43) d_Tp_parseWord_42 rfl rfl ?_
        refine wp_dup (q := 44) d_Tp_parseWord_43 rfl rfl ?_
        refine wp_get (q := 47) fl_Tp_25 d_Tp_parseWord_44 rfl rfl rfl ?_
        rw [hx]
        refine wp_iload_n (q := 48) d_Tp_parseWord_47 rfl rfl ?_
        first | refine wp_iaddN (q := 49) d_Tp_parseWord_48 rfl ?_ | refine wp_iadd (q := 49) d_Tp_parseWord_48 rfl ?_
        refine wp_put (q := 52) fl_Tp_25 d_Tp_parseWord_49 rfl rfl (Nat.le_of_ble_eq_true rfl) rfl rfl (fc_x30) ?_
        refine wp_iload_n (q := 53) d_Tp_parseWord_52 rfl rfl ?_
        refine wp_iret d_Tp_parseWord_53 rfl (Nat.le_refl _) (Nat.le_refl _) ?_
        rw [pw, if_pos e32, if_pos rfl] at hE
        exact hE
      | false =>
        refine wp_iload (q := 15) d_Tp_parseWord_13 rfl rfl ?_
        refine wp_aload_n (q := 16) d_Tp_parseWord_15 rfl rfl ?_
        refine wp_callVS (q := 19) [] lk_Tp_71 rfl hi (ro _ _ _) d_Tp_parseWord_16 rfl rfl rfl (Nat.le_of_ble_eq_true rfl) (Nat.zero_le _) (Nat.zero_le _) ?_
        refine ok_JS_length hi ?_
        refine wp_icmp_ge_f (q := 22) (tgt := 115) d_Tp_parseWord_19 (by decide) rfl (nI_ge hjl (by have := tl_lt i hi; omega)) ?_
        refine wp_aload_n (q := 23) d_Tp_parseWord_22 rfl rfl ?_
        refine wp_iload (q := 25) d_Tp_parseWord_23 rfl rfl ?_
        refine wp_callVS (q := 28) [.int (nI j)] lk_Tp_75 rfl hi (ro _ _ _) d_Tp_parseWord_25 rfl rfl rfl (Nat.le_of_ble_eq_true rfl) (Nat.zero_le _) (Nat.zero_le _) ?_
        refine ok_JS_charAt hi hjl ?_
        rw [ech]
        refine wp_istore (q := 30) (L2 := [(7, _), (6, _), (5, _), (4, _), (3, _), (2, _), (0, _), (1, _)]) d_Tp_parseWord_28 rfl (by decide) rfl ?_
        refine wp_iload (q := 32) d_Tp_parseWord_30 rfl rfl ?_
        refine wp_bipush (q := 34) d_Tp_parseWord_32 rfl bp_32 ?_
        refine wp_icmp_ne_f (q := 37) (tgt := 54) d_Tp_parseWord_34 (by decide) rfl (e32) ?_
        refine wp_iload (q := 39) d_Tp_parseWord_37 rfl rfl ?_
        refine wp_if_eq_t (tgt := 54) d_Tp_parseWord_39 (by decide) (by decide) ?_
        refine wp_iload (q := 56) d_Tp_parseWord_54 rfl rfl ?_
        refine wp_bipush (q := 58) d_Tp_parseWord_56 rfl bp_32 ?_
        refine wp_icmp_ne_f (q := 61) (tgt := 72) d_Tp_parseWord_58 (by decide) rfl (e32) ?_
        refine wp_iinc (q := 64) (L2 := [(2, _), (7, _), (6, _), (5, _), (4, _), (3, _), (0, _), (1, _)]) d_Tp_parseWord_61 rfl rfl (iinc_1) (by decide) rfl ?_
        refine wp_iconst (q := 65) d_Tp_parseWord_64 rfl ic_0 ?_
        refine wp_istore_n (q := 66) (L2 := [(3, _), (2, _), (7, _), (6, _), (5, _), (4, _), (0, _), (1, _)]) d_Tp_parseWord_65 rfl (by decide) rfl ?_
        refine wp_iconst (q := 67) d_Tp_parseWord_66 rfl ic_1 ?_
        refine wp_istore (q := 69) (L2 := [(5, _), (3, _), (2, _), (7, _), (6, _), (4, _), (0, _), (1, _)]) d_Tp_parseWord_67 rfl (by decide) rfl ?_
        refine wp_goto (tgt := 109) d_Tp_parseWord_69 (by decide) ?_
        refine wp_iinc (q := 112) (L2 := [(6, _), (5, _), (3, _), (2, _), (7, _), (4, _), (0, _), (1, _)]) d_Tp_parseWord_109 rfl rfl (iinc_1) (by decide) rfl ?_
        refine wp_goto (tgt := 13) d_Tp_parseWord_112 (by decide) ?_
        refine wp_sub [0, 1, 5, 2, 3, 6, 7] rfl ?_
        rw [pw, if_pos e32, if_neg (by decide)] at hE
        exact ih (j + 1) (wh + 1) 0 mo true hdr (by omega) (by omega) (by omega) hE
    · cases sm with
      | true =>
        by_cases hb : byB c tp (p + al) = ch
        · skip
          refine wp_iload (q := 15) d_Tp_parseWord_13 rfl rfl ?_
          refine wp_aload_n (q := 16) d_Tp_parseWord_15 rfl rfl ?_
          refine wp_callVS (q := 19) [] lk_Tp_71 rfl hi (ro _ _ _) d_Tp_parseWord_16 rfl rfl rfl (Nat.le_of_ble_eq_true rfl) (Nat.zero_le _) (Nat.zero_le _) ?_
          refine ok_JS_length hi ?_
          refine wp_icmp_ge_f (q := 22) (tgt := 115) d_Tp_parseWord_19 (by decide) rfl (nI_ge hjl (by have := tl_lt i hi; omega)) ?_
          refine wp_aload_n (q := 23) d_Tp_parseWord_22 rfl rfl ?_
          refine wp_iload (q := 25) d_Tp_parseWord_23 rfl rfl ?_
          refine wp_callVS (q := 28) [.int (nI j)] lk_Tp_75 rfl hi (ro _ _ _) d_Tp_parseWord_25 rfl rfl rfl (Nat.le_of_ble_eq_true rfl) (Nat.zero_le _) (Nat.zero_le _) ?_
          refine ok_JS_charAt hi hjl ?_
          rw [ech]
          refine wp_istore (q := 30) (L2 := [(7, _), (6, _), (5, _), (4, _), (3, _), (2, _), (0, _), (1, _)]) d_Tp_parseWord_28 rfl (by decide) rfl ?_
          refine wp_iload (q := 32) d_Tp_parseWord_30 rfl rfl ?_
          refine wp_bipush (q := 34) d_Tp_parseWord_32 rfl bp_32 ?_
          refine wp_icmp_ne_t (tgt := 54) d_Tp_parseWord_34 (by decide) (e32) ?_
          refine wp_iload (q := 56) d_Tp_parseWord_54 rfl rfl ?_
          refine wp_bipush (q := 58) d_Tp_parseWord_56 rfl bp_32 ?_
          refine wp_icmp_ne_t (tgt := 72) d_Tp_parseWord_58 (by decide) (e32) ?_
          refine wp_iload (q := 74) d_Tp_parseWord_72 rfl rfl ?_
          refine wp_if_eq_f (q := 77) (tgt := 106) d_Tp_parseWord_74 (by decide) rfl (by decide) ?_
          refine wp_aload_n (q := 78) d_Tp_parseWord_77 rfl rfl ?_
          refine wp_aload_n (q := 79) d_Tp_parseWord_78 rfl rfl ?_
          refine wp_get (q := 82) fl_Tp_25 d_Tp_parseWord_79 rfl rfl rfl ?_
          rw [hx]
          refine wp_iload_n (q := 83) d_Tp_parseWord_82 rfl rfl ?_
          first | refine wp_iaddN (q := 84) d_Tp_parseWord_83 rfl ?_ | refine wp_iadd (q := 84) d_Tp_parseWord_83 rfl ?_
          refine wp_cv1 (q := 87) lk_Tp_35 (ro _ _ _) d_Tp_parseWord_84 rfl (Nat.le_of_ble_eq_true rfl) (rfl) rfl (Nat.zero_le _) (Nat.zero_le _) ?_
          refine ok_Tp_byteAt htp h160 hB (by omega) ?_
          refine wp_iload (q := 89) d_Tp_parseWord_87 rfl rfl ?_
          refine wp_icmp_ne_f (q := 92) (tgt := 106) d_Tp_parseWord_89 (by decide) rfl (hb) ?_
          refine wp_iinc (q := 95) (L2 := [(3, _), (7, _), (6, _), (5, _), (4, _), (2, _), (0, _), (1, _)]) d_Tp_parseWord_92 rfl rfl (iinc_1) (by decide) rfl ?_
          refine wp_iload (q := 97) d_Tp_parseWord_95 rfl rfl ?_
          refine wp_iload_n (q := 98) d_Tp_parseWord_97 rfl rfl ?_
          refine wp_mmax km_Tp_79 (RO0 ()) d_Tp_parseWord_98 rfl (Nat.le_of_ble_eq_true rfl) (Nat.zero_le _) (Nat.zero_le _) ?_
          rw [mx_nI (by omega) (by omega)]
          refine wp_istore (q := 103) (L2 := [(4, _), (3, _), (7, _), (6, _), (5, _), (2, _), (0, _), (1, _)]) d_Tp_parseWord_101 rfl (by decide) rfl ?_
          refine wp_goto (tgt := 109) d_Tp_parseWord_103 (by decide) ?_
          refine wp_iinc (q := 112) (L2 := [(6, _), (4, _), (3, _), (7, _), (5, _), (2, _), (0, _), (1, _)]) d_Tp_parseWord_109 rfl rfl (iinc_1) (by decide) rfl ?_
          refine wp_goto (tgt := 13) d_Tp_parseWord_112 (by decide) ?_
          refine wp_sub [0, 4, 1, 2, 5, 6, 7] rfl ?_
          rw [pw, if_neg e32, if_pos ⟨rfl, hb⟩] at hE
          exact ih (j + 1) wh (al + 1) _ true hdr (by omega) (by split <;> omega) (by omega) hE
        · skip
          refine wp_iload (q := 15) d_Tp_parseWord_13 rfl rfl ?_
          refine wp_aload_n (q := 16) d_Tp_parseWord_15 rfl rfl ?_
          refine wp_callVS (q := 19) [] lk_Tp_71 rfl hi (ro _ _ _) d_Tp_parseWord_16 rfl rfl rfl (Nat.le_of_ble_eq_true rfl) (Nat.zero_le _) (Nat.zero_le _) ?_
          refine ok_JS_length hi ?_
          refine wp_icmp_ge_f (q := 22) (tgt := 115) d_Tp_parseWord_19 (by decide) rfl (nI_ge hjl (by have := tl_lt i hi; omega)) ?_
          refine wp_aload_n (q := 23) d_Tp_parseWord_22 rfl rfl ?_
          refine wp_iload (q := 25) d_Tp_parseWord_23 rfl rfl ?_
          refine wp_callVS (q := 28) [.int (nI j)] lk_Tp_75 rfl hi (ro _ _ _) d_Tp_parseWord_25 rfl rfl rfl (Nat.le_of_ble_eq_true rfl) (Nat.zero_le _) (Nat.zero_le _) ?_
          refine ok_JS_charAt hi hjl ?_
          rw [ech]
          refine wp_istore (q := 30) (L2 := [(7, _), (6, _), (5, _), (4, _), (3, _), (2, _), (0, _), (1, _)]) d_Tp_parseWord_28 rfl (by decide) rfl ?_
          refine wp_iload (q := 32) d_Tp_parseWord_30 rfl rfl ?_
          refine wp_bipush (q := 34) d_Tp_parseWord_32 rfl bp_32 ?_
          refine wp_icmp_ne_t (tgt := 54) d_Tp_parseWord_34 (by decide) (e32) ?_
          refine wp_iload (q := 56) d_Tp_parseWord_54 rfl rfl ?_
          refine wp_bipush (q := 58) d_Tp_parseWord_56 rfl bp_32 ?_
          refine wp_icmp_ne_t (tgt := 72) d_Tp_parseWord_58 (by decide) (e32) ?_
          refine wp_iload (q := 74) d_Tp_parseWord_72 rfl rfl ?_
          refine wp_if_eq_f (q := 77) (tgt := 106) d_Tp_parseWord_74 (by decide) rfl (by decide) ?_
          refine wp_aload_n (q := 78) d_Tp_parseWord_77 rfl rfl ?_
          refine wp_aload_n (q := 79) d_Tp_parseWord_78 rfl rfl ?_
          refine wp_get (q := 82) fl_Tp_25 d_Tp_parseWord_79 rfl rfl rfl ?_
          rw [hx]
          refine wp_iload_n (q := 83) d_Tp_parseWord_82 rfl rfl ?_
          first | refine wp_iaddN (q := 84) d_Tp_parseWord_83 rfl ?_ | refine wp_iadd (q := 84) d_Tp_parseWord_83 rfl ?_
          refine wp_cv1 (q := 87) lk_Tp_35 (ro _ _ _) d_Tp_parseWord_84 rfl (Nat.le_of_ble_eq_true rfl) (rfl) rfl (Nat.zero_le _) (Nat.zero_le _) ?_
          refine ok_Tp_byteAt htp h160 hB (by omega) ?_
          refine wp_iload (q := 89) d_Tp_parseWord_87 rfl rfl ?_
          refine wp_icmp_ne_t (tgt := 106) d_Tp_parseWord_89 (by decide) (hb) ?_
          refine wp_iconst (q := 107) d_Tp_parseWord_106 rfl ic_0 ?_
          refine wp_istore (q := 109) (L2 := [(5, _), (7, _), (6, _), (4, _), (3, _), (2, _), (0, _), (1, _)]) d_Tp_parseWord_107 rfl (by decide) rfl ?_
          refine wp_iinc (q := 112) (L2 := [(6, _), (5, _), (7, _), (4, _), (3, _), (2, _), (0, _), (1, _)]) d_Tp_parseWord_109 rfl rfl (iinc_1) (by decide) rfl ?_
          refine wp_goto (tgt := 13) d_Tp_parseWord_112 (by decide) ?_
          refine wp_sub [0, 1, 3, 4, 5, 6, 7] rfl ?_
          rw [pw, if_neg e32, if_neg (fun g => hb g.2)] at hE
          exact ih (j + 1) wh al mo false hdr (by omega) (by omega) (by omega) hE
      | false =>
        refine wp_iload (q := 15) d_Tp_parseWord_13 rfl rfl ?_
        refine wp_aload_n (q := 16) d_Tp_parseWord_15 rfl rfl ?_
        refine wp_callVS (q := 19) [] lk_Tp_71 rfl hi (ro _ _ _) d_Tp_parseWord_16 rfl rfl rfl (Nat.le_of_ble_eq_true rfl) (Nat.zero_le _) (Nat.zero_le _) ?_
        refine ok_JS_length hi ?_
        refine wp_icmp_ge_f (q := 22) (tgt := 115) d_Tp_parseWord_19 (by decide) rfl (nI_ge hjl (by have := tl_lt i hi; omega)) ?_
        refine wp_aload_n (q := 23) d_Tp_parseWord_22 rfl rfl ?_
        refine wp_iload (q := 25) d_Tp_parseWord_23 rfl rfl ?_
        refine wp_callVS (q := 28) [.int (nI j)] lk_Tp_75 rfl hi (ro _ _ _) d_Tp_parseWord_25 rfl rfl rfl (Nat.le_of_ble_eq_true rfl) (Nat.zero_le _) (Nat.zero_le _) ?_
        refine ok_JS_charAt hi hjl ?_
        rw [ech]
        refine wp_istore (q := 30) (L2 := [(7, _), (6, _), (5, _), (4, _), (3, _), (2, _), (0, _), (1, _)]) d_Tp_parseWord_28 rfl (by decide) rfl ?_
        refine wp_iload (q := 32) d_Tp_parseWord_30 rfl rfl ?_
        refine wp_bipush (q := 34) d_Tp_parseWord_32 rfl bp_32 ?_
        refine wp_icmp_ne_t (tgt := 54) d_Tp_parseWord_34 (by decide) (e32) ?_
        refine wp_iload (q := 56) d_Tp_parseWord_54 rfl rfl ?_
        refine wp_bipush (q := 58) d_Tp_parseWord_56 rfl bp_32 ?_
        refine wp_icmp_ne_t (tgt := 72) d_Tp_parseWord_58 (by decide) (e32) ?_
        refine wp_iload (q := 74) d_Tp_parseWord_72 rfl rfl ?_
        refine wp_if_eq_t (tgt := 106) d_Tp_parseWord_74 (by decide) (by decide) ?_
        refine wp_iconst (q := 107) d_Tp_parseWord_106 rfl ic_0 ?_
        refine wp_istore (q := 109) (L2 := [(5, _), (7, _), (6, _), (4, _), (3, _), (2, _), (0, _), (1, _)]) d_Tp_parseWord_107 rfl (by decide) rfl ?_
        refine wp_iinc (q := 112) (L2 := [(6, _), (5, _), (7, _), (4, _), (3, _), (2, _), (0, _), (1, _)]) d_Tp_parseWord_109 rfl rfl (iinc_1) (by decide) rfl ?_
        refine wp_goto (tgt := 13) d_Tp_parseWord_112 (by decide) ?_
        refine wp_sub [0, 1, 3, 4, 5, 6, 7] rfl ?_
        rw [pw, if_neg e32, if_neg (fun g => absurd g.1 (by decide))] at hE
        exact ih (j + 1) wh al mo false hdr (by omega) (by omega) (by omega) hE
set_option maxHeartbeats 4000000 in
set_option maxRecDepth 100000 in
theorem ok_Tp_parseWord_K {D : xD} {N : Nat} {l : Launch} {d : Nat} {c x V : T2} {ln df : Nat → Option Nat} {rest : List va_E} {K : Option Value → List va_E → Prop} {tp : Nat} (htp : c 32 8 = nI tp) (h160 : tp ≤ 160) (hB : TBy c tp) {p : Nat} (hx : x 3 0 = nI p) (hp : p ≤ tp) (hK : K (some (.int (wdK (byB c tp) p).1)) (encC D N c (xp x (wdK (byB c tp) p).2) V ln df ++ rest)) : Ok D N l (d + 4) M_Tp_parseWord [.ref (N + 72), .ref (D.2.2.2.1 0)] (encC D N c x V ln df ++ rest) 0 0 K := by
  refine ok_of (L := [(0, _), (1, _)]) (by decide) (Nat.le_of_ble_eq_true rfl) rfl ?_
  refine wp_iconst (q := 1) d_Tp_parseWord_0 rfl ic_0 ?_
  refine wp_istore_n (q := 2) (L2 := [(2, _), (0, _), (1, _)]) d_Tp_parseWord_1 rfl (by decide) rfl ?_
  refine wp_iconst (q := 3) d_Tp_parseWord_2 rfl ic_0 ?_
  refine wp_istore_n (q := 4) (L2 := [(3, _), (2, _), (0, _), (1, _)]) d_Tp_parseWord_3 rfl (by decide) rfl ?_
  refine wp_iconst (q := 5) d_Tp_parseWord_4 rfl ic_0 ?_
  refine wp_istore (q := 7) (L2 := [(4, _), (3, _), (2, _), (0, _), (1, _)]) d_Tp_parseWord_5 rfl (by decide) rfl ?_
  refine wp_iconst (q := 8) d_Tp_parseWord_7 rfl ic_1 ?_
  refine wp_istore (q := 10) (L2 := [(5, _), (4, _), (3, _), (2, _), (0, _), (1, _)]) d_Tp_parseWord_8 rfl (by decide) rfl ?_
  refine wp_iconst (q := 11) d_Tp_parseWord_10 rfl ic_0 ?_
  refine wp_istore (q := 13) (L2 := [(6, _), (5, _), (4, _), (3, _), (2, _), (0, _), (1, _)]) d_Tp_parseWord_11 rfl (by decide) rfl ?_
  exact pw_Tp_parseWord htp h160 hB (show 0 < 2 by decide) hx hp _ 0 0 0 0 true rfl (Nat.le_refl _) (Nat.le_refl _) (by decide) (by rw [List.drop_zero, pw_K]; exact hK)
set_option maxHeartbeats 4000000 in
set_option maxRecDepth 100000 in
theorem ok_Tp_parseWord_F {D : xD} {N : Nat} {l : Launch} {d : Nat} {c x V : T2} {ln df : Nat → Option Nat} {rest : List va_E} {K : Option Value → List va_E → Prop} {tp : Nat} (htp : c 32 8 = nI tp) (h160 : tp ≤ 160) (hB : TBy c tp) {p : Nat} (hx : x 3 0 = nI p) (hp : p ≤ tp) (hK : K (some (.int (wdF (byB c tp) p).1)) (encC D N c (xp x (wdF (byB c tp) p).2) V ln df ++ rest)) : Ok D N l (d + 4) M_Tp_parseWord [.ref (N + 72), .ref (D.2.2.2.1 1)] (encC D N c x V ln df ++ rest) 0 0 K := by
  refine ok_of (L := [(0, _), (1, _)]) (by decide) (Nat.le_of_ble_eq_true rfl) rfl ?_
  refine wp_iconst (q := 1) d_Tp_parseWord_0 rfl ic_0 ?_
  refine wp_istore_n (q := 2) (L2 := [(2, _), (0, _), (1, _)]) d_Tp_parseWord_1 rfl (by decide) rfl ?_
  refine wp_iconst (q := 3) d_Tp_parseWord_2 rfl ic_0 ?_
  refine wp_istore_n (q := 4) (L2 := [(3, _), (2, _), (0, _), (1, _)]) d_Tp_parseWord_3 rfl (by decide) rfl ?_
  refine wp_iconst (q := 5) d_Tp_parseWord_4 rfl ic_0 ?_
  refine wp_istore (q := 7) (L2 := [(4, _), (3, _), (2, _), (0, _), (1, _)]) d_Tp_parseWord_5 rfl (by decide) rfl ?_
  refine wp_iconst (q := 8) d_Tp_parseWord_7 rfl ic_1 ?_
  refine wp_istore (q := 10) (L2 := [(5, _), (4, _), (3, _), (2, _), (0, _), (1, _)]) d_Tp_parseWord_8 rfl (by decide) rfl ?_
  refine wp_iconst (q := 11) d_Tp_parseWord_10 rfl ic_0 ?_
  refine wp_istore (q := 13) (L2 := [(6, _), (5, _), (4, _), (3, _), (2, _), (0, _), (1, _)]) d_Tp_parseWord_11 rfl (by decide) rfl ?_
  exact pw_Tp_parseWord htp h160 hB (show 1 < 2 by decide) hx hp _ 0 0 0 0 true rfl (Nat.le_refl _) (Nat.le_refl _) (by decide) (by rw [List.drop_zero, pw_F]; exact hK)
