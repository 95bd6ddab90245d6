theorem arr_congr {cA : ClassId} {n : Nat} {f f2 : Nat → Int32} (h : ∀ j, j < n → f j = f2 j) : vp_cell cA (n, .inl f) = vp_cell cA (n, .inl f2) := by
  rw [vp_cell_i, vp_cell_i]
  unfold arrV
  have e : (fun j : Fin n => Value.int (f j.val)) = fun j : Fin n => Value.int (f2 j.val) := funext fun j => by rw [h j.val j.isLt]
  rw [e]
section WX
variable {D : xD} {N : Nat} {l : Launch} {E : EX} {M : MD} {R : Room} {Qf : QF} {k n pc : Nat} {L : List (Nat × Value)} {st : List Value} {g g2 : List va_E}
theorem wp_cell {i m' : Nat} {f f2 : Nat → Int32} (hr : g[i]? = some (iA D m' f)) (he : ∀ j, j < m' → f j = f2 j) (hg : g.set i (iA D m' f2) = g2) (h : Wp D N l E M R Qf k n pc L st g2) : Wp D N l E M R Qf k n pc L st g := by
  subst hg
  intro p e s m args below meth c C H locs ls hH hS hl
  refine h p e s m args below meth c C H locs ls (hH.set hr ?_ rfl (fun _ _ => rfl)) hS hl
  have h1 : H[N + i]? = some (vp_cell (D.2.1 0) (m', .inl f)) := hH.2 i _ hr
  show H[N + i]? = some (vp_cell (D.2.1 0) (m', .inl f2))
  rw [h1, arr_congr he]
end WX
def cpk (X Y : Nat → Int32) (k : Nat) : Nat → Int32 := fun i => if i < k then Y i else X i
theorem cpk_0 {X Y : Nat → Int32} : cpk X Y 0 = X := by funext i; simp [cpk]
theorem cpk_s {X Y : Nat → Int32} {k : Nat} : upd (cpk X Y k) k (Y k) = cpk X Y (k + 1) := by
  funext i
  simp only [upd, cpk]
  repeat' split
  all_goals first | rfl | omega | (subst_vars; rfl)
theorem cpk_n {X Y : Nat → Int32} {n j : Nat} (h : j < n) : cpk X Y n j = Y j := by simp [cpk, h]
theorem ok_become {D : xD} {N : Nat} {l : Launch} {d : Nat} {c x V : T2} {ln df : Nat → Option Nat} {rest : List va_E} {K : Option Value → List va_E → Prop} {w v : Nat} (hw : w < 3) (hv : v < 3) (hvw : v ≠ w) (hK : K none (encC D N c x (va_up V w (V v)) ln df ++ rest)) : Ok D N l (d + 1) M_Wd_become [.ref (N + wA w), .ref (N + wA v)] (encC D N c x V ln df ++ rest) 0 0 K := by
  have h := ok_Wd_become (D := D) (N := N) (l := l) (d := d) (c := c) (x := x) (V := V) (ln := ln) (df := df) (rest := rest) (K := K) (P := V w) hw hv hvw hK
  rw [va_upid] at h
  exact h
theorem d_Rf_lays_0 : decode M_Rf_lays.2.1 0 = .ok (.iconst 0, 1) := by decide +kernel
theorem d_Rf_lays_1 : decode M_Rf_lays.2.1 1 = .ok (.istore_n 2, 1) := by decide +kernel
theorem d_Rf_lays_2 : decode M_Rf_lays.2.1 2 = .ok (.iload_n 2, 1) := by decide +kernel
theorem d_Rf_lays_3 : decode M_Rf_lays.2.1 3 = .ok (.sipush 239, 3) := by decide +kernel
theorem d_Rf_lays_6 : decode M_Rf_lays.2.1 6 = .ok (.if_icmp .ge 40, 3) := by decide +kernel
theorem d_Rf_lays_9 : decode M_Rf_lays.2.1 9 = .ok (.iload_n 1, 1) := by decide +kernel
theorem d_Rf_lays_10 : decode M_Rf_lays.2.1 10 = .ok (.ifCond .eq 18, 3) := by decide +kernel
theorem d_Rf_lays_13 : decode M_Rf_lays.2.1 13 = .ok (.aload_n 0, 1) := by decide +kernel
theorem d_Rf_lays_14 : decode M_Rf_lays.2.1 14 = .ok (.getfield 7, 3) := by decide +kernel
theorem d_Rf_lays_17 : decode M_Rf_lays.2.1 17 = .ok (.iload_n 2, 1) := by decide +kernel
theorem d_Rf_lays_18 : decode M_Rf_lays.2.1 18 = .ok (.aload_n 0, 1) := by decide +kernel
theorem d_Rf_lays_19 : decode M_Rf_lays.2.1 19 = .ok (.getfield 13, 3) := by decide +kernel
theorem d_Rf_lays_22 : decode M_Rf_lays.2.1 22 = .ok (.iload_n 2, 1) := by decide +kernel
theorem d_Rf_lays_23 : decode M_Rf_lays.2.1 23 = .ok (.iaload, 1) := by decide +kernel
theorem d_Rf_lays_24 : decode M_Rf_lays.2.1 24 = .ok (.iastore, 1) := by decide +kernel
theorem d_Rf_lays_25 : decode M_Rf_lays.2.1 25 = .ok (.goto 15, 3) := by decide +kernel
theorem d_Rf_lays_28 : decode M_Rf_lays.2.1 28 = .ok (.aload_n 0, 1) := by decide +kernel
theorem d_Rf_lays_29 : decode M_Rf_lays.2.1 29 = .ok (.getfield 13, 3) := by decide +kernel
theorem d_Rf_lays_32 : decode M_Rf_lays.2.1 32 = .ok (.iload_n 2, 1) := by decide +kernel
theorem d_Rf_lays_33 : decode M_Rf_lays.2.1 33 = .ok (.aload_n 0, 1) := by decide +kernel
theorem d_Rf_lays_34 : decode M_Rf_lays.2.1 34 = .ok (.getfield 7, 3) := by decide +kernel
theorem d_Rf_lays_37 : decode M_Rf_lays.2.1 37 = .ok (.iload_n 2, 1) := by decide +kernel
theorem d_Rf_lays_38 : decode M_Rf_lays.2.1 38 = .ok (.iaload, 1) := by decide +kernel
theorem d_Rf_lays_39 : decode M_Rf_lays.2.1 39 = .ok (.iastore, 1) := by decide +kernel
theorem d_Rf_lays_40 : decode M_Rf_lays.2.1 40 = .ok (.iinc 2 1, 3) := by decide +kernel
theorem d_Rf_lays_43 : decode M_Rf_lays.2.1 43 = .ok (.goto (-41), 3) := by decide +kernel
theorem d_Rf_lays_46 : decode M_Rf_lays.2.1 46 = .ok (.return_, 1) := by decide +kernel
theorem tput_id (c : T2) (k : Nat) : tput c k (c k) = c := by
  funext a; simp only [tput]; split
  · subst_vars; rfl
  · rfl
set_option maxHeartbeats 4000000 in
set_option maxRecDepth 100000 in
theorem ok_Rf_lays0 {D : xD} {N : Nat} {l : Launch} {d : Nat} {c z : T2} {P Q : Nat → Int32} {rest : List va_E} {K : Option Value → List va_E → Prop} (hK : K none (encR D N c (tput z 0 P) P Q ++ rest)) : Ok D N l d M_Rf_lays [.ref (N + 0), .int (nI 0)] (encR D N c z P Q ++ rest) 0 0 K := by
  have lp : ∀ k : Nat, k ≤ 239 → Wp D N l (EI M_Rf_lays) M_Rf_lays (Rm d 0 0) (Qm D N K 0 0) 0 0 2 [(2, .int (nI k)), (0, .ref (N + 0)), (1, .int (nI 0))] [] (encR D N c (tput z 0 (cpk (z 0) P k)) P Q ++ rest) := by
    refine up_loop ?_ ?_
    · skip
      refine wp_iload_n (q := 3) d_Rf_lays_2 rfl rfl ?_
      refine wp_sipush (q := 6) d_Rf_lays_3 rfl sp_239 ?_
      refine wp_icmp_ge_t (tgt := 46) d_Rf_lays_6 (by decide) (nI_le (Nat.le_refl _) (by decide)) ?_
      refine wp_cell (i := 2) (f2 := P) rfl (fun j hj => by rw [tput_eq]; exact cpk_n hj) fr_z0 ?_
      rw [tput2]
      refine wp_vret d_Rf_lays_46 rfl (Nat.le_refl _) (Nat.le_refl _) ?_
      exact hK
    · intro k hk ih
      refine wp_iload_n (q := 3) d_Rf_lays_2 rfl rfl ?_
      refine wp_sipush (q := 6) d_Rf_lays_3 rfl sp_239 ?_
      refine wp_icmp_ge_f (q := 9) (tgt := 46) d_Rf_lays_6 (by decide) rfl (nI_ge hk (by decide)) ?_
      refine wp_iload_n (q := 10) d_Rf_lays_9 rfl rfl ?_
      refine wp_if_eq_t (tgt := 28) d_Rf_lays_10 (by decide) (by decide) ?_
      refine wp_aload_n (q := 29) d_Rf_lays_28 rfl rfl ?_
      refine wp_get (q := 32) fl_Rf_13 d_Rf_lays_29 rfl rfl rfl ?_
      refine wp_iload_n (q := 33) d_Rf_lays_32 rfl rfl ?_
      refine wp_aload_n (q := 34) d_Rf_lays_33 rfl rfl ?_
      refine wp_get (q := 37) fl_Rf_7 d_Rf_lays_34 rfl rfl rfl ?_
      refine wp_iload_n (q := 38) d_Rf_lays_37 rfl rfl ?_
      refine wp_iald (q := 39) d_Rf_lays_38 rfl (rfl) (by omega) (by decide) ?_
      refine wp_iast (q := 40) d_Rf_lays_39 rfl (rfl) (by omega) (by decide) (fr_z0) ?_
      refine wp_iinc (q := 43) (L2 := [(2, _), (0, _), (1, _)]) d_Rf_lays_40 rfl rfl (iinc_1) (by decide) rfl ?_
      refine wp_goto (tgt := 2) d_Rf_lays_43 (by decide) ?_
      rw [tput_eq, tput2, cpk_s]; exact ih
  refine ok_of (L := [(0, _), (1, _)]) (by decide) (Nat.le_of_ble_eq_true rfl) rfl ?_
  refine wp_iconst (q := 1) d_Rf_lays_0 rfl ic_0 ?_
  refine wp_istore_n (q := 2) (L2 := [(2, _), (0, _), (1, _)]) d_Rf_lays_1 rfl (by decide) rfl ?_
  have h0 := lp 0 (Nat.zero_le _)
  rw [cpk_0] at h0
  rw [tput_id] at h0
  exact h0
set_option maxHeartbeats 4000000 in
set_option maxRecDepth 100000 in
theorem ok_Rf_lays1 {D : xD} {N : Nat} {l : Launch} {d : Nat} {c z : T2} {P Q : Nat → Int32} {rest : List va_E} {K : Option Value → List va_E → Prop} (hK : K none (encR D N c z (z 0) Q ++ rest)) : Ok D N l d M_Rf_lays [.ref (N + 0), .int (nI 1)] (encR D N c z P Q ++ rest) 0 0 K := by
  have lp : ∀ k : Nat, k ≤ 239 → Wp D N l (EI M_Rf_lays) M_Rf_lays (Rm d 0 0) (Qm D N K 0 0) 0 0 2 [(2, .int (nI k)), (0, .ref (N + 0)), (1, .int (nI 1))] [] (encR D N c z (cpk P (z 0) k) Q ++ rest) := by
    refine up_loop ?_ ?_
    · skip
      refine wp_iload_n (q := 3) d_Rf_lays_2 rfl rfl ?_
      refine wp_sipush (q := 6) d_Rf_lays_3 rfl sp_239 ?_
      refine wp_icmp_ge_t (tgt := 46) d_Rf_lays_6 (by decide) (nI_le (Nat.le_refl _) (by decide)) ?_
      refine wp_cell (i := 1) (f2 := z 0) rfl (fun j hj => cpk_n hj) fr_P ?_
      refine wp_vret d_Rf_lays_46 rfl (Nat.le_refl _) (Nat.le_refl _) ?_
      exact hK
    · intro k hk ih
      refine wp_iload_n (q := 3) d_Rf_lays_2 rfl rfl ?_
      refine wp_sipush (q := 6) d_Rf_lays_3 rfl sp_239 ?_
      refine wp_icmp_ge_f (q := 9) (tgt := 46) d_Rf_lays_6 (by decide) rfl (nI_ge hk (by decide)) ?_
      refine wp_iload_n (q := 10) d_Rf_lays_9 rfl rfl ?_
      refine wp_if_eq_f (q := 13) (tgt := 28) d_Rf_lays_10 (by decide) rfl (by decide) ?_
      refine wp_aload_n (q := 14) d_Rf_lays_13 rfl rfl ?_
      refine wp_get (q := 17) fl_Rf_7 d_Rf_lays_14 rfl rfl rfl ?_
      refine wp_iload_n (q := 18) d_Rf_lays_17 rfl rfl ?_
      refine wp_aload_n (q := 19) d_Rf_lays_18 rfl rfl ?_
      refine wp_get (q := 22) fl_Rf_13 d_Rf_lays_19 rfl rfl rfl ?_
      refine wp_iload_n (q := 23) d_Rf_lays_22 rfl rfl ?_
      refine wp_iald (q := 24) d_Rf_lays_23 rfl (rfl) (by omega) (by decide) ?_
      refine wp_iast (q := 25) d_Rf_lays_24 rfl (rfl) (by omega) (by decide) (fr_P) ?_
      refine wp_goto (tgt := 40) d_Rf_lays_25 (by decide) ?_
      refine wp_iinc (q := 43) (L2 := [(2, _), (0, _), (1, _)]) d_Rf_lays_40 rfl rfl (iinc_1) (by decide) rfl ?_
      refine wp_goto (tgt := 2) d_Rf_lays_43 (by decide) ?_
      rw [cpk_s]; exact ih
  refine ok_of (L := [(0, _), (1, _)]) (by decide) (Nat.le_of_ble_eq_true rfl) rfl ?_
  refine wp_iconst (q := 1) d_Rf_lays_0 rfl ic_0 ?_
  refine wp_istore_n (q := 2) (L2 := [(2, _), (0, _), (1, _)]) d_Rf_lays_1 rfl (by decide) rfl ?_
  have h0 := lp 0 (Nat.zero_le _)
  rw [cpk_0] at h0
  exact h0
theorem d_Rf_image_0 : decode M_Rf_image.2.1 0 = .ok (.iconst 0, 1) := by decide +kernel
theorem d_Rf_image_1 : decode M_Rf_image.2.1 1 = .ok (.istore_n 1, 1) := by decide +kernel
theorem d_Rf_image_2 : decode M_Rf_image.2.1 2 = .ok (.iload_n 1, 1) := by decide +kernel
theorem d_Rf_image_3 : decode M_Rf_image.2.1 3 = .ok (.sipush 239, 3) := by decide +kernel
theorem d_Rf_image_6 : decode M_Rf_image.2.1 6 = .ok (.if_icmp .ge 21, 3) := by decide +kernel
theorem d_Rf_image_9 : decode M_Rf_image.2.1 9 = .ok (.aload_n 0, 1) := by decide +kernel
theorem d_Rf_image_10 : decode M_Rf_image.2.1 10 = .ok (.getfield 16, 3) := by decide +kernel
theorem d_Rf_image_13 : decode M_Rf_image.2.1 13 = .ok (.iload_n 1, 1) := by decide +kernel
theorem d_Rf_image_14 : decode M_Rf_image.2.1 14 = .ok (.aload_n 0, 1) := by decide +kernel
theorem d_Rf_image_15 : decode M_Rf_image.2.1 15 = .ok (.getfield 7, 3) := by decide +kernel
theorem d_Rf_image_18 : decode M_Rf_image.2.1 18 = .ok (.iload_n 1, 1) := by decide +kernel
theorem d_Rf_image_19 : decode M_Rf_image.2.1 19 = .ok (.iaload, 1) := by decide +kernel
theorem d_Rf_image_20 : decode M_Rf_image.2.1 20 = .ok (.iastore, 1) := by decide +kernel
theorem d_Rf_image_21 : decode M_Rf_image.2.1 21 = .ok (.iinc 1 1, 3) := by decide +kernel
theorem d_Rf_image_24 : decode M_Rf_image.2.1 24 = .ok (.goto (-22), 3) := by decide +kernel
theorem d_Rf_image_27 : decode M_Rf_image.2.1 27 = .ok (.aload_n 0, 1) := by decide +kernel
theorem d_Rf_image_28 : decode M_Rf_image.2.1 28 = .ok (.iconst 1, 1) := by decide +kernel
theorem d_Rf_image_29 : decode M_Rf_image.2.1 29 = .ok (.putfield 306, 3) := by decide +kernel
theorem d_Rf_image_32 : decode M_Rf_image.2.1 32 = .ok (.aload_n 0, 1) := by decide +kernel
theorem d_Rf_image_33 : decode M_Rf_image.2.1 33 = .ok (.getfield 7, 3) := by decide +kernel
theorem d_Rf_image_36 : decode M_Rf_image.2.1 36 = .ok (.sipush 234, 3) := by decide +kernel
theorem d_Rf_image_39 : decode M_Rf_image.2.1 39 = .ok (.iaload, 1) := by decide +kernel
theorem d_Rf_image_40 : decode M_Rf_image.2.1 40 = .ok (.ireturn, 1) := by decide +kernel
set_option maxHeartbeats 4000000 in
set_option maxRecDepth 100000 in
theorem ok_Rf_image {D : xD} {N : Nat} {l : Launch} {d : Nat} {c z : T2} {P Q : Nat → Int32} {rest : List va_E} {K : Option Value → List va_E → Prop} (hK : K (some (.int (P 234))) (encR D N (tput c 32 (upd (c 32) 0 (nI 1))) z P P ++ rest)) : Ok D N l d M_Rf_image [.ref (N + 0)] (encR D N c z P Q ++ rest) 0 0 K := by
  have lp : ∀ k : Nat, k ≤ 239 → Wp D N l (EI M_Rf_image) M_Rf_image (Rm d 0 0) (Qm D N K 0 0) 0 0 2 [(1, .int (nI k)), (0, .ref (N + 0))] [] (encR D N c z P (cpk Q P k) ++ rest) := by
    refine up_loop ?_ ?_
    · skip
      refine wp_iload_n (q := 3) d_Rf_image_2 rfl rfl ?_
      refine wp_sipush (q := 6) d_Rf_image_3 rfl sp_239 ?_
      refine wp_icmp_ge_t (tgt := 27) d_Rf_image_6 (by decide) (nI_le (Nat.le_refl _) (by decide)) ?_
      refine wp_cell (i := 3) (f2 := P) rfl (fun j hj => cpk_n hj) fr_Q ?_
      refine wp_aload_n (q := 28) d_Rf_image_27 rfl rfl ?_
      refine wp_iconst (q := 29) d_Rf_image_28 rfl ic_1 ?_
      refine wp_put (q := 32) fl_Rf_306 d_Rf_image_29 rfl rfl (Nat.le_of_ble_eq_true rfl) rfl rfl (fr_s0) ?_
      refine wp_aload_n (q := 33) d_Rf_image_32 rfl rfl ?_
      refine wp_get (q := 36) fl_Rf_7 d_Rf_image_33 rfl rfl rfl ?_
      refine wp_sipush (q := 39) d_Rf_image_36 rfl sp_234 ?_
      refine wp_iald (q := 40) d_Rf_image_39 rfl (rfl) (by omega) (by decide) ?_
      refine wp_iret d_Rf_image_40 rfl (Nat.le_refl _) (Nat.le_refl _) ?_
      exact hK
    · intro k hk ih
      refine wp_iload_n (q := 3) d_Rf_image_2 rfl rfl ?_
      refine wp_sipush (q := 6) d_Rf_image_3 rfl sp_239 ?_
      refine wp_icmp_ge_f (q := 9) (tgt := 27) d_Rf_image_6 (by decide) rfl (nI_ge hk (by decide)) ?_
      refine wp_aload_n (q := 10) d_Rf_image_9 rfl rfl ?_
      refine wp_get (q := 13) fl_Rf_16 d_Rf_image_10 rfl rfl rfl ?_
      refine wp_iload_n (q := 14) d_Rf_image_13 rfl rfl ?_
      refine wp_aload_n (q := 15) d_Rf_image_14 rfl rfl ?_
      refine wp_get (q := 18) fl_Rf_7 d_Rf_image_15 rfl rfl rfl ?_
      refine wp_iload_n (q := 19) d_Rf_image_18 rfl rfl ?_
      refine wp_iald (q := 20) d_Rf_image_19 rfl (rfl) (by omega) (by decide) ?_
      refine wp_iast (q := 21) d_Rf_image_20 rfl (rfl) (by omega) (by decide) (fr_Q) ?_
      refine wp_iinc (q := 24) (L2 := [(1, _), (0, _)]) d_Rf_image_21 rfl rfl (iinc_1) (by decide) rfl ?_
      refine wp_goto (tgt := 2) d_Rf_image_24 (by decide) ?_
      rw [cpk_s]; exact ih
  refine ok_of (L := [(0, _)]) (by decide) (Nat.le_of_ble_eq_true rfl) rfl ?_
  refine wp_iconst (q := 1) d_Rf_image_0 rfl ic_0 ?_
  refine wp_istore_n (q := 2) (L2 := [(1, _), (0, _)]) d_Rf_image_1 rfl (by decide) rfl ?_
  have h0 := lp 0 (Nat.zero_le _)
  rw [cpk_0] at h0
  exact h0
theorem d_Rf_back_0 : decode M_Rf_back.2.1 0 = .ok (.aload_n 0, 1) := by decide +kernel
theorem d_Rf_back_1 : decode M_Rf_back.2.1 1 = .ok (.getfield 306, 3) := by decide +kernel
theorem d_Rf_back_4 : decode M_Rf_back.2.1 4 = .ok (.ifCond .ne 6, 3) := by decide +kernel
theorem d_Rf_back_7 : decode M_Rf_back.2.1 7 = .ok (.bipush (-3), 2) := by decide +kernel
theorem d_Rf_back_9 : decode M_Rf_back.2.1 9 = .ok (.ireturn, 1) := by decide +kernel
theorem d_Rf_back_10 : decode M_Rf_back.2.1 10 = .ok (.iconst 0, 1) := by decide +kernel
theorem d_Rf_back_11 : decode M_Rf_back.2.1 11 = .ok (.istore_n 1, 1) := by decide +kernel
theorem d_Rf_back_12 : decode M_Rf_back.2.1 12 = .ok (.iload_n 1, 1) := by decide +kernel
theorem d_Rf_back_13 : decode M_Rf_back.2.1 13 = .ok (.sipush 239, 3) := by decide +kernel
theorem d_Rf_back_16 : decode M_Rf_back.2.1 16 = .ok (.if_icmp .ge 21, 3) := by decide +kernel
theorem d_Rf_back_19 : decode M_Rf_back.2.1 19 = .ok (.aload_n 0, 1) := by decide +kernel
theorem d_Rf_back_20 : decode M_Rf_back.2.1 20 = .ok (.getfield 7, 3) := by decide +kernel
theorem d_Rf_back_23 : decode M_Rf_back.2.1 23 = .ok (.iload_n 1, 1) := by decide +kernel
theorem d_Rf_back_24 : decode M_Rf_back.2.1 24 = .ok (.aload_n 0, 1) := by decide +kernel
theorem d_Rf_back_25 : decode M_Rf_back.2.1 25 = .ok (.getfield 16, 3) := by decide +kernel
theorem d_Rf_back_28 : decode M_Rf_back.2.1 28 = .ok (.iload_n 1, 1) := by decide +kernel
theorem d_Rf_back_29 : decode M_Rf_back.2.1 29 = .ok (.iaload, 1) := by decide +kernel
theorem d_Rf_back_30 : decode M_Rf_back.2.1 30 = .ok (.iastore, 1) := by decide +kernel
theorem d_Rf_back_31 : decode M_Rf_back.2.1 31 = .ok (.iinc 1 1, 3) := by decide +kernel
theorem d_Rf_back_34 : decode M_Rf_back.2.1 34 = .ok (.goto (-22), 3) := by decide +kernel
theorem d_Rf_back_37 : decode M_Rf_back.2.1 37 = .ok (.aload_n 0, 1) := by decide +kernel
theorem d_Rf_back_38 : decode M_Rf_back.2.1 38 = .ok (.getfield 7, 3) := by decide +kernel
theorem d_Rf_back_41 : decode M_Rf_back.2.1 41 = .ok (.sipush 234, 3) := by decide +kernel
theorem d_Rf_back_44 : decode M_Rf_back.2.1 44 = .ok (.iaload, 1) := by decide +kernel
theorem d_Rf_back_45 : decode M_Rf_back.2.1 45 = .ok (.ireturn, 1) := by decide +kernel
set_option maxHeartbeats 4000000 in
set_option maxRecDepth 100000 in
theorem ok_Rf_back {D : xD} {N : Nat} {l : Launch} {d : Nat} {c z : T2} {P Q : Nat → Int32} {rest : List va_E} {K : Option Value → List va_E → Prop} (h1 : ¬ c 32 0 = 0 → K (some (.int (Q 234))) (encR D N c z Q Q ++ rest)) (h0 : c 32 0 = 0 → K (some (.int (-3))) (encR D N c z P Q ++ rest)) : Ok D N l d M_Rf_back [.ref (N + 0)] (encR D N c z P Q ++ rest) 0 0 K := by
  refine ok_of (L := [(0, _)]) (by decide) (Nat.le_of_ble_eq_true rfl) rfl ?_
  refine wp_aload_n (q := 1) d_Rf_back_0 rfl rfl ?_
  refine wp_get (q := 4) fl_Rf_306 d_Rf_back_1 rfl rfl rfl ?_
  refine wp_if_ne (q := 7) (tgt := 10) d_Rf_back_4 (by decide) rfl (fun hc_4 => ?_) (fun hc_4 => ?_)
  · have lp : ∀ k : Nat, k ≤ 239 → Wp D N l (EI M_Rf_back) M_Rf_back (Rm d 0 0) (Qm D N K 0 0) 0 0 12 [(1, .int (nI k)), (0, .ref (N + 0))] [] (encR D N c z (cpk P Q k) Q ++ rest) := by
      refine up_loop ?_ ?_
      · skip
        refine wp_iload_n (q := 13) d_Rf_back_12 rfl rfl ?_
        refine wp_sipush (q := 16) d_Rf_back_13 rfl sp_239 ?_
        refine wp_icmp_ge_t (tgt := 37) d_Rf_back_16 (by decide) (nI_le (Nat.le_refl _) (by decide)) ?_
        refine wp_cell (i := 1) (f2 := Q) rfl (fun j hj => cpk_n hj) fr_P ?_
        refine wp_aload_n (q := 38) d_Rf_back_37 rfl rfl ?_
        refine wp_get (q := 41) fl_Rf_7 d_Rf_back_38 rfl rfl rfl ?_
        refine wp_sipush (q := 44) d_Rf_back_41 rfl sp_234 ?_
        refine wp_iald (q := 45) d_Rf_back_44 rfl (rfl) (by omega) (by decide) ?_
        refine wp_iret d_Rf_back_45 rfl (Nat.le_refl _) (Nat.le_refl _) ?_
        exact h1 hc_4
      · intro k hk ih
        refine wp_iload_n (q := 13) d_Rf_back_12 rfl rfl ?_
        refine wp_sipush (q := 16) d_Rf_back_13 rfl sp_239 ?_
        refine wp_icmp_ge_f (q := 19) (tgt := 37) d_Rf_back_16 (by decide) rfl (nI_ge hk (by decide)) ?_
        refine wp_aload_n (q := 20) d_Rf_back_19 rfl rfl ?_
        refine wp_get (q := 23) fl_Rf_7 d_Rf_back_20 rfl rfl rfl ?_
        refine wp_iload_n (q := 24) d_Rf_back_23 rfl rfl ?_
        refine wp_aload_n (q := 25) d_Rf_back_24 rfl rfl ?_
        refine wp_get (q := 28) fl_Rf_16 d_Rf_back_25 rfl rfl rfl ?_
        refine wp_iload_n (q := 29) d_Rf_back_28 rfl rfl ?_
        refine wp_iald (q := 30) d_Rf_back_29 rfl (rfl) (by omega) (by decide) ?_
        refine wp_iast (q := 31) d_Rf_back_30 rfl (rfl) (by omega) (by decide) (fr_P) ?_
        refine wp_iinc (q := 34) (L2 := [(1, _), (0, _)]) d_Rf_back_31 rfl rfl (iinc_1) (by decide) rfl ?_
        refine wp_goto (tgt := 12) d_Rf_back_34 (by decide) ?_
        rw [cpk_s]; exact ih
    refine wp_iconst (q := 11) d_Rf_back_10 rfl ic_0 ?_
    refine wp_istore_n (q := 12) (L2 := [(1, _), (0, _)]) d_Rf_back_11 rfl (by decide) rfl ?_
    have h0 := lp 0 (Nat.zero_le _)
    rw [cpk_0] at h0
    exact h0
  · refine wp_bipush (q := 9) d_Rf_back_7 rfl bp_m3 ?_
    refine wp_iret d_Rf_back_9 rfl (Nat.le_refl _) (Nat.le_refl _) ?_
    exact h0 hc_4
theorem d_FG_image_0 : decode M_FG_image.2.1 0 = .ok (.aload_n 0, 1) := by decide +kernel
theorem d_FG_image_1 : decode M_FG_image.2.1 1 = .ok (.getfield 26, 3) := by decide +kernel
theorem d_FG_image_4 : decode M_FG_image.2.1 4 = .ok (.aload_n 0, 1) := by decide +kernel
theorem d_FG_image_5 : decode M_FG_image.2.1 5 = .ok (.getfield 19, 3) := by decide +kernel
theorem d_FG_image_8 : decode M_FG_image.2.1 8 = .ok (.invokevirtual 250, 3) := by decide +kernel
theorem d_FG_image_11 : decode M_FG_image.2.1 11 = .ok (.aload_n 0, 1) := by decide +kernel
theorem d_FG_image_12 : decode M_FG_image.2.1 12 = .ok (.iconst 1, 1) := by decide +kernel
theorem d_FG_image_13 : decode M_FG_image.2.1 13 = .ok (.putfield 300, 3) := by decide +kernel
theorem d_FG_image_16 : decode M_FG_image.2.1 16 = .ok (.aload_n 0, 1) := by decide +kernel
theorem d_FG_image_17 : decode M_FG_image.2.1 17 = .ok (.getfield 19, 3) := by decide +kernel
theorem d_FG_image_20 : decode M_FG_image.2.1 20 = .ok (.getfield 111, 3) := by decide +kernel
theorem d_FG_image_23 : decode M_FG_image.2.1 23 = .ok (.ireturn, 1) := by decide +kernel
theorem rdV {D : xD} {N : Nat} {c x V : T2} {ln df : Nat → Option Nat} {rest : List va_E} {w : Nat} (hw : w < 3) : (encC D N c x V ln df ++ rest)[wA w]? = some (wObj N (wA w) (V w)) := (rd_w (i := 0) hw (by decide)).trans rfl
set_option maxHeartbeats 4000000 in
set_option maxRecDepth 100000 in
theorem ok_FG_image {D : xD} {N : Nat} {l : Launch} {d : Nat} {c x V : T2} {ln df : Nat → Option Nat} {rest : List va_E} {K : Option Value → List va_E → Prop} (hK : K (some (.int (V 0 234))) (encC D N (tput c 32 (upd (c 32) 0 (nI 1))) x (va_up V 2 (V 0)) ln df ++ rest)) : Ok D N l (d + 2) M_FG_image [.ref (N + 0)] (encC D N c x V ln df ++ rest) 0 0 K := by
  refine ok_of (L := [(0, _)]) (by decide) (Nat.le_of_ble_eq_true rfl) rfl ?_
  refine wp_aload_n (q := 1) d_FG_image_0 rfl rfl ?_
  refine wp_get (q := 4) fl_FG_26 d_FG_image_1 rfl rfl rfl ?_
  refine wp_aload_n (q := 5) d_FG_image_4 rfl rfl ?_
  refine wp_get (q := 8) fl_FG_19 d_FG_image_5 rfl rfl rfl ?_
  refine wp_cv1 (q := 11) lk_FG_250 (ro _ _ _) d_FG_image_8 rfl (Nat.le_of_ble_eq_true rfl) ((rdV (w := 2) (by decide))) rfl (Nat.zero_le _) (Nat.zero_le _) ?_
  refine ok_become (w := 2) (v := 0) (by decide) (by decide) (by decide) ?_
  refine wp_aload_n (q := 12) d_FG_image_11 rfl rfl ?_
  refine wp_iconst (q := 13) d_FG_image_12 rfl ic_1 ?_
  refine wp_put (q := 16) fl_FG_300 d_FG_image_13 rfl rfl (Nat.le_of_ble_eq_true rfl) rfl rfl (fc_s0) ?_
  refine wp_aload_n (q := 17) d_FG_image_16 rfl rfl ?_
  refine wp_get (q := 20) fl_FG_19 d_FG_image_17 rfl rfl rfl ?_
  refine wp_get (q := 23) fl_FG_111 d_FG_image_20 rfl (rdO2 (v := 0) (w := 2) (by decide) (by decide)) rfl ?_
  refine wp_iret d_FG_image_23 rfl (Nat.le_refl _) (Nat.le_refl _) ?_
  exact hK
theorem d_FG_back_0 : decode M_FG_back.2.1 0 = .ok (.aload_n 0, 1) := by decide +kernel
theorem d_FG_back_1 : decode M_FG_back.2.1 1 = .ok (.getfield 300, 3) := by decide +kernel
theorem d_FG_back_4 : decode M_FG_back.2.1 4 = .ok (.ifCond .ne 6, 3) := by decide +kernel
theorem d_FG_back_7 : decode M_FG_back.2.1 7 = .ok (.bipush (-3), 2) := by decide +kernel
theorem d_FG_back_9 : decode M_FG_back.2.1 9 = .ok (.ireturn, 1) := by decide +kernel
theorem d_FG_back_10 : decode M_FG_back.2.1 10 = .ok (.aload_n 0, 1) := by decide +kernel
theorem d_FG_back_11 : decode M_FG_back.2.1 11 = .ok (.getfield 19, 3) := by decide +kernel
theorem d_FG_back_14 : decode M_FG_back.2.1 14 = .ok (.aload_n 0, 1) := by decide +kernel
theorem d_FG_back_15 : decode M_FG_back.2.1 15 = .ok (.getfield 26, 3) := by decide +kernel
theorem d_FG_back_18 : decode M_FG_back.2.1 18 = .ok (.invokevirtual 250, 3) := by decide +kernel
theorem d_FG_back_21 : decode M_FG_back.2.1 21 = .ok (.aload_n 0, 1) := by decide +kernel
theorem d_FG_back_22 : decode M_FG_back.2.1 22 = .ok (.getfield 19, 3) := by decide +kernel
theorem d_FG_back_25 : decode M_FG_back.2.1 25 = .ok (.getfield 111, 3) := by decide +kernel
theorem d_FG_back_28 : decode M_FG_back.2.1 28 = .ok (.ireturn, 1) := by decide +kernel
set_option maxHeartbeats 4000000 in
set_option maxRecDepth 100000 in
theorem ok_FG_back {D : xD} {N : Nat} {l : Launch} {d : Nat} {c x V : T2} {ln df : Nat → Option Nat} {rest : List va_E} {K : Option Value → List va_E → Prop} (h1 : ¬ c 32 0 = 0 → K (some (.int (V 2 234))) (encC D N c x (va_up V 0 (V 2)) ln df ++ rest)) (h0 : c 32 0 = 0 → K (some (.int (-3))) (encC D N c x V ln df ++ rest)) : Ok D N l (d + 2) M_FG_back [.ref (N + 0)] (encC D N c x V ln df ++ rest) 0 0 K := by
  refine ok_of (L := [(0, _)]) (by decide) (Nat.le_of_ble_eq_true rfl) rfl ?_
  refine wp_aload_n (q := 1) d_FG_back_0 rfl rfl ?_
  refine wp_get (q := 4) fl_FG_300 d_FG_back_1 rfl rfl rfl ?_
  refine wp_if_ne (q := 7) (tgt := 10) d_FG_back_4 (by decide) rfl (fun hc_4 => ?_) (fun hc_4 => ?_)
  · refine wp_aload_n (q := 11) d_FG_back_10 rfl rfl ?_
    refine wp_get (q := 14) fl_FG_19 d_FG_back_11 rfl rfl rfl ?_
    refine wp_aload_n (q := 15) d_FG_back_14 rfl rfl ?_
    refine wp_get (q := 18) fl_FG_26 d_FG_back_15 rfl rfl rfl ?_
    refine wp_cv1 (q := 21) lk_FG_250 (ro _ _ _) d_FG_back_18 rfl (Nat.le_of_ble_eq_true rfl) ((rdV (w := 0) (by decide))) rfl (Nat.zero_le _) (Nat.zero_le _) ?_
    refine ok_become (w := 0) (v := 2) (by decide) (by decide) (by decide) ?_
    refine wp_aload_n (q := 22) d_FG_back_21 rfl rfl ?_
    refine wp_get (q := 25) fl_FG_19 d_FG_back_22 rfl rfl rfl ?_
    refine wp_get (q := 28) fl_FG_111 d_FG_back_25 rfl (rdO (w := 0) (by decide)) rfl ?_
    refine wp_iret d_FG_back_28 rfl (Nat.le_refl _) (Nat.le_refl _) ?_
    exact h1 hc_4
  · refine wp_bipush (q := 9) d_FG_back_7 rfl bp_m3 ?_
    refine wp_iret d_FG_back_9 rfl (Nat.le_refl _) (Nat.le_refl _) ?_
    exact h0 hc_4
