section WX
variable {D : xD} {N : Nat} {l : Launch} {E : EX} {M : MD} {R : Room} {Qf : QF} {k n pc : Nat} {L : List (Nat × Value)} {st : List Value} {g : List va_E}
theorem wp_plainS {q idx : Nat} {host : String} (hw : Cond.fieldLinkNest M.1.cls idx "FillAndGo" "PLAIN" "[I" host ∈ nestw) (hd : decode M.2.1 pc = .ok (.getstatic idx, 3)) (hq : pc + 3 = q) (h : Wp D N l E M R Qf k n q L (.ref D.2.2.1 :: st) g) : Wp D N l E M R Qf k n pc L st g := by
  subst hq
  intro p e s m args below meth c C H locs ls hH hS hl
  exact va_getsN C.1 C.2.1 C.2.2.2.2.2.1.2.2.1 hS C.2.2.2.1 (va_Nw.use rfl (C.2.2.2.2.2.1.2.1 _ hw)) (fun _ h => h) hd (h p e s m args below meth c C H locs ls hH hS hl)
theorem wp_plainL {q j : Nat} (hd : decode M.2.1 pc = .ok (.iaload, 1)) (hq : pc + 1 = q) (hj : j < 3) (h : Wp D N l E M R Qf k n q L (.int (plainI j) :: st) g) : Wp D N l E M R Qf k n pc L (.int (nI j) :: .ref D.2.2.1 :: st) g := by
  subst hq
  intro p e s m args below meth c C H locs ls hH hS hl
  exact va_ti C.1 C.2.1 C.2.2.2.2.2.1.2.2.2.1 hS (nI_vp hj (by decide)) (by rw [nI_cl hj (by decide)]) hd (h p e s m args below meth c C H locs ls hH hS hl)
theorem wp_ifnullN {tgt : Nat} {off : Int} (hd : decode M.2.1 pc = .ok (.ifnull off, 3)) (ht : (pc : Int) + off = (tgt : Int)) (h : Wp D N l E M R Qf k n tgt L st g) : Wp D N l E M R Qf k n pc L (.null :: st) g := by
  intro p e s m args below meth c C H locs ls hH hS hl
  exact lv_ifnullN C.1 C.2.1 hd ht (h p e s m args below meth c C H locs ls hH hS hl)
theorem wp_ifnonnullN {q : Nat} {off : Int} (hd : decode M.2.1 pc = .ok (.ifnonnull off, 3)) (hq : pc + 3 = q) (h : Wp D N l E M R Qf k n q L st g) : Wp D N l E M R Qf k n pc L (.null :: st) g := by
  subst hq
  intro p e s m args below meth c C H locs ls hH hS hl
  exact lv_ifnonnullN C.1 C.2.1 hd (h p e s m args below meth c C H locs ls hH hS hl)
end WX
section WX
variable {D : xD} {N : Nat} {l : Launch} {E : EX} {M : MD} {R : Room} {Qf : QF} {k n pc : Nat} {L : List (Nat × Value)} {st : List Value} {g : List va_E}
theorem wp_aload_nN {q : Nat} {i : Fin 4} (hd : decode M.2.1 pc = .ok (.aload_n i, 1)) (hq : pc + 1 = q) (hi : L.lookup (i : Nat) = some .null) (h : Wp D N l E M R Qf k n q L (.null :: st) g) : Wp D N l E M R Qf k n pc L st g := by
  subst hq
  intro p e s m args below meth c C H locs ls hH hS hl
  exact lv_aload_nN C.1 C.2.1 hd rfl (hl.2.2 _ (lk_mem hi)) (h p e s m args below meth c C H locs ls hH hS hl)
theorem wp_astore_nN {q : Nat} {i : Fin 4} {L2 : List (Nat × Value)} (hd : decode M.2.1 pc = .ok (.astore_n i, 1)) (hq : pc + 1 = q) (hn : (i : Nat) < M.2.2.1) (hL : ((i : Nat), Value.null) :: L.filter (fun q => !(q.1 == (i : Nat)) && !(q.1 + 1 == (i : Nat) && q.2.category == 2)) = L2) (h : Wp D N l E M R Qf k n q L2 st g) : Wp D N l E M R Qf k n pc L (.null :: st) g := by
  subst hq
  intro p e s m args below meth c C H locs ls hH hS hl
  exact lv_astore_nN C.1 C.2.1 hd rfl hl hn hL (fun ls' hl' => h p e s m args below meth c C H locs ls' hH hS hl')
end WX
section WX
variable {D : xD} {N : Nat} {l : Launch} {E : EX} {M : MD} {R : Room} {Qf : QF} {k n pc : Nat} {L : List (Nat × Value)} {st : List Value} {g : List va_E}
theorem wp_aloadN {q : Nat} {i : Nat} (hd : decode M.2.1 pc = .ok (.aload i, 2)) (hq : pc + 2 = q) (hi : L.lookup i = some .null) (h : Wp D N l E M R Qf k n q L (.null :: st) g) : Wp D N l E M R Qf k n pc L st g := by
  subst hq
  intro p e s m args below meth c C H locs ls hH hS hl
  exact lv_aloadN C.1 C.2.1 hd (hl.2.2 _ (lk_mem hi)) (h p e s m args below meth c C H locs ls hH hS hl)
theorem wp_astoreN {q : Nat} {i : Nat} {L2 : List (Nat × Value)} (hd : decode M.2.1 pc = .ok (.astore i, 2)) (hq : pc + 2 = q) (hn : i < M.2.2.1) (hL : (i, Value.null) :: L.filter (fun q => !(q.1 == i) && !(q.1 + 1 == i && q.2.category == 2)) = L2) (h : Wp D N l E M R Qf k n q L2 st g) : Wp D N l E M R Qf k n pc L (.null :: st) g := by
  subst hq
  intro p e s m args below meth c C H locs ls hH hS hl
  exact lv_astoreN C.1 C.2.1 hd hl hn hL (fun ls' hl' => h p e s m args below meth c C H locs ls' hH hS hl')
end WX
theorem kn_plain : Cond.fieldLinkNest RX9 102 "FillAndGo" "PLAIN" "[I" "FillAndGo" ∈ nestw := gn 572 (by decide +kernel) (by decide +kernel)
theorem rdX {D : xD} {N : Nat} {c x V : T2} {ln df : Nat → Option Nat} {rest : List va_E} {j : Nat} : (encC D N c x V ln df ++ rest)[124 + j]? = rest[j]? := by
  rw [List.getElem?_append_right (by rw [encC_len]; omega), encC_len, show 124 + j - 124 = j by omega]
/-- a Line and its three rows among what lies behind -/
def LAt (D : xD) (N : Nat) (rest : List va_E) (j : Nat) (key num : Int32) (nt : Nat) (F S B : Nat → Int32) : Prop :=
  rest[j]? = some (.inr (4, [.int key, .int num, .int (nI nt), .ref (N + (124 + (j + 1))), .ref (N + (124 + (j + 2))), .ref (N + (124 + (j + 3)))])) ∧ rest[j + 1]? = some (iA D 3 F) ∧ rest[j + 2]? = some (iA D 3 S) ∧ rest[j + 3]? = some (iA D 3 B)
def LOK (D : xD) (N : Nat) (c : T2) (ln : Nat → Option Nat) (rest : List va_E) : Prop := ∀ cu i, cu < tn (c 32 9) → i < 8 →
  (i < tn (c 22 cu) → ∃ (j : Nat) (F S B : Nat → Int32), ln (8 * cu + i) = some (N + (124 + j)) ∧ LAt D N rest j (c 23 (8 * cu + i)) (c 24 (8 * cu + i)) (tn (c 25 (8 * cu + i))) F S B ∧ ∀ t, t < tn (c 25 (8 * cu + i)) → F t = c 26 (3 * (8 * cu + i) + t) ∧ S t = c 27 (3 * (8 * cu + i) + t) ∧ B t = c 28 (3 * (8 * cu + i) + t)) ∧ (tn (c 22 cu) ≤ i → ln (8 * cu + i) = none)
theorem d_Tn_factsOf_0 : decode M_Tn_factsOf.2.1 0 = .ok (.aload_n 1, 1) := by decide +kernel
theorem d_Tn_factsOf_1 : decode M_Tn_factsOf.2.1 1 = .ok (.getfield 115, 3) := by decide +kernel
theorem d_Tn_factsOf_4 : decode M_Tn_factsOf.2.1 4 = .ok (.iload_n 2, 1) := by decide +kernel
theorem d_Tn_factsOf_5 : decode M_Tn_factsOf.2.1 5 = .ok (.aaload, 1) := by decide +kernel
theorem d_Tn_factsOf_6 : decode M_Tn_factsOf.2.1 6 = .ok (.astore_n 3, 1) := by decide +kernel
theorem d_Tn_factsOf_7 : decode M_Tn_factsOf.2.1 7 = .ok (.aload_n 0, 1) := by decide +kernel
theorem d_Tn_factsOf_8 : decode M_Tn_factsOf.2.1 8 = .ok (.getfield 51, 3) := by decide +kernel
theorem d_Tn_factsOf_11 : decode M_Tn_factsOf.2.1 11 = .ok (.iconst 0, 1) := by decide +kernel
theorem d_Tn_factsOf_12 : decode M_Tn_factsOf.2.1 12 = .ok (.aload_n 1, 1) := by decide +kernel
theorem d_Tn_factsOf_13 : decode M_Tn_factsOf.2.1 13 = .ok (.getfield 121, 3) := by decide +kernel
theorem d_Tn_factsOf_16 : decode M_Tn_factsOf.2.1 16 = .ok (.aload_n 3, 1) := by decide +kernel
theorem d_Tn_factsOf_17 : decode M_Tn_factsOf.2.1 17 = .ok (.getfield 124, 3) := by decide +kernel
theorem d_Tn_factsOf_20 : decode M_Tn_factsOf.2.1 20 = .ok (.isub, 1) := by decide +kernel
theorem d_Tn_factsOf_21 : decode M_Tn_factsOf.2.1 21 = .ok (.iastore, 1) := by decide +kernel
theorem d_Tn_factsOf_22 : decode M_Tn_factsOf.2.1 22 = .ok (.aload_n 0, 1) := by decide +kernel
theorem d_Tn_factsOf_23 : decode M_Tn_factsOf.2.1 23 = .ok (.getfield 51, 3) := by decide +kernel
theorem d_Tn_factsOf_26 : decode M_Tn_factsOf.2.1 26 = .ok (.iconst 1, 1) := by decide +kernel
theorem d_Tn_factsOf_27 : decode M_Tn_factsOf.2.1 27 = .ok (.aload_n 3, 1) := by decide +kernel
theorem d_Tn_factsOf_28 : decode M_Tn_factsOf.2.1 28 = .ok (.getfield 129, 3) := by decide +kernel
theorem d_Tn_factsOf_31 : decode M_Tn_factsOf.2.1 31 = .ok (.iastore, 1) := by decide +kernel
theorem d_Tn_factsOf_32 : decode M_Tn_factsOf.2.1 32 = .ok (.aload_n 0, 1) := by decide +kernel
theorem d_Tn_factsOf_33 : decode M_Tn_factsOf.2.1 33 = .ok (.getfield 51, 3) := by decide +kernel
theorem d_Tn_factsOf_36 : decode M_Tn_factsOf.2.1 36 = .ok (.iconst 2, 1) := by decide +kernel
theorem d_Tn_factsOf_37 : decode M_Tn_factsOf.2.1 37 = .ok (.aload_n 1, 1) := by decide +kernel
theorem d_Tn_factsOf_38 : decode M_Tn_factsOf.2.1 38 = .ok (.getfield 132, 3) := by decide +kernel
theorem d_Tn_factsOf_41 : decode M_Tn_factsOf.2.1 41 = .ok (.iastore, 1) := by decide +kernel
theorem d_Tn_factsOf_42 : decode M_Tn_factsOf.2.1 42 = .ok (.aload_n 0, 1) := by decide +kernel
theorem d_Tn_factsOf_43 : decode M_Tn_factsOf.2.1 43 = .ok (.getfield 51, 3) := by decide +kernel
theorem d_Tn_factsOf_46 : decode M_Tn_factsOf.2.1 46 = .ok (.iconst 3, 1) := by decide +kernel
theorem d_Tn_factsOf_47 : decode M_Tn_factsOf.2.1 47 = .ok (.aload_n 1, 1) := by decide +kernel
theorem d_Tn_factsOf_48 : decode M_Tn_factsOf.2.1 48 = .ok (.invokevirtual 135, 3) := by decide +kernel
theorem d_Tn_factsOf_51 : decode M_Tn_factsOf.2.1 51 = .ok (.iastore, 1) := by decide +kernel
theorem d_Tn_factsOf_52 : decode M_Tn_factsOf.2.1 52 = .ok (.aload_n 0, 1) := by decide +kernel
theorem d_Tn_factsOf_53 : decode M_Tn_factsOf.2.1 53 = .ok (.getfield 51, 3) := by decide +kernel
theorem d_Tn_factsOf_56 : decode M_Tn_factsOf.2.1 56 = .ok (.iconst 4, 1) := by decide +kernel
theorem d_Tn_factsOf_57 : decode M_Tn_factsOf.2.1 57 = .ok (.aload_n 1, 1) := by decide +kernel
theorem d_Tn_factsOf_58 : decode M_Tn_factsOf.2.1 58 = .ok (.aload_n 3, 1) := by decide +kernel
theorem d_Tn_factsOf_59 : decode M_Tn_factsOf.2.1 59 = .ok (.getfield 139, 3) := by decide +kernel
theorem d_Tn_factsOf_62 : decode M_Tn_factsOf.2.1 62 = .ok (.invokevirtual 142, 3) := by decide +kernel
theorem d_Tn_factsOf_65 : decode M_Tn_factsOf.2.1 65 = .ok (.iastore, 1) := by decide +kernel
theorem d_Tn_factsOf_66 : decode M_Tn_factsOf.2.1 66 = .ok (.aload_n 0, 1) := by decide +kernel
theorem d_Tn_factsOf_67 : decode M_Tn_factsOf.2.1 67 = .ok (.getfield 51, 3) := by decide +kernel
theorem d_Tn_factsOf_70 : decode M_Tn_factsOf.2.1 70 = .ok (.iconst 5, 1) := by decide +kernel
theorem d_Tn_factsOf_71 : decode M_Tn_factsOf.2.1 71 = .ok (.aload_n 3, 1) := by decide +kernel
theorem d_Tn_factsOf_72 : decode M_Tn_factsOf.2.1 72 = .ok (.getfield 139, 3) := by decide +kernel
theorem d_Tn_factsOf_75 : decode M_Tn_factsOf.2.1 75 = .ok (.iastore, 1) := by decide +kernel
theorem d_Tn_factsOf_76 : decode M_Tn_factsOf.2.1 76 = .ok (.aload_n 0, 1) := by decide +kernel
theorem d_Tn_factsOf_77 : decode M_Tn_factsOf.2.1 77 = .ok (.getfield 51, 3) := by decide +kernel
theorem d_Tn_factsOf_80 : decode M_Tn_factsOf.2.1 80 = .ok (.bipush 6, 2) := by decide +kernel
theorem d_Tn_factsOf_82 : decode M_Tn_factsOf.2.1 82 = .ok (.aload_n 0, 1) := by decide +kernel
theorem d_Tn_factsOf_83 : decode M_Tn_factsOf.2.1 83 = .ok (.getfield 24, 3) := by decide +kernel
theorem d_Tn_factsOf_86 : decode M_Tn_factsOf.2.1 86 = .ok (.iload_n 2, 1) := by decide +kernel
theorem d_Tn_factsOf_87 : decode M_Tn_factsOf.2.1 87 = .ok (.iaload, 1) := by decide +kernel
theorem d_Tn_factsOf_88 : decode M_Tn_factsOf.2.1 88 = .ok (.iastore, 1) := by decide +kernel
theorem d_Tn_factsOf_89 : decode M_Tn_factsOf.2.1 89 = .ok (.aload_n 0, 1) := by decide +kernel
theorem d_Tn_factsOf_90 : decode M_Tn_factsOf.2.1 90 = .ok (.getfield 51, 3) := by decide +kernel
theorem d_Tn_factsOf_93 : decode M_Tn_factsOf.2.1 93 = .ok (.bipush 7, 2) := by decide +kernel
theorem d_Tn_factsOf_95 : decode M_Tn_factsOf.2.1 95 = .ok (.aload_n 3, 1) := by decide +kernel
theorem d_Tn_factsOf_96 : decode M_Tn_factsOf.2.1 96 = .ok (.getfield 146, 3) := by decide +kernel
theorem d_Tn_factsOf_99 : decode M_Tn_factsOf.2.1 99 = .ok (.iastore, 1) := by decide +kernel
theorem d_Tn_factsOf_100 : decode M_Tn_factsOf.2.1 100 = .ok (.aload_n 0, 1) := by decide +kernel
theorem d_Tn_factsOf_101 : decode M_Tn_factsOf.2.1 101 = .ok (.getfield 51, 3) := by decide +kernel
theorem d_Tn_factsOf_104 : decode M_Tn_factsOf.2.1 104 = .ok (.areturn, 1) := by decide +kernel
set_option maxHeartbeats 4000000 in
set_option maxRecDepth 100000 in
theorem ok_Tn_factsOf {D : xD} {N : Nat} {l : Launch} {d : Nat} {c x V : T2} {P : Nat → Int32} {w : Nat} {ln df : Nat → Option Nat} {rest : List va_E} {K : Option Value → List va_E → Prop} {nb : Nat} (h12 : nb ≤ 12) (hz : ∀ b, nb ≤ b → b < 12 → P (72 + b) = nI 0) (hw : w < 3) {m : Nat} (em : P 234 = nI m) (hm : m < 14700) {b s : Nat} (hb : b < 12) (hs : s < 6) (es : P (84 + b) = nI s) (hK : ∀ F : Nat → Int32, (∀ f, f < 8 → F f = fld c P nb m s b f) → K (some (.ref (N + 13))) (encC D N c (tput x 1 F) (va_up V w P) ln df ++ rest)) : Ok D N l (d + 2) M_Tn_factsOf [.ref (N + 1), .ref (N + wA w), .int (nI b)] (encC D N c x (va_up V w P) ln df ++ rest) 0 0 K := by
  refine ok_of (L := [(0, _), (1, _), (2, _)]) (by decide) (Nat.le_of_ble_eq_true rfl) rfl ?_
  refine wp_aload_n (q := 1) d_Tn_factsOf_0 rfl rfl ?_
  refine wp_get (q := 4) fl_Tn_115 d_Tn_factsOf_1 rfl (rdO (w := w) hw) rfl ?_
  refine wp_iload_n (q := 5) d_Tn_factsOf_4 rfl rfl ?_
  refine wp_aldR (q := 6) d_Tn_factsOf_5 rfl (rd4 (w := w) hw) (by omega) (by decide) (rowsW_at (by omega)) ?_
  refine wp_astore_n (q := 7) (L2 := [(3, _), (0, _), (1, _), (2, _)]) d_Tn_factsOf_6 rfl (by decide) rfl ?_
  refine wp_aload_n (q := 8) d_Tn_factsOf_7 rfl rfl ?_
  refine wp_get (q := 11) fl_Tn_51 d_Tn_factsOf_8 rfl rfl rfl ?_
  refine wp_iconst (q := 12) d_Tn_factsOf_11 rfl ic_0 ?_
  refine wp_aload_n (q := 13) d_Tn_factsOf_12 rfl rfl ?_
  refine wp_get (q := 16) fl_Tn_121 d_Tn_factsOf_13 rfl (rdO (w := w) hw) rfl ?_
  refine wp_aload_n (q := 17) d_Tn_factsOf_16 rfl rfl ?_
  refine wp_get (q := 20) fl_Tn_124 d_Tn_factsOf_17 rfl (rdR (w := w) hw hb) rfl ?_
  refine wp_isub (q := 21) d_Tn_factsOf_20 rfl ?_
  refine wp_iast (q := 22) d_Tn_factsOf_21 rfl (rfl) (by omega) (by decide) (fc_13) ?_
  refine wp_aload_n (q := 23) d_Tn_factsOf_22 rfl rfl ?_
  refine wp_get (q := 26) fl_Tn_51 d_Tn_factsOf_23 rfl rfl rfl ?_
  refine wp_iconst (q := 27) d_Tn_factsOf_26 rfl ic_1 ?_
  refine wp_aload_n (q := 28) d_Tn_factsOf_27 rfl rfl ?_
  refine wp_get (q := 31) fl_Tn_129 d_Tn_factsOf_28 rfl (rdR (w := w) hw hb) rfl ?_
  refine wp_iast (q := 32) d_Tn_factsOf_31 rfl (rfl) (by omega) (by decide) (fc_13) ?_
  refine wp_aload_n (q := 33) d_Tn_factsOf_32 rfl rfl ?_
  refine wp_get (q := 36) fl_Tn_51 d_Tn_factsOf_33 rfl rfl rfl ?_
  refine wp_iconst (q := 37) d_Tn_factsOf_36 rfl ic_2 ?_
  refine wp_aload_n (q := 38) d_Tn_factsOf_37 rfl rfl ?_
  refine wp_get (q := 41) fl_Tn_132 d_Tn_factsOf_38 rfl (rdO (w := w) hw) rfl ?_
  refine wp_iast (q := 42) d_Tn_factsOf_41 rfl (rfl) (by omega) (by decide) (fc_13) ?_
  refine wp_aload_n (q := 43) d_Tn_factsOf_42 rfl rfl ?_
  refine wp_get (q := 46) fl_Tn_51 d_Tn_factsOf_43 rfl rfl rfl ?_
  refine wp_iconst (q := 47) d_Tn_factsOf_46 rfl ic_3 ?_
  refine wp_aload_n (q := 48) d_Tn_factsOf_47 rfl rfl ?_
  refine wp_cv0 (q := 51) lk_Tn_135 (ro _ _ _) d_Tn_factsOf_48 rfl (Nat.le_of_ble_eq_true rfl) (rdO (w := w) hw) rfl (Nat.zero_le _) (Nat.zero_le _) ?_
  refine ok_Wd_hour (w := w) hw em hm ?_
  refine wp_iast (q := 52) d_Tn_factsOf_51 rfl (rfl) (by omega) (by decide) (fc_13) ?_
  refine wp_aload_n (q := 53) d_Tn_factsOf_52 rfl rfl ?_
  refine wp_get (q := 56) fl_Tn_51 d_Tn_factsOf_53 rfl rfl rfl ?_
  refine wp_iconst (q := 57) d_Tn_factsOf_56 rfl ic_4 ?_
  refine wp_aload_n (q := 58) d_Tn_factsOf_57 rfl rfl ?_
  refine wp_aload_n (q := 59) d_Tn_factsOf_58 rfl rfl ?_
  refine wp_get (q := 62) fl_Tn_139 d_Tn_factsOf_59 rfl (rdR (w := w) hw hb) rfl ?_
  rw [es]
  refine wp_cv1 (q := 65) lk_Tn_142 (ro _ _ _) d_Tn_factsOf_62 rfl (Nat.le_of_ble_eq_true rfl) (rdO (w := w) hw) rfl (Nat.zero_le _) (Nat.zero_le _) ?_
  refine ok_Wd_inLine (w := w) hw hs ?_
  refine wp_iast (q := 66) d_Tn_factsOf_65 rfl (rfl) (by omega) (by decide) (fc_13) ?_
  refine wp_aload_n (q := 67) d_Tn_factsOf_66 rfl rfl ?_
  refine wp_get (q := 70) fl_Tn_51 d_Tn_factsOf_67 rfl rfl rfl ?_
  refine wp_iconst (q := 71) d_Tn_factsOf_70 rfl ic_5 ?_
  refine wp_aload_n (q := 72) d_Tn_factsOf_71 rfl rfl ?_
  refine wp_get (q := 75) fl_Tn_139 d_Tn_factsOf_72 rfl (rdR (w := w) hw hb) rfl ?_
  rw [es]
  refine wp_iast (q := 76) d_Tn_factsOf_75 rfl (rfl) (by omega) (by decide) (fc_13) ?_
  refine wp_aload_n (q := 77) d_Tn_factsOf_76 rfl rfl ?_
  refine wp_get (q := 80) fl_Tn_51 d_Tn_factsOf_77 rfl rfl rfl ?_
  refine wp_bipush (q := 82) d_Tn_factsOf_80 rfl bp_6 ?_
  refine wp_aload_n (q := 83) d_Tn_factsOf_82 rfl rfl ?_
  refine wp_get (q := 86) fl_Tn_24 d_Tn_factsOf_83 rfl rfl rfl ?_
  refine wp_iload_n (q := 87) d_Tn_factsOf_86 rfl rfl ?_
  refine wp_iald (q := 88) d_Tn_factsOf_87 rfl (rfl) (by omega) (by decide) ?_
  refine wp_iast (q := 89) d_Tn_factsOf_88 rfl (rfl) (by omega) (by decide) (fc_13) ?_
  refine wp_aload_n (q := 90) d_Tn_factsOf_89 rfl rfl ?_
  refine wp_get (q := 93) fl_Tn_51 d_Tn_factsOf_90 rfl rfl rfl ?_
  refine wp_bipush (q := 95) d_Tn_factsOf_93 rfl bp_7 ?_
  refine wp_aload_n (q := 96) d_Tn_factsOf_95 rfl rfl ?_
  refine wp_get (q := 99) fl_Tn_146 d_Tn_factsOf_96 rfl (rdR (w := w) hw hb) rfl ?_
  refine wp_iast (q := 100) d_Tn_factsOf_99 rfl (rfl) (by omega) (by decide) (fc_13) ?_
  refine wp_aload_n (q := 101) d_Tn_factsOf_100 rfl rfl ?_
  refine wp_get (q := 104) fl_Tn_51 d_Tn_factsOf_101 rfl rfl rfl ?_
  refine wp_aret d_Tn_factsOf_104 rfl (Or.inr ⟨_, rfl⟩) (Or.inr ⟨_, rfl⟩) (Nat.le_refl _) (Nat.le_refl _) ?_
  simp only [tput_eq, tput2, qc_12 hz 12 h12 (Nat.le_refl _)]
  refine hK _ ?_
  intro f hf
  rcases (show f = 0 ∨ f = 1 ∨ f = 2 ∨ f = 3 ∨ f = 4 ∨ f = 5 ∨ f = 6 ∨ f = 7 by omega) with rfl | rfl | rfl | rfl | rfl | rfl | rfl | rfl <;> rfl
theorem d_Ln_holds_0 : decode M_Ln_holds.2.1 0 = .ok (.iconst 0, 1) := by decide +kernel
theorem d_Ln_holds_1 : decode M_Ln_holds.2.1 1 = .ok (.istore_n 2, 1) := by decide +kernel
theorem d_Ln_holds_2 : decode M_Ln_holds.2.1 2 = .ok (.iload_n 2, 1) := by decide +kernel
theorem d_Ln_holds_3 : decode M_Ln_holds.2.1 3 = .ok (.aload_n 0, 1) := by decide +kernel
theorem d_Ln_holds_4 : decode M_Ln_holds.2.1 4 = .ok (.getfield 28, 3) := by decide +kernel
theorem d_Ln_holds_7 : decode M_Ln_holds.2.1 7 = .ok (.if_icmp .ge 105, 3) := by decide +kernel
theorem d_Ln_holds_10 : decode M_Ln_holds.2.1 10 = .ok (.iload_n 2, 1) := by decide +kernel
theorem d_Ln_holds_11 : decode M_Ln_holds.2.1 11 = .ok (.iconst 3, 1) := by decide +kernel
theorem d_Ln_holds_12 : decode M_Ln_holds.2.1 12 = .ok (.if_icmp .ge 100, 3) := by decide +kernel
theorem d_Ln_holds_15 : decode M_Ln_holds.2.1 15 = .ok (.aload_n 1, 1) := by decide +kernel
theorem d_Ln_holds_16 : decode M_Ln_holds.2.1 16 = .ok (.aload_n 0, 1) := by decide +kernel
theorem d_Ln_holds_17 : decode M_Ln_holds.2.1 17 = .ok (.getfield 9, 3) := by decide +kernel
theorem d_Ln_holds_20 : decode M_Ln_holds.2.1 20 = .ok (.iload_n 2, 1) := by decide +kernel
theorem d_Ln_holds_21 : decode M_Ln_holds.2.1 21 = .ok (.iaload, 1) := by decide +kernel
theorem d_Ln_holds_22 : decode M_Ln_holds.2.1 22 = .ok (.iaload, 1) := by decide +kernel
theorem d_Ln_holds_23 : decode M_Ln_holds.2.1 23 = .ok (.istore_n 3, 1) := by decide +kernel
theorem d_Ln_holds_24 : decode M_Ln_holds.2.1 24 = .ok (.aload_n 0, 1) := by decide +kernel
theorem d_Ln_holds_25 : decode M_Ln_holds.2.1 25 = .ok (.getfield 15, 3) := by decide +kernel
theorem d_Ln_holds_28 : decode M_Ln_holds.2.1 28 = .ok (.iload_n 2, 1) := by decide +kernel
theorem d_Ln_holds_29 : decode M_Ln_holds.2.1 29 = .ok (.iaload, 1) := by decide +kernel
theorem d_Ln_holds_30 : decode M_Ln_holds.2.1 30 = .ok (.bipush 60, 2) := by decide +kernel
theorem d_Ln_holds_32 : decode M_Ln_holds.2.1 32 = .ok (.if_icmp .ne 21, 3) := by decide +kernel
theorem d_Ln_holds_35 : decode M_Ln_holds.2.1 35 = .ok (.iload_n 3, 1) := by decide +kernel
theorem d_Ln_holds_36 : decode M_Ln_holds.2.1 36 = .ok (.aload_n 0, 1) := by decide +kernel
theorem d_Ln_holds_37 : decode M_Ln_holds.2.1 37 = .ok (.getfield 18, 3) := by decide +kernel
theorem d_Ln_holds_40 : decode M_Ln_holds.2.1 40 = .ok (.iload_n 2, 1) := by decide +kernel
theorem d_Ln_holds_41 : decode M_Ln_holds.2.1 41 = .ok (.iaload, 1) := by decide +kernel
theorem d_Ln_holds_42 : decode M_Ln_holds.2.1 42 = .ok (.if_icmp .ge 7, 3) := by decide +kernel
theorem d_Ln_holds_45 : decode M_Ln_holds.2.1 45 = .ok (.iconst 1, 1) := by decide +kernel
theorem d_Ln_holds_46 : decode M_Ln_holds.2.1 46 = .ok (.goto 51, 3) := by decide +kernel
theorem d_Ln_holds_49 : decode M_Ln_holds.2.1 49 = .ok (.iconst 0, 1) := by decide +kernel
theorem d_Ln_holds_50 : decode M_Ln_holds.2.1 50 = .ok (.goto 47, 3) := by decide +kernel
theorem d_Ln_holds_53 : decode M_Ln_holds.2.1 53 = .ok (.aload_n 0, 1) := by decide +kernel
theorem d_Ln_holds_54 : decode M_Ln_holds.2.1 54 = .ok (.getfield 15, 3) := by decide +kernel
theorem d_Ln_holds_57 : decode M_Ln_holds.2.1 57 = .ok (.iload_n 2, 1) := by decide +kernel
theorem d_Ln_holds_58 : decode M_Ln_holds.2.1 58 = .ok (.iaload, 1) := by decide +kernel
theorem d_Ln_holds_59 : decode M_Ln_holds.2.1 59 = .ok (.bipush 62, 2) := by decide +kernel
theorem d_Ln_holds_61 : decode M_Ln_holds.2.1 61 = .ok (.if_icmp .ne 21, 3) := by decide +kernel
theorem d_Ln_holds_64 : decode M_Ln_holds.2.1 64 = .ok (.iload_n 3, 1) := by decide +kernel
theorem d_Ln_holds_65 : decode M_Ln_holds.2.1 65 = .ok (.aload_n 0, 1) := by decide +kernel
theorem d_Ln_holds_66 : decode M_Ln_holds.2.1 66 = .ok (.getfield 18, 3) := by decide +kernel
theorem d_Ln_holds_69 : decode M_Ln_holds.2.1 69 = .ok (.iload_n 2, 1) := by decide +kernel
theorem d_Ln_holds_70 : decode M_Ln_holds.2.1 70 = .ok (.iaload, 1) := by decide +kernel
theorem d_Ln_holds_71 : decode M_Ln_holds.2.1 71 = .ok (.if_icmp .le 7, 3) := by decide +kernel
theorem d_Ln_holds_74 : decode M_Ln_holds.2.1 74 = .ok (.iconst 1, 1) := by decide +kernel
theorem d_Ln_holds_75 : decode M_Ln_holds.2.1 75 = .ok (.goto 22, 3) := by decide +kernel
theorem d_Ln_holds_78 : decode M_Ln_holds.2.1 78 = .ok (.iconst 0, 1) := by decide +kernel
theorem d_Ln_holds_79 : decode M_Ln_holds.2.1 79 = .ok (.goto 18, 3) := by decide +kernel
theorem d_Ln_holds_82 : decode M_Ln_holds.2.1 82 = .ok (.iload_n 3, 1) := by decide +kernel
theorem d_Ln_holds_83 : decode M_Ln_holds.2.1 83 = .ok (.aload_n 0, 1) := by decide +kernel
theorem d_Ln_holds_84 : decode M_Ln_holds.2.1 84 = .ok (.getfield 18, 3) := by decide +kernel
theorem d_Ln_holds_87 : decode M_Ln_holds.2.1 87 = .ok (.iload_n 2, 1) := by decide +kernel
theorem d_Ln_holds_88 : decode M_Ln_holds.2.1 88 = .ok (.iaload, 1) := by decide +kernel
theorem d_Ln_holds_89 : decode M_Ln_holds.2.1 89 = .ok (.if_icmp .ne 7, 3) := by decide +kernel
theorem d_Ln_holds_92 : decode M_Ln_holds.2.1 92 = .ok (.iconst 1, 1) := by decide +kernel
theorem d_Ln_holds_93 : decode M_Ln_holds.2.1 93 = .ok (.goto 4, 3) := by decide +kernel
theorem d_Ln_holds_96 : decode M_Ln_holds.2.1 96 = .ok (.iconst 0, 1) := by decide +kernel
theorem d_Ln_holds_97 : decode M_Ln_holds.2.1 97 = .ok (.istore 4, 2) := by decide +kernel
theorem d_Ln_holds_99 : decode M_Ln_holds.2.1 99 = .ok (.iload 4, 2) := by decide +kernel
theorem d_Ln_holds_101 : decode M_Ln_holds.2.1 101 = .ok (.ifCond .ne 5, 3) := by decide +kernel
theorem d_Ln_holds_104 : decode M_Ln_holds.2.1 104 = .ok (.iconst 0, 1) := by decide +kernel
theorem d_Ln_holds_105 : decode M_Ln_holds.2.1 105 = .ok (.ireturn, 1) := by decide +kernel
theorem d_Ln_holds_106 : decode M_Ln_holds.2.1 106 = .ok (.iinc 2 1, 3) := by decide +kernel
theorem d_Ln_holds_109 : decode M_Ln_holds.2.1 109 = .ok (.goto (-107), 3) := by decide +kernel
theorem d_Ln_holds_112 : decode M_Ln_holds.2.1 112 = .ok (.iconst 1, 1) := by decide +kernel
theorem d_Ln_holds_113 : decode M_Ln_holds.2.1 113 = .ok (.ireturn, 1) := by decide +kernel
set_option maxHeartbeats 4000000 in
set_option maxRecDepth 100000 in
theorem ok_Ln_holds {D : xD} {N : Nat} {l : Launch} {d : Nat} {c x V : T2} {ln df : Nat → Option Nat} {rest : List va_E} {K : Option Value → List va_E → Prop} {P : Nat → Int32} {nb m s b sl nt j : Nat} {key num : Int32} {F S B : Nat → Int32} (hnt : nt ≤ 3) (hA : LAt D N rest j key num nt F S B) (hFSB : ∀ t, t < nt → F t = c 26 (3 * sl + t) ∧ S t = c 27 (3 * sl + t) ∧ B t = c 28 (3 * sl + t)) (hf : ∀ t, t < nt → isN (c 26 (3 * sl + t)) 8) (hx1 : ∀ f, f < 8 → x 1 f = fld c P nb m s b f) (h1 : hldB c P nb m s b sl nt = true → K (some (.int (nI 1))) (encC D N c x V ln df ++ rest)) (h0 : hldB c P nb m s b sl nt = false → K (some (.int (nI 0))) (encC D N c x V ln df ++ rest)) : Ok D N l d M_Ln_holds [.ref (N + (124 + j)), .ref (N + 13)] (encC D N c x V ln df ++ rest) 0 0 K := by
  have lp : ∀ t : Nat, t ≤ nt → hldB c P nb m s b sl t = true → Wp D N l (EI M_Ln_holds) M_Ln_holds (Rm d 0 0) (Qm D N K 0 0) 0 0 2 [(2, .int (nI t)), (0, .ref (N + (124 + j))), (1, .ref (N + 13))] [] (encC D N c x V ln df ++ rest) := by
    refine up_loop ?_ ?_
    · intro hall; skip
      refine wp_iload_n (q := 3) d_Ln_holds_2 rfl rfl ?_
      refine wp_aload_n (q := 4) d_Ln_holds_3 rfl rfl ?_
      refine wp_get (q := 7) fl_Ln_28 d_Ln_holds_4 rfl (rdX.trans hA.1) rfl ?_
      refine wp_icmp_ge_t (tgt := 112) d_Ln_holds_7 (by decide) (nI_le (Nat.le_refl _) (by omega)) ?_
      refine wp_iconst (q := 113) d_Ln_holds_112 rfl ic_1 ?_
      refine wp_zret d_Ln_holds_113 rfl (rfl) (Nat.le_refl _) (Nat.le_refl _) ?_
      exact h1 hall
    · intro t ht ih hall
      refine wp_iload_n (q := 3) d_Ln_holds_2 rfl rfl ?_
      refine wp_aload_n (q := 4) d_Ln_holds_3 rfl rfl ?_
      refine wp_get (q := 7) fl_Ln_28 d_Ln_holds_4 rfl (rdX.trans hA.1) rfl ?_
      refine wp_icmp_ge_f (q := 10) (tgt := 112) d_Ln_holds_7 (by decide) rfl (nI_ge ht (by omega)) ?_
      refine wp_iload_n (q := 11) d_Ln_holds_10 rfl rfl ?_
      refine wp_iconst (q := 12) d_Ln_holds_11 rfl ic_3 ?_
      refine wp_icmp_ge_f (q := 15) (tgt := 112) d_Ln_holds_12 (by decide) rfl (nI_ge (by omega) (by decide)) ?_
      refine wp_aload_n (q := 16) d_Ln_holds_15 rfl rfl ?_
      refine wp_aload_n (q := 17) d_Ln_holds_16 rfl rfl ?_
      refine wp_get (q := 20) fl_Ln_9 d_Ln_holds_17 rfl (rdX.trans hA.1) rfl ?_
      refine wp_iload_n (q := 21) d_Ln_holds_20 rfl rfl ?_
      refine wp_iald (q := 22) d_Ln_holds_21 rfl (rdX.trans hA.2.1) (by omega) (by decide) ?_
      obtain ⟨e1, e2, e3⟩ := hFSB t ht
      obtain ⟨ef, lf8⟩ := hf t ht
      rw [e1, ef]
      refine wp_iald (q := 23) d_Ln_holds_22 rfl (rfl) (by omega) (by decide) ?_
      rw [hx1 _ lf8]
      refine wp_istore_n (q := 24) (L2 := [(3, _), (2, _), (0, _), (1, _)]) d_Ln_holds_23 rfl (by decide) rfl ?_
      refine wp_aload_n (q := 25) d_Ln_holds_24 rfl rfl ?_
      refine wp_get (q := 28) fl_Ln_15 d_Ln_holds_25 rfl (rdX.trans hA.1) rfl ?_
      refine wp_iload_n (q := 29) d_Ln_holds_28 rfl rfl ?_
      refine wp_iald (q := 30) d_Ln_holds_29 rfl (rdX.trans hA.2.2.1) (by omega) (by decide) ?_
      rw [e2]
      refine wp_bipush (q := 32) d_Ln_holds_30 rfl bp_60 ?_
      refine wp_icmp_ne (q := 35) (tgt := 53) d_Ln_holds_32 (by decide) rfl (fun hc_32 => ?_) (fun hc_32 => ?_)
      · refine wp_aload_n (q := 54) d_Ln_holds_53 rfl rfl ?_
        refine wp_get (q := 57) fl_Ln_15 d_Ln_holds_54 rfl (rdX.trans hA.1) rfl ?_
        refine wp_iload_n (q := 58) d_Ln_holds_57 rfl rfl ?_
        refine wp_iald (q := 59) d_Ln_holds_58 rfl (rdX.trans hA.2.2.1) (by omega) (by decide) ?_
        rw [e2]
        refine wp_bipush (q := 61) d_Ln_holds_59 rfl bp_62 ?_
        refine wp_icmp_ne (q := 64) (tgt := 82) d_Ln_holds_61 (by decide) rfl (fun hc_61 => ?_) (fun hc_61 => ?_)
        · refine wp_iload_n (q := 83) d_Ln_holds_82 rfl rfl ?_
          refine wp_aload_n (q := 84) d_Ln_holds_83 rfl rfl ?_
          refine wp_get (q := 87) fl_Ln_18 d_Ln_holds_84 rfl (rdX.trans hA.1) rfl ?_
          refine wp_iload_n (q := 88) d_Ln_holds_87 rfl rfl ?_
          refine wp_iald (q := 89) d_Ln_holds_88 rfl (rdX.trans hA.2.2.2) (by omega) (by decide) ?_
          rw [e3]
          refine wp_icmp_ne (q := 92) (tgt := 96) d_Ln_holds_89 (by decide) rfl (fun hc_89 => ?_) (fun hc_89 => ?_)
          · refine wp_iconst (q := 97) d_Ln_holds_96 rfl ic_0 ?_
            refine wp_istore (q := 99) (L2 := [(4, _), (3, _), (2, _), (0, _), (1, _)]) d_Ln_holds_97 rfl (by decide) rfl ?_
            refine wp_iload (q := 101) d_Ln_holds_99 rfl rfl ?_
            refine wp_if_ne_f (q := 104) (tgt := 106) d_Ln_holds_101 (by decide) rfl (by decide) ?_
            refine wp_iconst (q := 105) d_Ln_holds_104 rfl ic_0 ?_
            refine wp_zret d_Ln_holds_105 rfl (rfl) (Nat.le_refl _) (Nat.le_refl _) ?_
            first | exact h0 (hldB_no ht (by rw [tstB, if_pos hc_32]; exact decide_eq_false (le_nlt hc_42))) | exact h0 (hldB_no ht (by rw [tstB, if_neg hc_32, if_pos hc_61]; exact decide_eq_false (le_nlt hc_71))) | exact h0 (hldB_no ht (by rw [tstB, if_neg hc_32, if_neg hc_61]; exact decide_eq_false hc_89))
          · refine wp_iconst (q := 93) d_Ln_holds_92 rfl ic_1 ?_
            refine wp_goto (tgt := 97) d_Ln_holds_93 (by decide) ?_
            refine wp_istore (q := 99) (L2 := [(4, _), (3, _), (2, _), (0, _), (1, _)]) d_Ln_holds_97 rfl (by decide) rfl ?_
            refine wp_iload (q := 101) d_Ln_holds_99 rfl rfl ?_
            refine wp_if_ne_t (tgt := 106) d_Ln_holds_101 (by decide) (by decide) ?_
            refine wp_iinc (q := 109) (L2 := [(2, _), (4, _), (3, _), (0, _), (1, _)]) d_Ln_holds_106 rfl rfl (iinc_1) (by decide) rfl ?_
            refine wp_goto (tgt := 2) d_Ln_holds_109 (by decide) ?_
            refine wp_sub [0, 3, 4] rfl ?_
            first | exact ih (by rw [hldB, hall, tstB, if_pos hc_32]; exact decide_eq_true (nle_lt hc_42)) | exact ih (by rw [hldB, hall, tstB, if_neg hc_32, if_pos hc_61]; exact decide_eq_true (nle_lt hc_71)) | exact ih (by rw [hldB, hall, tstB, if_neg hc_32, if_neg hc_61]; exact decide_eq_true hc_89)
        · refine wp_iload_n (q := 65) d_Ln_holds_64 rfl rfl ?_
          refine wp_aload_n (q := 66) d_Ln_holds_65 rfl rfl ?_
          refine wp_get (q := 69) fl_Ln_18 d_Ln_holds_66 rfl (rdX.trans hA.1) rfl ?_
          refine wp_iload_n (q := 70) d_Ln_holds_69 rfl rfl ?_
          refine wp_iald (q := 71) d_Ln_holds_70 rfl (rdX.trans hA.2.2.2) (by omega) (by decide) ?_
          rw [e3]
          refine wp_icmp_le (q := 74) (tgt := 78) d_Ln_holds_71 (by decide) rfl (fun hc_71 => ?_) (fun hc_71 => ?_)
          · refine wp_iconst (q := 79) d_Ln_holds_78 rfl ic_0 ?_
            refine wp_goto (tgt := 97) d_Ln_holds_79 (by decide) ?_
            refine wp_istore (q := 99) (L2 := [(4, _), (3, _), (2, _), (0, _), (1, _)]) d_Ln_holds_97 rfl (by decide) rfl ?_
            refine wp_iload (q := 101) d_Ln_holds_99 rfl rfl ?_
            refine wp_if_ne_f (q := 104) (tgt := 106) d_Ln_holds_101 (by decide) rfl (by decide) ?_
            refine wp_iconst (q := 105) d_Ln_holds_104 rfl ic_0 ?_
            refine wp_zret d_Ln_holds_105 rfl (rfl) (Nat.le_refl _) (Nat.le_refl _) ?_
            first | exact h0 (hldB_no ht (by rw [tstB, if_pos hc_32]; exact decide_eq_false (le_nlt hc_42))) | exact h0 (hldB_no ht (by rw [tstB, if_neg hc_32, if_pos hc_61]; exact decide_eq_false (le_nlt hc_71))) | exact h0 (hldB_no ht (by rw [tstB, if_neg hc_32, if_neg hc_61]; exact decide_eq_false hc_89))
          · refine wp_iconst (q := 75) d_Ln_holds_74 rfl ic_1 ?_
            refine wp_goto (tgt := 97) d_Ln_holds_75 (by decide) ?_
            refine wp_istore (q := 99) (L2 := [(4, _), (3, _), (2, _), (0, _), (1, _)]) d_Ln_holds_97 rfl (by decide) rfl ?_
            refine wp_iload (q := 101) d_Ln_holds_99 rfl rfl ?_
            refine wp_if_ne_t (tgt := 106) d_Ln_holds_101 (by decide) (by decide) ?_
            refine wp_iinc (q := 109) (L2 := [(2, _), (4, _), (3, _), (0, _), (1, _)]) d_Ln_holds_106 rfl rfl (iinc_1) (by decide) rfl ?_
            refine wp_goto (tgt := 2) d_Ln_holds_109 (by decide) ?_
            refine wp_sub [0, 3, 4] rfl ?_
            first | exact ih (by rw [hldB, hall, tstB, if_pos hc_32]; exact decide_eq_true (nle_lt hc_42)) | exact ih (by rw [hldB, hall, tstB, if_neg hc_32, if_pos hc_61]; exact decide_eq_true (nle_lt hc_71)) | exact ih (by rw [hldB, hall, tstB, if_neg hc_32, if_neg hc_61]; exact decide_eq_true hc_89)
      · refine wp_iload_n (q := 36) d_Ln_holds_35 rfl rfl ?_
        refine wp_aload_n (q := 37) d_Ln_holds_36 rfl rfl ?_
        refine wp_get (q := 40) fl_Ln_18 d_Ln_holds_37 rfl (rdX.trans hA.1) rfl ?_
        refine wp_iload_n (q := 41) d_Ln_holds_40 rfl rfl ?_
        refine wp_iald (q := 42) d_Ln_holds_41 rfl (rdX.trans hA.2.2.2) (by omega) (by decide) ?_
        rw [e3]
        refine wp_icmp_ge (q := 45) (tgt := 49) d_Ln_holds_42 (by decide) rfl (fun hc_42 => ?_) (fun hc_42 => ?_)
        · refine wp_iconst (q := 50) d_Ln_holds_49 rfl ic_0 ?_
          refine wp_goto (tgt := 97) d_Ln_holds_50 (by decide) ?_
          refine wp_istore (q := 99) (L2 := [(4, _), (3, _), (2, _), (0, _), (1, _)]) d_Ln_holds_97 rfl (by decide) rfl ?_
          refine wp_iload (q := 101) d_Ln_holds_99 rfl rfl ?_
          refine wp_if_ne_f (q := 104) (tgt := 106) d_Ln_holds_101 (by decide) rfl (by decide) ?_
          refine wp_iconst (q := 105) d_Ln_holds_104 rfl ic_0 ?_
          refine wp_zret d_Ln_holds_105 rfl (rfl) (Nat.le_refl _) (Nat.le_refl _) ?_
          first | exact h0 (hldB_no ht (by rw [tstB, if_pos hc_32]; exact decide_eq_false (le_nlt hc_42))) | exact h0 (hldB_no ht (by rw [tstB, if_neg hc_32, if_pos hc_61]; exact decide_eq_false (le_nlt hc_71))) | exact h0 (hldB_no ht (by rw [tstB, if_neg hc_32, if_neg hc_61]; exact decide_eq_false hc_89))
        · refine wp_iconst (q := 46) d_Ln_holds_45 rfl ic_1 ?_
          refine wp_goto (tgt := 97) d_Ln_holds_46 (by decide) ?_
          refine wp_istore (q := 99) (L2 := [(4, _), (3, _), (2, _), (0, _), (1, _)]) d_Ln_holds_97 rfl (by decide) rfl ?_
          refine wp_iload (q := 101) d_Ln_holds_99 rfl rfl ?_
          refine wp_if_ne_t (tgt := 106) d_Ln_holds_101 (by decide) (by decide) ?_
          refine wp_iinc (q := 109) (L2 := [(2, _), (4, _), (3, _), (0, _), (1, _)]) d_Ln_holds_106 rfl rfl (iinc_1) (by decide) rfl ?_
          refine wp_goto (tgt := 2) d_Ln_holds_109 (by decide) ?_
          refine wp_sub [0, 3, 4] rfl ?_
          first | exact ih (by rw [hldB, hall, tstB, if_pos hc_32]; exact decide_eq_true (nle_lt hc_42)) | exact ih (by rw [hldB, hall, tstB, if_neg hc_32, if_pos hc_61]; exact decide_eq_true (nle_lt hc_71)) | exact ih (by rw [hldB, hall, tstB, if_neg hc_32, if_neg hc_61]; exact decide_eq_true hc_89)
  refine ok_of (L := [(0, _), (1, _)]) (by decide) (Nat.le_of_ble_eq_true rfl) rfl ?_
  refine wp_iconst (q := 1) d_Ln_holds_0 rfl ic_0 ?_
  refine wp_istore_n (q := 2) (L2 := [(2, _), (0, _), (1, _)]) d_Ln_holds_1 rfl (by decide) rfl ?_
  exact lp 0 (Nat.zero_le _) rfl
