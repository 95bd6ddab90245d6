def bkA (D : xD) (N : Nat) (c x V : T2) (ln df : Nat → Option Nat) : List va_E := encA D N c x ln ++ (wcells D N 21 (V 0) ++ (wcells D N 38 (V 1) ++ (wcells D N 55 (V 2) ++ [.inr (8, [.ref (N + 73), .int (c 32 8), .int (x 3 0), .ref (N + 74), .int (x 3 1)]),
  bA D 160 (fun i => (c 21 i).toInt8.toInt32),
  oA D 5 8 df,
  oA D 7 6 (rows N 76 6),
  iA D 4 (sl (c 11) 0 4),
  iA D 4 (sl (c 11) 4 4),
  iA D 4 (sl (c 11) 8 4),
  iA D 4 (sl (c 11) 12 4),
  iA D 4 (sl (c 11) 16 4),
  iA D 4 (sl (c 11) 20 4),
  oA D 7 3 (rows N 83 3),
  iA D 6 (c 12),
  iA D 6 (c 13),
  iA D 6 (c 14),
  oA D 7 30 (rows N 87 30)])))
def bkZ (D : xD) (N : Nat) (c : T2) (rest : List va_E) : List va_E := [oA D 7 4 (rows N 118 4),
  iA D 40 (sl (c 31) 0 40),
  iA D 40 (sl (c 31) 40 40),
  iA D 40 (sl (c 31) 80 40),
  iA D 40 (sl (c 31) 120 40),
  iA D 4 (c 30),
  iA D 4 (c 29)] ++ rest
theorem bk_split {D : xD} {N : Nat} {c x V : T2} {ln df : Nat → Option Nat} {rest : List va_E} : encC D N c x V ln df ++ rest = bkA D N c x V ln df ++ ((List.range 30).map (fun k => iA D 6 (bookC c k)) ++ bkZ D N c rest) := by
  simp only [encC, encB, bkA, bkZ, List.append_assoc]
theorem bkA_len {D : xD} {N : Nat} {c x V : T2} {ln df : Nat → Option Nat} : (bkA D N c x V ln df).length = 87 := rfl
theorem rg_set {f f2 : Nat → va_E} {n k : Nat} {e : va_E} (hk : k < n) (he : f2 k = e) (ho : ∀ j, j < n → j ≠ k → f2 j = f j) : ((List.range n).map f).set k e = (List.range n).map f2 := by
  apply List.ext_getElem?
  intro i
  rw [List.getElem?_set]
  by_cases h : k = i
  · subst h
    simp [hk, he]
  · rw [if_neg h]
    by_cases hi : i < n
    · simp [hi, ho i hi (fun e => h e.symm)]
    · simp [hi]
theorem bk_set {A M Z : List va_E} {k n a : Nat} {e : va_E} (hA : A.length = a) (hM : M.length = n) (hk : k < n) : (A ++ (M ++ Z)).set (a + k) e = A ++ (M.set k e ++ Z) := by
  rw [List.set_append_right _ _ (by omega), show a + k - A.length = k by omega, List.set_append_left _ _ (by omega)]
theorem bk_get {A Z : List va_E} {f : Nat → va_E} {k n a : Nat} (hA : A.length = a) (hk : k < n) : (A ++ ((List.range n).map f ++ Z))[a + k]? = some (f k) := by
  rw [List.getElem?_append_right (by omega), show a + k - A.length = k by omega, List.getElem?_append_left (by simp; exact hk)]
  simp [hk]
theorem rd_book {D : xD} {N : Nat} {c x V : T2} {ln df : Nat → Option Nat} {rest : List va_E} {k : Nat} (hk : k < 30) : (encC D N c x V ln df ++ rest)[87 + k]? = some (iA D 6 (bookC c k)) := by
  rw [bk_split]
  exact bk_get bkA_len hk
theorem fd_book {D : xD} {N : Nat} {c x V : T2} {ln df : Nat → Option Nat} {rest : List va_E} {k : Nat} {f : Nat → Int32} {c2 : T2} (hk : k < 30) (hA : bkA D N c2 x V ln df = bkA D N c x V ln df) (hZ : bkZ D N c2 rest = bkZ D N c rest) (hf : bookC c2 k = f) (ho : ∀ j, j < 30 → j ≠ k → bookC c2 j = bookC c j) : (encC D N c x V ln df ++ rest).set (87 + k) (iA D 6 f) = encC D N c2 x V ln df ++ rest := by
  rw [bk_split, bk_split (c := c2), bk_set bkA_len (by simp) hk, hA, hZ, rg_set (f2 := fun k => iA D 6 (bookC c2 k)) hk (by rw [hf]) (fun j h1 h2 => by rw [ho j h1 h2])]
set_option maxRecDepth 100000 in
theorem fd_bk0 {D : xD} {N : Nat} {c x V : T2} {ln df : Nat → Option Nat} {rest : List va_E} {k : Nat} {v : Int32} (hk : k < 30) : (encC D N c x V ln df ++ rest).set (87 + k) (iA D 6 (upd (bookC c k) 0 v)) = encC D N (tput c 15 (upd (c 15) k v)) x V ln df ++ rest := by
  refine fd_book hk rfl rfl ?_ ?_
  · funext i
    simp only [bookC, upd, tput]
    repeat' split
    all_goals first | rfl | omega | (simp (disch := omega) only [upd_ne, upd_eq]; done) | (subst_vars; simp (disch := omega) only [upd_ne, upd_eq]; done) | (simp_all; done) | (simp at *; done)
  · intro j h1 h2
    funext i
    simp only [bookC, upd, tput]
    repeat' split
    all_goals first | rfl | omega | (simp (disch := omega) only [upd_ne, upd_eq]; done) | (subst_vars; simp (disch := omega) only [upd_ne, upd_eq]; done) | (simp_all; done) | (simp at *; done)
set_option maxRecDepth 100000 in
theorem fd_bk1 {D : xD} {N : Nat} {c x V : T2} {ln df : Nat → Option Nat} {rest : List va_E} {k : Nat} {v : Int32} (hk : k < 30) : (encC D N c x V ln df ++ rest).set (87 + k) (iA D 6 (upd (bookC c k) 1 v)) = encC D N (tput c 16 (upd (c 16) k v)) x V ln df ++ rest := by
  refine fd_book hk rfl rfl ?_ ?_
  · funext i
    simp only [bookC, upd, tput]
    repeat' split
    all_goals first | rfl | omega | (simp (disch := omega) only [upd_ne, upd_eq]; done) | (subst_vars; simp (disch := omega) only [upd_ne, upd_eq]; done) | (simp_all; done) | (simp at *; done)
  · intro j h1 h2
    funext i
    simp only [bookC, upd, tput]
    repeat' split
    all_goals first | rfl | omega | (simp (disch := omega) only [upd_ne, upd_eq]; done) | (subst_vars; simp (disch := omega) only [upd_ne, upd_eq]; done) | (simp_all; done) | (simp at *; done)
set_option maxRecDepth 100000 in
theorem fd_bk2 {D : xD} {N : Nat} {c x V : T2} {ln df : Nat → Option Nat} {rest : List va_E} {k : Nat} {v : Int32} (hk : k < 30) : (encC D N c x V ln df ++ rest).set (87 + k) (iA D 6 (upd (bookC c k) 2 v)) = encC D N (tput c 17 (upd (c 17) k v)) x V ln df ++ rest := by
  refine fd_book hk rfl rfl ?_ ?_
  · funext i
    simp only [bookC, upd, tput]
    repeat' split
    all_goals first | rfl | omega | (simp (disch := omega) only [upd_ne, upd_eq]; done) | (subst_vars; simp (disch := omega) only [upd_ne, upd_eq]; done) | (simp_all; done) | (simp at *; done)
  · intro j h1 h2
    funext i
    simp only [bookC, upd, tput]
    repeat' split
    all_goals first | rfl | omega | (simp (disch := omega) only [upd_ne, upd_eq]; done) | (subst_vars; simp (disch := omega) only [upd_ne, upd_eq]; done) | (simp_all; done) | (simp at *; done)
set_option maxRecDepth 100000 in
theorem fd_bk3 {D : xD} {N : Nat} {c x V : T2} {ln df : Nat → Option Nat} {rest : List va_E} {k : Nat} {v : Int32} (hk : k < 30) : (encC D N c x V ln df ++ rest).set (87 + k) (iA D 6 (upd (bookC c k) 3 v)) = encC D N (tput c 18 (upd (c 18) k v)) x V ln df ++ rest := by
  refine fd_book hk rfl rfl ?_ ?_
  · funext i
    simp only [bookC, upd, tput]
    repeat' split
    all_goals first | rfl | omega | (simp (disch := omega) only [upd_ne, upd_eq]; done) | (subst_vars; simp (disch := omega) only [upd_ne, upd_eq]; done) | (simp_all; done) | (simp at *; done)
  · intro j h1 h2
    funext i
    simp only [bookC, upd, tput]
    repeat' split
    all_goals first | rfl | omega | (simp (disch := omega) only [upd_ne, upd_eq]; done) | (subst_vars; simp (disch := omega) only [upd_ne, upd_eq]; done) | (simp_all; done) | (simp at *; done)
set_option maxRecDepth 100000 in
theorem fd_bk4 {D : xD} {N : Nat} {c x V : T2} {ln df : Nat → Option Nat} {rest : List va_E} {k : Nat} {v : Int32} (hk : k < 30) : (encC D N c x V ln df ++ rest).set (87 + k) (iA D 6 (upd (bookC c k) 4 v)) = encC D N (tput c 19 (upd (c 19) k v)) x V ln df ++ rest := by
  refine fd_book hk rfl rfl ?_ ?_
  · funext i
    simp only [bookC, upd, tput]
    repeat' split
    all_goals first | rfl | omega | (simp (disch := omega) only [upd_ne, upd_eq]; done) | (subst_vars; simp (disch := omega) only [upd_ne, upd_eq]; done) | (simp_all; done) | (simp at *; done)
  · intro j h1 h2
    funext i
    simp only [bookC, upd, tput]
    repeat' split
    all_goals first | rfl | omega | (simp (disch := omega) only [upd_ne, upd_eq]; done) | (subst_vars; simp (disch := omega) only [upd_ne, upd_eq]; done) | (simp_all; done) | (simp at *; done)
set_option maxRecDepth 100000 in
theorem fd_bk5 {D : xD} {N : Nat} {c x V : T2} {ln df : Nat → Option Nat} {rest : List va_E} {k : Nat} {v : Int32} (hk : k < 30) (hk2 : k < tn (c 32 7)) : (encC D N c x V ln df ++ rest).set (87 + k) (iA D 6 (upd (bookC c k) 5 v)) = encC D N (tput c 20 (upd (c 20) k v)) x V ln df ++ rest := by
  refine fd_book hk rfl rfl ?_ ?_
  · funext i
    simp only [bookC, upd, tput]
    repeat' split
    all_goals first | rfl | omega | (simp (disch := omega) only [upd_ne, upd_eq]; done) | (subst_vars; simp (disch := omega) only [upd_ne, upd_eq]; done) | (simp_all; done) | (simp at *; done) | (exfalso; simp at *; omega)
  · intro j h1 h2
    funext i
    simp only [bookC, upd, tput]
    repeat' split
    all_goals first | rfl | omega | (simp (disch := omega) only [upd_ne, upd_eq]; done) | (subst_vars; simp (disch := omega) only [upd_ne, upd_eq]; done) | (simp_all; done) | (simp at *; done)
set_option maxRecDepth 100000 in
theorem fd_bkN {D : xD} {N : Nat} {c x V : T2} {ln df : Nat → Option Nat} {rest : List va_E} {nk : Nat} (hnk : c 32 7 = nI nk) (hk : nk < 30) (h20 : c 20 nk = -1) : ((encC D N c x V ln df ++ rest).set (87 + nk) (iA D 6 (upd (bookC c nk) 5 (-1)))).set 0 (.inr (11, [.ref (N + 1), .ref (N + 21), .ref (N + 38), .ref (N + 55), .int (c 32 0), .ref (N + 72), .int (c 32 2), .ref (N + 75), .int (c 32 3), .int (c 32 4), .int (c 32 5), .int (c 32 6), .ref (N + 82), .ref (N + 86), .int (nI (nk + 1)), .ref (N + 117), .ref (N + 122), .ref (N + 123)])) = encC D N (tput c 32 (upd (c 32) 7 (nI (nk + 1)))) x V ln df ++ rest := by
  have e1 : tn (c 32 7) = nk := by rw [hnk]; exact tnt hk
  have e2 : tn (upd (c 32) 7 (nI (nk + 1)) 7) = nk + 1 := by rw [upd_eq]; exact tnl (b := 30) (by omega)
  have hb : ∀ j, bookC (tput c 32 (upd (c 32) 7 (nI (nk + 1)))) j = fun i => if i = 0 then c 15 j else if i = 1 then c 16 j else if i = 2 then c 17 j else if i = 3 then c 18 j else if i = 4 then c 19 j else if i = 5 then (if j < tn (upd (c 32) 7 (nI (nk + 1)) 7) then c 20 j else 0) else 0 := fun j => rfl
  rw [bk_split, bk_set bkA_len (by simp) hk, List.set_append_left _ _ (by rw [bkA_len]; decide), bk_split (c := tput c 32 (upd (c 32) 7 (nI (nk + 1))))]
  rw [rg_set (f2 := fun k => iA D 6 (bookC (tput c 32 (upd (c 32) 7 (nI (nk + 1)))) k)) hk ?_ ?_]
  · rfl
  · show iA D 6 (bookC (tput c 32 (upd (c 32) 7 (nI (nk + 1)))) nk) = _
    rw [hb, e2]
    congr 4
    funext i
    simp only [bookC, e1, upd, h20]
    by_cases h5 : i = 5
    · subst h5; simp
    · simp [h5]
  · intro j h1 h2
    show iA D 6 (bookC (tput c 32 (upd (c 32) 7 (nI (nk + 1)))) j) = iA D 6 (bookC c j)
    rw [hb, e2]
    congr 4
    funext i
    simp only [bookC, e1, show (j < nk + 1) = (j < nk) from propext ⟨fun _ => by omega, fun _ => by omega⟩]
theorem bk_2 {c : T2} {k : Nat} : bookC c k 2 = c 17 k := rfl
def sp_mend (c : T2) (P : Nat → Int32) (k m : Int32) : Int32 × T2 := if ¬ btw (nI 0) k (c 32 7 - nI 1) then (-1, c) else if ¬ inn m 1000000 then (-2, c) else if ¬ c 20 (tn k) = -1 then (-3, c) else (c 17 (tn k), tput (tput c 19 (upd (c 19) (tn k) m)) 20 (upd (c 20) (tn k) (P 234)))
theorem d_FG_mend_0 : decode M_FG_mend.2.1 0 = .ok (.iload_n 1, 1) := by decide +kernel
theorem d_FG_mend_1 : decode M_FG_mend.2.1 1 = .ok (.iconst 0, 1) := by decide +kernel
theorem d_FG_mend_2 : decode M_FG_mend.2.1 2 = .ok (.aload_n 0, 1) := by decide +kernel
theorem d_FG_mend_3 : decode M_FG_mend.2.1 3 = .ok (.getfield 236, 3) := by decide +kernel
theorem d_FG_mend_6 : decode M_FG_mend.2.1 6 = .ok (.iconst 1, 1) := by decide +kernel
theorem d_FG_mend_7 : decode M_FG_mend.2.1 7 = .ok (.isub, 1) := by decide +kernel
theorem d_FG_mend_8 : decode M_FG_mend.2.1 8 = .ok (.invokestatic 61, 3) := by decide +kernel
theorem d_FG_mend_11 : decode M_FG_mend.2.1 11 = .ok (.ifCond .ne 5, 3) := by decide +kernel
theorem d_FG_mend_14 : decode M_FG_mend.2.1 14 = .ok (.iconst (-1), 1) := by decide +kernel
theorem d_FG_mend_15 : decode M_FG_mend.2.1 15 = .ok (.ireturn, 1) := by decide +kernel
theorem d_FG_mend_16 : decode M_FG_mend.2.1 16 = .ok (.iload_n 2, 1) := by decide +kernel
theorem d_FG_mend_17 : decode M_FG_mend.2.1 17 = .ok (.iconst 0, 1) := by decide +kernel
theorem d_FG_mend_18 : decode M_FG_mend.2.1 18 = .ok (.ldc_w 296, 3) := by decide +kernel
theorem d_FG_mend_21 : decode M_FG_mend.2.1 21 = .ok (.invokestatic 61, 3) := by decide +kernel
theorem d_FG_mend_24 : decode M_FG_mend.2.1 24 = .ok (.ifCond .ne 6, 3) := by decide +kernel
theorem d_FG_mend_27 : decode M_FG_mend.2.1 27 = .ok (.bipush (-2), 2) := by decide +kernel
theorem d_FG_mend_29 : decode M_FG_mend.2.1 29 = .ok (.ireturn, 1) := by decide +kernel
theorem d_FG_mend_30 : decode M_FG_mend.2.1 30 = .ok (.aload_n 0, 1) := by decide +kernel
theorem d_FG_mend_31 : decode M_FG_mend.2.1 31 = .ok (.getfield 44, 3) := by decide +kernel
theorem d_FG_mend_34 : decode M_FG_mend.2.1 34 = .ok (.iload_n 1, 1) := by decide +kernel
theorem d_FG_mend_35 : decode M_FG_mend.2.1 35 = .ok (.aaload, 1) := by decide +kernel
theorem d_FG_mend_36 : decode M_FG_mend.2.1 36 = .ok (.astore_n 3, 1) := by decide +kernel
theorem d_FG_mend_37 : decode M_FG_mend.2.1 37 = .ok (.aload_n 3, 1) := by decide +kernel
theorem d_FG_mend_38 : decode M_FG_mend.2.1 38 = .ok (.iconst 5, 1) := by decide +kernel
theorem d_FG_mend_39 : decode M_FG_mend.2.1 39 = .ok (.iaload, 1) := by decide +kernel
theorem d_FG_mend_40 : decode M_FG_mend.2.1 40 = .ok (.iconst (-1), 1) := by decide +kernel
theorem d_FG_mend_41 : decode M_FG_mend.2.1 41 = .ok (.if_icmp .eq 6, 3) := by decide +kernel
theorem d_FG_mend_44 : decode M_FG_mend.2.1 44 = .ok (.bipush (-3), 2) := by decide +kernel
theorem d_FG_mend_46 : decode M_FG_mend.2.1 46 = .ok (.ireturn, 1) := by decide +kernel
theorem d_FG_mend_47 : decode M_FG_mend.2.1 47 = .ok (.aload_n 3, 1) := by decide +kernel
theorem d_FG_mend_48 : decode M_FG_mend.2.1 48 = .ok (.iconst 4, 1) := by decide +kernel
theorem d_FG_mend_49 : decode M_FG_mend.2.1 49 = .ok (.iload_n 2, 1) := by decide +kernel
theorem d_FG_mend_50 : decode M_FG_mend.2.1 50 = .ok (.iastore, 1) := by decide +kernel
theorem d_FG_mend_51 : decode M_FG_mend.2.1 51 = .ok (.aload_n 3, 1) := by decide +kernel
theorem d_FG_mend_52 : decode M_FG_mend.2.1 52 = .ok (.iconst 5, 1) := by decide +kernel
theorem d_FG_mend_53 : decode M_FG_mend.2.1 53 = .ok (.aload_n 0, 1) := by decide +kernel
theorem d_FG_mend_54 : decode M_FG_mend.2.1 54 = .ok (.getfield 19, 3) := by decide +kernel
theorem d_FG_mend_57 : decode M_FG_mend.2.1 57 = .ok (.getfield 111, 3) := by decide +kernel
theorem d_FG_mend_60 : decode M_FG_mend.2.1 60 = .ok (.iastore, 1) := by decide +kernel
theorem d_FG_mend_61 : decode M_FG_mend.2.1 61 = .ok (.aload_n 3, 1) := by decide +kernel
theorem d_FG_mend_62 : decode M_FG_mend.2.1 62 = .ok (.iconst 2, 1) := by decide +kernel
theorem d_FG_mend_63 : decode M_FG_mend.2.1 63 = .ok (.iaload, 1) := by decide +kernel
theorem d_FG_mend_64 : decode M_FG_mend.2.1 64 = .ok (.ireturn, 1) := by decide +kernel
set_option maxHeartbeats 4000000 in
set_option maxRecDepth 100000 in
theorem ok_FG_mend {D : xD} {N : Nat} {l : Launch} {d : Nat} {c x V : T2} {P : Nat → Int32} {ln df : Nat → Option Nat} {rest : List va_E} {K : Option Value → List va_E → Prop} {k : Int32} {m : Int32} {nk : Nat} (hnk : c 32 7 = nI nk) (h30 : nk ≤ 30)  (hK : K (some (.int (sp_mend c P k m).1)) (encC D N (sp_mend c P k m).2 x (va_up V 0 P) ln df ++ rest)) : Ok D N l (d + 1) M_FG_mend [.ref (N + 0), .int k, .int m] (encC D N c x (va_up V 0 P) ln df ++ rest) 0 0 K := by
  refine ok_of (L := [(0, _), (1, _), (2, _)]) (by decide) (Nat.le_of_ble_eq_true rfl) rfl ?_
  refine wp_iload_n (q := 1) d_FG_mend_0 rfl rfl ?_
  refine wp_iconst (q := 2) d_FG_mend_1 rfl ic_0 ?_
  refine wp_aload_n (q := 3) d_FG_mend_2 rfl rfl ?_
  refine wp_get (q := 6) fl_FG_236 d_FG_mend_3 rfl rfl rfl ?_
  refine wp_iconst (q := 7) d_FG_mend_6 rfl ic_1 ?_
  refine wp_isub (q := 8) d_FG_mend_7 rfl ?_
  refine wp_cs3 (q := 11) lk_FG_61 (ro _ _ _) d_FG_mend_8 rfl (Nat.le_of_ble_eq_true rfl) (Nat.zero_le _) (Nat.zero_le _) ?_
  refine ok_FG_within (fun hia hib => ?_) (fun hi1 => ?_)
  · obtain ⟨k1, hk1, rfl⟩ := (inb_iff hnk (by omega)).mp ((inb_sub hnk (by omega)).mp ⟨hia, hib⟩)
    refine wp_if_ne_t (tgt := 16) d_FG_mend_11 (by decide) (by decide) ?_
    refine wp_iload_n (q := 17) d_FG_mend_16 rfl rfl ?_
    refine wp_iconst (q := 18) d_FG_mend_17 rfl ic_0 ?_
    refine wp_ldcw (q := 21) d_FG_mend_18 rfl kc_FG_296 ?_
    refine wp_cs3 (q := 24) lk_FG_61 (ro _ _ _) d_FG_mend_21 rfl (Nat.le_of_ble_eq_true rfl) (Nat.zero_le _) (Nat.zero_le _) ?_
    refine ok_FG_within0 (b := 1000000) (by decide) (fun m1 hm1 e => ?_) (fun hm1 => ?_)
    · subst e
      refine wp_if_ne_t (tgt := 30) d_FG_mend_24 (by decide) (by decide) ?_
      refine wp_aload_n (q := 31) d_FG_mend_30 rfl rfl ?_
      refine wp_get (q := 34) fl_FG_44 d_FG_mend_31 rfl rfl rfl ?_
      refine wp_iload_n (q := 35) d_FG_mend_34 rfl rfl ?_
      refine wp_aldA (q := 36) d_FG_mend_35 rfl (rfl) (by omega) (by decide) (rows_at (by omega)) ?_
      refine wp_astore_n (q := 37) (L2 := [(3, _), (0, _), (1, _), (2, _)]) d_FG_mend_36 rfl (by decide) rfl ?_
      refine wp_aload_n (q := 38) d_FG_mend_37 rfl rfl ?_
      refine wp_iconst (q := 39) d_FG_mend_38 rfl ic_5 ?_
      refine wp_iald (q := 40) d_FG_mend_39 rfl (rd_book (by omega)) (by omega) (by decide) ?_
      rw [show bookC c k1 5 = c 20 k1 by simp [bookC, hnk, tnt (show nk < 31 by omega), hk1]]
      refine wp_iconst (q := 41) d_FG_mend_40 rfl ic_m1 ?_
      refine wp_icmp_eq (q := 44) (tgt := 47) d_FG_mend_41 (by decide) rfl (fun hc_41 => ?_) (fun hc_41 => ?_)
      · refine wp_aload_n (q := 48) d_FG_mend_47 rfl rfl ?_
        refine wp_iconst (q := 49) d_FG_mend_48 rfl ic_4 ?_
        refine wp_iload_n (q := 50) d_FG_mend_49 rfl rfl ?_
        refine wp_iast (q := 51) d_FG_mend_50 rfl (rd_book (by omega)) (by omega) (by decide) (fd_bk4 (by omega)) ?_
        refine wp_aload_n (q := 52) d_FG_mend_51 rfl rfl ?_
        refine wp_iconst (q := 53) d_FG_mend_52 rfl ic_5 ?_
        refine wp_aload_n (q := 54) d_FG_mend_53 rfl rfl ?_
        refine wp_get (q := 57) fl_FG_19 d_FG_mend_54 rfl rfl rfl ?_
        refine wp_get (q := 60) fl_FG_111 d_FG_mend_57 rfl (rdO (w := 0) (by decide)) rfl ?_
        refine wp_iast (q := 61) d_FG_mend_60 rfl (rd_book (by omega)) (by omega) (by decide) (fd_bk5 (by omega) (by simp (disch := omega) only [tput_ne, hnk]; rw [tnt (show nk < 31 by omega)]; exact hk1)) ?_
        refine wp_aload_n (q := 62) d_FG_mend_61 rfl rfl ?_
        refine wp_iconst (q := 63) d_FG_mend_62 rfl ic_2 ?_
        refine wp_iald (q := 64) d_FG_mend_63 rfl (rd_book (by omega)) (by omega) (by decide) ?_
        refine wp_iret d_FG_mend_64 rfl (Nat.le_refl _) (Nat.le_refl _) ?_
        simp only [sp_mend, inn, inb, inm, btw, hia, hib, tnt (show k1 < 31 by omega), inn_t hm1, tnl hm1, hc_41, not_true_eq_false, not_false_eq_true, or_false, false_or, or_true, true_or, and_true, true_and, and_false, false_and, or_self, and_self, if_true, if_false, ite_true, ite_false, eq_self] at hK
        first | exact hK | (simp (disch := omega) only [tput_eq, tput2, tput_ne, upd_eq, upd_ne, ne_eq, va_upeq, va_upne, va_up2, bk_2, not_true_eq_false, not_false_eq_true, or_false, false_or, or_true, true_or, and_true, true_and, and_false, false_and, or_self, and_self, if_true, if_false, ite_true, ite_false, eq_self] at hK ⊢; exact hK) | (simp (disch := omega) only [tput_eq, tput2, tput_ne, upd_eq, upd_ne, ne_eq, va_upeq, va_upne, va_up2, bk_2, not_true_eq_false, not_false_eq_true, or_false, false_or, or_true, true_or, and_true, true_and, and_false, false_and, or_self, and_self, if_true, if_false, ite_true, ite_false, eq_self]; exact hK) | (simp (disch := omega) only [tput_eq, tput2, tput_ne, upd_eq, upd_ne, ne_eq, va_upeq, va_upne, va_up2, bk_2, not_true_eq_false, not_false_eq_true, or_false, false_or, or_true, true_or, and_true, true_and, and_false, false_and, or_self, and_self, if_true, if_false, ite_true, ite_false, eq_self] at hK; exact hK)
      · refine wp_bipush (q := 46) d_FG_mend_44 rfl bp_m3 ?_
        refine wp_iret d_FG_mend_46 rfl (Nat.le_refl _) (Nat.le_refl _) ?_
        simp only [sp_mend, inn, inb, inm, btw, hia, hib, tnt (show k1 < 31 by omega), inn_t hm1, tnl hm1, hc_41, not_true_eq_false, not_false_eq_true, or_false, false_or, or_true, true_or, and_true, true_and, and_false, false_and, or_self, and_self, if_true, if_false, ite_true, ite_false, eq_self] at hK
        first | exact hK | (simp (disch := omega) only [tput_eq, tput2, tput_ne, upd_eq, upd_ne, ne_eq, va_upeq, va_upne, va_up2, bk_2, not_true_eq_false, not_false_eq_true, or_false, false_or, or_true, true_or, and_true, true_and, and_false, false_and, or_self, and_self, if_true, if_false, ite_true, ite_false, eq_self] at hK ⊢; exact hK) | (simp (disch := omega) only [tput_eq, tput2, tput_ne, upd_eq, upd_ne, ne_eq, va_upeq, va_upne, va_up2, bk_2, not_true_eq_false, not_false_eq_true, or_false, false_or, or_true, true_or, and_true, true_and, and_false, false_and, or_self, and_self, if_true, if_false, ite_true, ite_false, eq_self]; exact hK) | (simp (disch := omega) only [tput_eq, tput2, tput_ne, upd_eq, upd_ne, ne_eq, va_upeq, va_upne, va_up2, bk_2, not_true_eq_false, not_false_eq_true, or_false, false_or, or_true, true_or, and_true, true_and, and_false, false_and, or_self, and_self, if_true, if_false, ite_true, ite_false, eq_self] at hK; exact hK)
    · refine wp_if_ne_f (q := 27) (tgt := 30) d_FG_mend_24 (by decide) rfl (by decide) ?_
      refine wp_bipush (q := 29) d_FG_mend_27 rfl bp_m2 ?_
      refine wp_iret d_FG_mend_29 rfl (Nat.le_refl _) (Nat.le_refl _) ?_
      simp only [sp_mend, inn, inb, inm, btw, hia, hib, tnt (show k1 < 31 by omega), hm1, not_true_eq_false, not_false_eq_true, or_false, false_or, or_true, true_or, and_true, true_and, and_false, false_and, or_self, and_self, if_true, if_false, ite_true, ite_false, eq_self] at hK
      first | exact hK | (simp (disch := omega) only [tput_eq, tput2, tput_ne, upd_eq, upd_ne, ne_eq, va_upeq, va_upne, va_up2, bk_2, not_true_eq_false, not_false_eq_true, or_false, false_or, or_true, true_or, and_true, true_and, and_false, false_and, or_self, and_self, if_true, if_false, ite_true, ite_false, eq_self] at hK ⊢; exact hK) | (simp (disch := omega) only [tput_eq, tput2, tput_ne, upd_eq, upd_ne, ne_eq, va_upeq, va_upne, va_up2, bk_2, not_true_eq_false, not_false_eq_true, or_false, false_or, or_true, true_or, and_true, true_and, and_false, false_and, or_self, and_self, if_true, if_false, ite_true, ite_false, eq_self]; exact hK) | (simp (disch := omega) only [tput_eq, tput2, tput_ne, upd_eq, upd_ne, ne_eq, va_upeq, va_upne, va_up2, bk_2, not_true_eq_false, not_false_eq_true, or_false, false_or, or_true, true_or, and_true, true_and, and_false, false_and, or_self, and_self, if_true, if_false, ite_true, ite_false, eq_self] at hK; exact hK)
  · refine wp_if_ne_f (q := 14) (tgt := 16) d_FG_mend_11 (by decide) rfl (by decide) ?_
    refine wp_iconst (q := 15) d_FG_mend_14 rfl ic_m1 ?_
    refine wp_iret d_FG_mend_15 rfl (Nat.le_refl _) (Nat.le_refl _) ?_
    simp only [sp_mend, inn, inb, inm, btw, hi1, not_true_eq_false, not_false_eq_true, or_false, false_or, or_true, true_or, and_true, true_and, and_false, false_and, or_self, and_self, if_true, if_false, ite_true, ite_false, eq_self] at hK
    first | exact hK | (simp (disch := omega) only [tput_eq, tput2, tput_ne, upd_eq, upd_ne, ne_eq, va_upeq, va_upne, va_up2, bk_2, not_true_eq_false, not_false_eq_true, or_false, false_or, or_true, true_or, and_true, true_and, and_false, false_and, or_self, and_self, if_true, if_false, ite_true, ite_false, eq_self] at hK ⊢; exact hK) | (simp (disch := omega) only [tput_eq, tput2, tput_ne, upd_eq, upd_ne, ne_eq, va_upeq, va_upne, va_up2, bk_2, not_true_eq_false, not_false_eq_true, or_false, false_or, or_true, true_or, and_true, true_and, and_false, false_and, or_self, and_self, if_true, if_false, ite_true, ite_false, eq_self]; exact hK) | (simp (disch := omega) only [tput_eq, tput2, tput_ne, upd_eq, upd_ne, ne_eq, va_upeq, va_upne, va_up2, bk_2, not_true_eq_false, not_false_eq_true, or_false, false_or, or_true, true_or, and_true, true_and, and_false, false_and, or_self, and_self, if_true, if_false, ite_true, ite_false, eq_self] at hK; exact hK)
theorem d_Rf_mend_0 : decode M_Rf_mend.2.1 0 = .ok (.iload_n 1, 1) := by decide +kernel
theorem d_Rf_mend_1 : decode M_Rf_mend.2.1 1 = .ok (.iconst 0, 1) := by decide +kernel
theorem d_Rf_mend_2 : decode M_Rf_mend.2.1 2 = .ok (.aload_n 0, 1) := by decide +kernel
theorem d_Rf_mend_3 : decode M_Rf_mend.2.1 3 = .ok (.getfield 264, 3) := by decide +kernel
theorem d_Rf_mend_6 : decode M_Rf_mend.2.1 6 = .ok (.iconst 1, 1) := by decide +kernel
theorem d_Rf_mend_7 : decode M_Rf_mend.2.1 7 = .ok (.isub, 1) := by decide +kernel
theorem d_Rf_mend_8 : decode M_Rf_mend.2.1 8 = .ok (.invokestatic 151, 3) := by decide +kernel
theorem d_Rf_mend_11 : decode M_Rf_mend.2.1 11 = .ok (.ifCond .ne 5, 3) := by decide +kernel
theorem d_Rf_mend_14 : decode M_Rf_mend.2.1 14 = .ok (.iconst (-1), 1) := by decide +kernel
theorem d_Rf_mend_15 : decode M_Rf_mend.2.1 15 = .ok (.ireturn, 1) := by decide +kernel
theorem d_Rf_mend_16 : decode M_Rf_mend.2.1 16 = .ok (.iload_n 2, 1) := by decide +kernel
theorem d_Rf_mend_17 : decode M_Rf_mend.2.1 17 = .ok (.iconst 0, 1) := by decide +kernel
theorem d_Rf_mend_18 : decode M_Rf_mend.2.1 18 = .ok (.ldc_w 270, 3) := by decide +kernel
theorem d_Rf_mend_21 : decode M_Rf_mend.2.1 21 = .ok (.invokestatic 151, 3) := by decide +kernel
theorem d_Rf_mend_24 : decode M_Rf_mend.2.1 24 = .ok (.ifCond .ne 6, 3) := by decide +kernel
theorem d_Rf_mend_27 : decode M_Rf_mend.2.1 27 = .ok (.bipush (-2), 2) := by decide +kernel
theorem d_Rf_mend_29 : decode M_Rf_mend.2.1 29 = .ok (.ireturn, 1) := by decide +kernel
theorem d_Rf_mend_30 : decode M_Rf_mend.2.1 30 = .ok (.aload_n 0, 1) := by decide +kernel
theorem d_Rf_mend_31 : decode M_Rf_mend.2.1 31 = .ok (.getfield 74, 3) := by decide +kernel
theorem d_Rf_mend_34 : decode M_Rf_mend.2.1 34 = .ok (.iload_n 1, 1) := by decide +kernel
theorem d_Rf_mend_35 : decode M_Rf_mend.2.1 35 = .ok (.iaload, 1) := by decide +kernel
theorem d_Rf_mend_36 : decode M_Rf_mend.2.1 36 = .ok (.iconst (-1), 1) := by decide +kernel
theorem d_Rf_mend_37 : decode M_Rf_mend.2.1 37 = .ok (.if_icmp .eq 6, 3) := by decide +kernel
theorem d_Rf_mend_40 : decode M_Rf_mend.2.1 40 = .ok (.bipush (-3), 2) := by decide +kernel
theorem d_Rf_mend_42 : decode M_Rf_mend.2.1 42 = .ok (.ireturn, 1) := by decide +kernel
theorem d_Rf_mend_43 : decode M_Rf_mend.2.1 43 = .ok (.aload_n 0, 1) := by decide +kernel
theorem d_Rf_mend_44 : decode M_Rf_mend.2.1 44 = .ok (.getfield 71, 3) := by decide +kernel
theorem d_Rf_mend_47 : decode M_Rf_mend.2.1 47 = .ok (.iload_n 1, 1) := by decide +kernel
theorem d_Rf_mend_48 : decode M_Rf_mend.2.1 48 = .ok (.iload_n 2, 1) := by decide +kernel
theorem d_Rf_mend_49 : decode M_Rf_mend.2.1 49 = .ok (.iastore, 1) := by decide +kernel
theorem d_Rf_mend_50 : decode M_Rf_mend.2.1 50 = .ok (.aload_n 0, 1) := by decide +kernel
theorem d_Rf_mend_51 : decode M_Rf_mend.2.1 51 = .ok (.getfield 74, 3) := by decide +kernel
theorem d_Rf_mend_54 : decode M_Rf_mend.2.1 54 = .ok (.iload_n 1, 1) := by decide +kernel
theorem d_Rf_mend_55 : decode M_Rf_mend.2.1 55 = .ok (.aload_n 0, 1) := by decide +kernel
theorem d_Rf_mend_56 : decode M_Rf_mend.2.1 56 = .ok (.getfield 7, 3) := by decide +kernel
theorem d_Rf_mend_59 : decode M_Rf_mend.2.1 59 = .ok (.sipush 234, 3) := by decide +kernel
theorem d_Rf_mend_62 : decode M_Rf_mend.2.1 62 = .ok (.iaload, 1) := by decide +kernel
theorem d_Rf_mend_63 : decode M_Rf_mend.2.1 63 = .ok (.iastore, 1) := by decide +kernel
theorem d_Rf_mend_64 : decode M_Rf_mend.2.1 64 = .ok (.aload_n 0, 1) := by decide +kernel
theorem d_Rf_mend_65 : decode M_Rf_mend.2.1 65 = .ok (.getfield 65, 3) := by decide +kernel
theorem d_Rf_mend_68 : decode M_Rf_mend.2.1 68 = .ok (.iload_n 1, 1) := by decide +kernel
theorem d_Rf_mend_69 : decode M_Rf_mend.2.1 69 = .ok (.iaload, 1) := by decide +kernel
theorem d_Rf_mend_70 : decode M_Rf_mend.2.1 70 = .ok (.ireturn, 1) := by decide +kernel
set_option maxHeartbeats 4000000 in
set_option maxRecDepth 100000 in
theorem ok_Rf_mend {D : xD} {N : Nat} {l : Launch} {d : Nat} {c z : T2} {P Q : Nat → Int32} {rest : List va_E} {K : Option Value → List va_E → Prop} {k : Int32} {m : Int32} {nk : Nat} (hnk : c 32 7 = nI nk) (h30 : nk ≤ 30)  (hK : K (some (.int (sp_mend c P k m).1)) (encR D N (sp_mend c P k m).2 z P Q ++ rest)) : Ok D N l (d + 1) M_Rf_mend [.ref (N + 0), .int k, .int m] (encR D N c z P Q ++ rest) 0 0 K := by
  refine ok_of (L := [(0, _), (1, _), (2, _)]) (by decide) (Nat.le_of_ble_eq_true rfl) rfl ?_
  refine wp_iload_n (q := 1) d_Rf_mend_0 rfl rfl ?_
  refine wp_iconst (q := 2) d_Rf_mend_1 rfl ic_0 ?_
  refine wp_aload_n (q := 3) d_Rf_mend_2 rfl rfl ?_
  refine wp_get (q := 6) fl_Rf_264 d_Rf_mend_3 rfl rfl rfl ?_
  refine wp_iconst (q := 7) d_Rf_mend_6 rfl ic_1 ?_
  refine wp_isub (q := 8) d_Rf_mend_7 rfl ?_
  refine wp_cs3 (q := 11) lk_Rf_151 (ro _ _ _) d_Rf_mend_8 rfl (Nat.le_of_ble_eq_true rfl) (Nat.zero_le _) (Nat.zero_le _) ?_
  refine ok_Rf_in (fun hia hib => ?_) (fun hi1 => ?_)
  · obtain ⟨k1, hk1, rfl⟩ := (inb_iff hnk (by omega)).mp ((inb_sub hnk (by omega)).mp ⟨hia, hib⟩)
    refine wp_if_ne_t (tgt := 16) d_Rf_mend_11 (by decide) (by decide) ?_
    refine wp_iload_n (q := 17) d_Rf_mend_16 rfl rfl ?_
    refine wp_iconst (q := 18) d_Rf_mend_17 rfl ic_0 ?_
    refine wp_ldcw (q := 21) d_Rf_mend_18 rfl kc_Rf_270 ?_
    refine wp_cs3 (q := 24) lk_Rf_151 (ro _ _ _) d_Rf_mend_21 rfl (Nat.le_of_ble_eq_true rfl) (Nat.zero_le _) (Nat.zero_le _) ?_
    refine ok_Rf_in0 (b := 1000000) (by decide) (fun m1 hm1 e => ?_) (fun hm1 => ?_)
    · subst e
      refine wp_if_ne_t (tgt := 30) d_Rf_mend_24 (by decide) (by decide) ?_
      refine wp_aload_n (q := 31) d_Rf_mend_30 rfl rfl ?_
      refine wp_get (q := 34) fl_Rf_74 d_Rf_mend_31 rfl rfl rfl ?_
      refine wp_iload_n (q := 35) d_Rf_mend_34 rfl rfl ?_
      refine wp_iald (q := 36) d_Rf_mend_35 rfl (rfl) (by omega) (by decide) ?_
      refine wp_iconst (q := 37) d_Rf_mend_36 rfl ic_m1 ?_
      refine wp_icmp_eq (q := 40) (tgt := 43) d_Rf_mend_37 (by decide) rfl (fun hc_37 => ?_) (fun hc_37 => ?_)
      · refine wp_aload_n (q := 44) d_Rf_mend_43 rfl rfl ?_
        refine wp_get (q := 47) fl_Rf_71 d_Rf_mend_44 rfl rfl rfl ?_
        refine wp_iload_n (q := 48) d_Rf_mend_47 rfl rfl ?_
        refine wp_iload_n (q := 49) d_Rf_mend_48 rfl rfl ?_
        refine wp_iast (q := 50) d_Rf_mend_49 rfl (rfl) (by omega) (by decide) (fr_21) ?_
        refine wp_aload_n (q := 51) d_Rf_mend_50 rfl rfl ?_
        refine wp_get (q := 54) fl_Rf_74 d_Rf_mend_51 rfl rfl rfl ?_
        refine wp_iload_n (q := 55) d_Rf_mend_54 rfl rfl ?_
        refine wp_aload_n (q := 56) d_Rf_mend_55 rfl rfl ?_
        refine wp_get (q := 59) fl_Rf_7 d_Rf_mend_56 rfl rfl rfl ?_
        refine wp_sipush (q := 62) d_Rf_mend_59 rfl sp_234 ?_
        refine wp_iald (q := 63) d_Rf_mend_62 rfl (rfl) (by omega) (by decide) ?_
        refine wp_iast (q := 64) d_Rf_mend_63 rfl (rfl) (by omega) (by decide) (fr_22) ?_
        refine wp_aload_n (q := 65) d_Rf_mend_64 rfl rfl ?_
        refine wp_get (q := 68) fl_Rf_65 d_Rf_mend_65 rfl rfl rfl ?_
        refine wp_iload_n (q := 69) d_Rf_mend_68 rfl rfl ?_
        refine wp_iald (q := 70) d_Rf_mend_69 rfl (rfl) (by omega) (by decide) ?_
        refine wp_iret d_Rf_mend_70 rfl (Nat.le_refl _) (Nat.le_refl _) ?_
        simp only [sp_mend, inn, inb, inm, btw, hia, hib, tnt (show k1 < 31 by omega), inn_t hm1, tnl hm1, hc_37, not_true_eq_false, not_false_eq_true, or_false, false_or, or_true, true_or, and_true, true_and, and_false, false_and, or_self, and_self, if_true, if_false, ite_true, ite_false, eq_self] at hK
        first | exact hK | (simp (disch := omega) only [tput_eq, tput2, tput_ne, upd_eq, upd_ne, ne_eq, va_upeq, va_upne, va_up2, not_true_eq_false, not_false_eq_true, or_false, false_or, or_true, true_or, and_true, true_and, and_false, false_and, or_self, and_self, if_true, if_false, ite_true, ite_false, eq_self] at hK ⊢; exact hK) | (simp (disch := omega) only [tput_eq, tput2, tput_ne, upd_eq, upd_ne, ne_eq, va_upeq, va_upne, va_up2, not_true_eq_false, not_false_eq_true, or_false, false_or, or_true, true_or, and_true, true_and, and_false, false_and, or_self, and_self, if_true, if_false, ite_true, ite_false, eq_self]; exact hK) | (simp (disch := omega) only [tput_eq, tput2, tput_ne, upd_eq, upd_ne, ne_eq, va_upeq, va_upne, va_up2, not_true_eq_false, not_false_eq_true, or_false, false_or, or_true, true_or, and_true, true_and, and_false, false_and, or_self, and_self, if_true, if_false, ite_true, ite_false, eq_self] at hK; exact hK)
      · refine wp_bipush (q := 42) d_Rf_mend_40 rfl bp_m3 ?_
        refine wp_iret d_Rf_mend_42 rfl (Nat.le_refl _) (Nat.le_refl _) ?_
        simp only [sp_mend, inn, inb, inm, btw, hia, hib, tnt (show k1 < 31 by omega), inn_t hm1, tnl hm1, hc_37, not_true_eq_false, not_false_eq_true, or_false, false_or, or_true, true_or, and_true, true_and, and_false, false_and, or_self, and_self, if_true, if_false, ite_true, ite_false, eq_self] at hK
        first | exact hK | (simp (disch := omega) only [tput_eq, tput2, tput_ne, upd_eq, upd_ne, ne_eq, va_upeq, va_upne, va_up2, not_true_eq_false, not_false_eq_true, or_false, false_or, or_true, true_or, and_true, true_and, and_false, false_and, or_self, and_self, if_true, if_false, ite_true, ite_false, eq_self] at hK ⊢; exact hK) | (simp (disch := omega) only [tput_eq, tput2, tput_ne, upd_eq, upd_ne, ne_eq, va_upeq, va_upne, va_up2, not_true_eq_false, not_false_eq_true, or_false, false_or, or_true, true_or, and_true, true_and, and_false, false_and, or_self, and_self, if_true, if_false, ite_true, ite_false, eq_self]; exact hK) | (simp (disch := omega) only [tput_eq, tput2, tput_ne, upd_eq, upd_ne, ne_eq, va_upeq, va_upne, va_up2, not_true_eq_false, not_false_eq_true, or_false, false_or, or_true, true_or, and_true, true_and, and_false, false_and, or_self, and_self, if_true, if_false, ite_true, ite_false, eq_self] at hK; exact hK)
    · refine wp_if_ne_f (q := 27) (tgt := 30) d_Rf_mend_24 (by decide) rfl (by decide) ?_
      refine wp_bipush (q := 29) d_Rf_mend_27 rfl bp_m2 ?_
      refine wp_iret d_Rf_mend_29 rfl (Nat.le_refl _) (Nat.le_refl _) ?_
      simp only [sp_mend, inn, inb, inm, btw, hia, hib, tnt (show k1 < 31 by omega), hm1, not_true_eq_false, not_false_eq_true, or_false, false_or, or_true, true_or, and_true, true_and, and_false, false_and, or_self, and_self, if_true, if_false, ite_true, ite_false, eq_self] at hK
      first | exact hK | (simp (disch := omega) only [tput_eq, tput2, tput_ne, upd_eq, upd_ne, ne_eq, va_upeq, va_upne, va_up2, not_true_eq_false, not_false_eq_true, or_false, false_or, or_true, true_or, and_true, true_and, and_false, false_and, or_self, and_self, if_true, if_false, ite_true, ite_false, eq_self] at hK ⊢; exact hK) | (simp (disch := omega) only [tput_eq, tput2, tput_ne, upd_eq, upd_ne, ne_eq, va_upeq, va_upne, va_up2, not_true_eq_false, not_false_eq_true, or_false, false_or, or_true, true_or, and_true, true_and, and_false, false_and, or_self, and_self, if_true, if_false, ite_true, ite_false, eq_self]; exact hK) | (simp (disch := omega) only [tput_eq, tput2, tput_ne, upd_eq, upd_ne, ne_eq, va_upeq, va_upne, va_up2, not_true_eq_false, not_false_eq_true, or_false, false_or, or_true, true_or, and_true, true_and, and_false, false_and, or_self, and_self, if_true, if_false, ite_true, ite_false, eq_self] at hK; exact hK)
  · refine wp_if_ne_f (q := 14) (tgt := 16) d_Rf_mend_11 (by decide) rfl (by decide) ?_
    refine wp_iconst (q := 15) d_Rf_mend_14 rfl ic_m1 ?_
    refine wp_iret d_Rf_mend_15 rfl (Nat.le_refl _) (Nat.le_refl _) ?_
    simp only [sp_mend, inn, inb, inm, btw, hi1, not_true_eq_false, not_false_eq_true, or_false, false_or, or_true, true_or, and_true, true_and, and_false, false_and, or_self, and_self, if_true, if_false, ite_true, ite_false, eq_self] at hK
    first | exact hK | (simp (disch := omega) only [tput_eq, tput2, tput_ne, upd_eq, upd_ne, ne_eq, va_upeq, va_upne, va_up2, not_true_eq_false, not_false_eq_true, or_false, false_or, or_true, true_or, and_true, true_and, and_false, false_and, or_self, and_self, if_true, if_false, ite_true, ite_false, eq_self] at hK ⊢; exact hK) | (simp (disch := omega) only [tput_eq, tput2, tput_ne, upd_eq, upd_ne, ne_eq, va_upeq, va_upne, va_up2, not_true_eq_false, not_false_eq_true, or_false, false_or, or_true, true_or, and_true, true_and, and_false, false_and, or_self, and_self, if_true, if_false, ite_true, ite_false, eq_self]; exact hK) | (simp (disch := omega) only [tput_eq, tput2, tput_ne, upd_eq, upd_ne, ne_eq, va_upeq, va_upne, va_up2, not_true_eq_false, not_false_eq_true, or_false, false_or, or_true, true_or, and_true, true_and, and_false, false_and, or_self, and_self, if_true, if_false, ite_true, ite_false, eq_self] at hK; exact hK)
def sp_book (c : T2) (P : Nat → Int32) (nk : Nat) (b y s : Int32) : Int32 × T2 := if ¬ inb c b then (-1, c) else if ¬ inn y 9 ∨ ¬ inn s 1000000 then (-2, c) else if nk = 30 then (-4, c) else (nI nk, tput (tput (tput (tput (tput c 15 (upd (c 15) nk b)) 16 (upd (c 16) nk y)) 17 (upd (c 17) nk s)) 18 (upd (c 18) nk (P 234))) 32 (upd (c 32) 7 (nI (nk + 1))))
theorem d_FG_book_0 : decode M_FG_book.2.1 0 = .ok (.aload_n 0, 1) := by decide +kernel
theorem d_FG_book_1 : decode M_FG_book.2.1 1 = .ok (.iload_n 1, 1) := by decide +kernel
theorem d_FG_book_2 : decode M_FG_book.2.1 2 = .ok (.invokevirtual 82, 3) := by decide +kernel
theorem d_FG_book_5 : decode M_FG_book.2.1 5 = .ok (.ifCond .ne 5, 3) := by decide +kernel
theorem d_FG_book_8 : decode M_FG_book.2.1 8 = .ok (.iconst (-1), 1) := by decide +kernel
theorem d_FG_book_9 : decode M_FG_book.2.1 9 = .ok (.ireturn, 1) := by decide +kernel
theorem d_FG_book_10 : decode M_FG_book.2.1 10 = .ok (.iload_n 2, 1) := by decide +kernel
theorem d_FG_book_11 : decode M_FG_book.2.1 11 = .ok (.iconst 0, 1) := by decide +kernel
theorem d_FG_book_12 : decode M_FG_book.2.1 12 = .ok (.bipush 9, 2) := by decide +kernel
theorem d_FG_book_14 : decode M_FG_book.2.1 14 = .ok (.invokestatic 61, 3) := by decide +kernel
theorem d_FG_book_17 : decode M_FG_book.2.1 17 = .ok (.ifCond .eq 14, 3) := by decide +kernel
theorem d_FG_book_20 : decode M_FG_book.2.1 20 = .ok (.iload_n 3, 1) := by decide +kernel
theorem d_FG_book_21 : decode M_FG_book.2.1 21 = .ok (.iconst 0, 1) := by decide +kernel
theorem d_FG_book_22 : decode M_FG_book.2.1 22 = .ok (.ldc_w 296, 3) := by decide +kernel
theorem d_FG_book_25 : decode M_FG_book.2.1 25 = .ok (.invokestatic 61, 3) := by decide +kernel
theorem d_FG_book_28 : decode M_FG_book.2.1 28 = .ok (.ifCond .ne 6, 3) := by decide +kernel
theorem d_FG_book_31 : decode M_FG_book.2.1 31 = .ok (.bipush (-2), 2) := by decide +kernel
theorem d_FG_book_33 : decode M_FG_book.2.1 33 = .ok (.ireturn, 1) := by decide +kernel
theorem d_FG_book_34 : decode M_FG_book.2.1 34 = .ok (.aload_n 0, 1) := by decide +kernel
theorem d_FG_book_35 : decode M_FG_book.2.1 35 = .ok (.getfield 236, 3) := by decide +kernel
theorem d_FG_book_38 : decode M_FG_book.2.1 38 = .ok (.bipush 30, 2) := by decide +kernel
theorem d_FG_book_40 : decode M_FG_book.2.1 40 = .ok (.if_icmp .lt 6, 3) := by decide +kernel
theorem d_FG_book_43 : decode M_FG_book.2.1 43 = .ok (.bipush (-4), 2) := by decide +kernel
theorem d_FG_book_45 : decode M_FG_book.2.1 45 = .ok (.ireturn, 1) := by decide +kernel
theorem d_FG_book_46 : decode M_FG_book.2.1 46 = .ok (.aload_n 0, 1) := by decide +kernel
theorem d_FG_book_47 : decode M_FG_book.2.1 47 = .ok (.getfield 44, 3) := by decide +kernel
theorem d_FG_book_50 : decode M_FG_book.2.1 50 = .ok (.aload_n 0, 1) := by decide +kernel
theorem d_FG_book_51 : decode M_FG_book.2.1 51 = .ok (.getfield 236, 3) := by decide +kernel
theorem d_FG_book_54 : decode M_FG_book.2.1 54 = .ok (.aaload, 1) := by decide +kernel
theorem d_FG_book_55 : decode M_FG_book.2.1 55 = .ok (.astore 4, 2) := by decide +kernel
theorem d_FG_book_57 : decode M_FG_book.2.1 57 = .ok (.aload 4, 2) := by decide +kernel
theorem d_FG_book_59 : decode M_FG_book.2.1 59 = .ok (.iconst 0, 1) := by decide +kernel
theorem d_FG_book_60 : decode M_FG_book.2.1 60 = .ok (.iload_n 1, 1) := by decide +kernel
theorem d_FG_book_61 : decode M_FG_book.2.1 61 = .ok (.iastore, 1) := by decide +kernel
theorem d_FG_book_62 : decode M_FG_book.2.1 62 = .ok (.aload 4, 2) := by decide +kernel
theorem d_FG_book_64 : decode M_FG_book.2.1 64 = .ok (.iconst 1, 1) := by decide +kernel
theorem d_FG_book_65 : decode M_FG_book.2.1 65 = .ok (.iload_n 2, 1) := by decide +kernel
theorem d_FG_book_66 : decode M_FG_book.2.1 66 = .ok (.iastore, 1) := by decide +kernel
theorem d_FG_book_67 : decode M_FG_book.2.1 67 = .ok (.aload 4, 2) := by decide +kernel
theorem d_FG_book_69 : decode M_FG_book.2.1 69 = .ok (.iconst 2, 1) := by decide +kernel
theorem d_FG_book_70 : decode M_FG_book.2.1 70 = .ok (.iload_n 3, 1) := by decide +kernel
theorem d_FG_book_71 : decode M_FG_book.2.1 71 = .ok (.iastore, 1) := by decide +kernel
theorem d_FG_book_72 : decode M_FG_book.2.1 72 = .ok (.aload 4, 2) := by decide +kernel
theorem d_FG_book_74 : decode M_FG_book.2.1 74 = .ok (.iconst 3, 1) := by decide +kernel
theorem d_FG_book_75 : decode M_FG_book.2.1 75 = .ok (.aload_n 0, 1) := by decide +kernel
theorem d_FG_book_76 : decode M_FG_book.2.1 76 = .ok (.getfield 19, 3) := by decide +kernel
theorem d_FG_book_79 : decode M_FG_book.2.1 79 = .ok (.getfield 111, 3) := by decide +kernel
theorem d_FG_book_82 : decode M_FG_book.2.1 82 = .ok (.iastore, 1) := by decide +kernel
theorem d_FG_book_83 : decode M_FG_book.2.1 83 = .ok (.aload 4, 2) := by decide +kernel
theorem d_FG_book_85 : decode M_FG_book.2.1 85 = .ok (.iconst 5, 1) := by decide +kernel
theorem d_FG_book_86 : decode M_FG_book.2.1 86 = .ok (.iconst (-1), 1) := by decide +kernel
theorem d_FG_book_87 : decode M_FG_book.2.1 87 = .ok (.iastore, 1) := by decide +kernel
theorem d_FG_book_88 : decode M_FG_book.2.1 88 = .ok (.aload_n 0, 1) := by decide +kernel
theorem d_FG_book_89 : decode M_FG_book.2.1 89 = .ok (.dup, 1) := by decide +kernel
theorem d_FG_book_90 : decode M_FG_book.2.1 90 = .ok (.getfield 236, 3) := by decide +kernel
theorem d_FG_book_93 : decode M_FG_book.2.1 93 = .ok (.iconst 1, 1) := by decide +kernel
theorem d_FG_book_94 : decode M_FG_book.2.1 94 = .ok (.iadd, 1) := by decide +kernel
theorem d_FG_book_95 : decode M_FG_book.2.1 95 = .ok (.putfield 236, 3) := by decide +kernel
theorem d_FG_book_98 : decode M_FG_book.2.1 98 = .ok (.aload_n 0, 1) := by decide +kernel
theorem d_FG_book_99 : decode M_FG_book.2.1 99 = .ok (.getfield 236, 3) := by decide +kernel
theorem d_FG_book_102 : decode M_FG_book.2.1 102 = .ok (.iconst 1, 1) := by decide +kernel
theorem d_FG_book_103 : decode M_FG_book.2.1 103 = .ok (.isub, 1) := by decide +kernel
theorem d_FG_book_104 : decode M_FG_book.2.1 104 = .ok (.ireturn, 1) := by decide +kernel
set_option maxHeartbeats 4000000 in
set_option maxRecDepth 100000 in
theorem ok_FG_book {D : xD} {N : Nat} {l : Launch} {d : Nat} {c x V : T2} {P : Nat → Int32} {ln df : Nat → Option Nat} {rest : List va_E} {K : Option Value → List va_E → Prop} {b : Int32} {y : Int32} {s : Int32} {nb : Nat} (hnb : c 32 1 = nI nb) (h12 : nb ≤ 12) {nk : Nat} (hnk : c 32 7 = nI nk) (h30 : nk ≤ 30) (h20 : ∀ k, nk ≤ k → k < 30 → c 20 k = -1) (hK : K (some (.int (sp_book c P nk b y s).1)) (encC D N (sp_book c P nk b y s).2 x (va_up V 0 P) ln df ++ rest)) : Ok D N l (d + 2) M_FG_book [.ref (N + 0), .int b, .int y, .int s] (encC D N c x (va_up V 0 P) ln df ++ rest) 0 0 K := by
  refine ok_of (L := [(0, _), (1, _), (2, _), (3, _)]) (by decide) (Nat.le_of_ble_eq_true rfl) rfl ?_
  refine wp_aload_n (q := 1) d_FG_book_0 rfl rfl ?_
  refine wp_iload_n (q := 2) d_FG_book_1 rfl rfl ?_
  refine wp_cv1 (q := 5) lk_FG_82 (ro _ _ _) d_FG_book_2 rfl (Nat.le_of_ble_eq_true rfl) (rfl) rfl (Nat.zero_le _) (Nat.zero_le _) ?_
  refine ok_FG_isBus hnb h12 (fun b1 hb1 e => ?_) (fun hb1 => ?_)
  · subst e
    refine wp_if_ne_t (tgt := 10) d_FG_book_5 (by decide) (by decide) ?_
    refine wp_iload_n (q := 11) d_FG_book_10 rfl rfl ?_
    refine wp_iconst (q := 12) d_FG_book_11 rfl ic_0 ?_
    refine wp_bipush (q := 14) d_FG_book_12 rfl bp_9 ?_
    refine wp_cs3 (q := 17) lk_FG_61 (ro _ _ _) d_FG_book_14 rfl (Nat.le_of_ble_eq_true rfl) (Nat.zero_le _) (Nat.zero_le _) ?_
    refine ok_FG_within0 (b := 9) (by decide) (fun y1 hy1 e => ?_) (fun hy1 => ?_)
    · subst e
      refine wp_if_eq_f (q := 20) (tgt := 31) d_FG_book_17 (by decide) rfl (by decide) ?_
      refine wp_iload_n (q := 21) d_FG_book_20 rfl rfl ?_
      refine wp_iconst (q := 22) d_FG_book_21 rfl ic_0 ?_
      refine wp_ldcw (q := 25) d_FG_book_22 rfl kc_FG_296 ?_
      refine wp_cs3 (q := 28) lk_FG_61 (ro _ _ _) d_FG_book_25 rfl (Nat.le_of_ble_eq_true rfl) (Nat.zero_le _) (Nat.zero_le _) ?_
      refine ok_FG_within0 (b := 1000000) (by decide) (fun s1 hs1 e => ?_) (fun hs1 => ?_)
      · subst e
        refine wp_if_ne_t (tgt := 34) d_FG_book_28 (by decide) (by decide) ?_
        refine wp_aload_n (q := 35) d_FG_book_34 rfl rfl ?_
        refine wp_get (q := 38) fl_FG_236 d_FG_book_35 rfl rfl rfl ?_
        simp (disch := omega) only [tput_ne, upd_ne, upd_eq, tput_eq, ne_eq, not_false_eq_true, hnk]
        refine wp_bipush (q := 40) d_FG_book_38 rfl bp_30 ?_
        refine wp_icmp_lt (q := 43) (tgt := 46) d_FG_book_40 (by decide) rfl (fun hc_40 => ?_) (fun hc_40 => ?_)
        · have h29 : nk < 30 := (nI_ltI (by omega) (by decide)).mp hc_40
          refine wp_aload_n (q := 47) d_FG_book_46 rfl rfl ?_
          refine wp_get (q := 50) fl_FG_44 d_FG_book_47 rfl rfl rfl ?_
          refine wp_aload_n (q := 51) d_FG_book_50 rfl rfl ?_
          refine wp_get (q := 54) fl_FG_236 d_FG_book_51 rfl rfl rfl ?_
          simp (disch := omega) only [tput_ne, upd_ne, upd_eq, tput_eq, ne_eq, not_false_eq_true, hnk]
          refine wp_aldA (q := 55) d_FG_book_54 rfl (rfl) (by omega) (by decide) (rows_at (by omega)) ?_
          refine wp_astore (q := 57) (L2 := [(4, _), (0, _), (1, _), (2, _), (3, _)]) d_FG_book_55 rfl (by decide) rfl ?_
          refine wp_aload (q := 59) d_FG_book_57 rfl rfl ?_
          refine wp_iconst (q := 60) d_FG_book_59 rfl ic_0 ?_
          refine wp_iload_n (q := 61) d_FG_book_60 rfl rfl ?_
          refine wp_iast (q := 62) d_FG_book_61 rfl (rd_book (by omega)) (by omega) (by decide) (fd_bk0 (by omega)) ?_
          refine wp_aload (q := 64) d_FG_book_62 rfl rfl ?_
          refine wp_iconst (q := 65) d_FG_book_64 rfl ic_1 ?_
          refine wp_iload_n (q := 66) d_FG_book_65 rfl rfl ?_
          refine wp_iast (q := 67) d_FG_book_66 rfl (rd_book (by omega)) (by omega) (by decide) (fd_bk1 (by omega)) ?_
          refine wp_aload (q := 69) d_FG_book_67 rfl rfl ?_
          refine wp_iconst (q := 70) d_FG_book_69 rfl ic_2 ?_
          refine wp_iload_n (q := 71) d_FG_book_70 rfl rfl ?_
          refine wp_iast (q := 72) d_FG_book_71 rfl (rd_book (by omega)) (by omega) (by decide) (fd_bk2 (by omega)) ?_
          refine wp_aload (q := 74) d_FG_book_72 rfl rfl ?_
          refine wp_iconst (q := 75) d_FG_book_74 rfl ic_3 ?_
          refine wp_aload_n (q := 76) d_FG_book_75 rfl rfl ?_
          refine wp_get (q := 79) fl_FG_19 d_FG_book_76 rfl rfl rfl ?_
          refine wp_get (q := 82) fl_FG_111 d_FG_book_79 rfl (rdO (w := 0) (by decide)) rfl ?_
          refine wp_iast (q := 83) d_FG_book_82 rfl (rd_book (by omega)) (by omega) (by decide) (fd_bk3 (by omega)) ?_
          refine wp_aload (q := 85) d_FG_book_83 rfl rfl ?_
          refine wp_iconst (q := 86) d_FG_book_85 rfl ic_5 ?_
          refine wp_iconst (q := 87) d_FG_book_86 rfl ic_m1 ?_
          refine wp_iast (q := 88) d_FG_book_87 rfl (rd_book (by omega)) (by omega) (by decide) (rfl) ?_
          refine wp_aload_n (q := 89) d_FG_book_88 rfl rfl ?_
          refine wp_dup (q := 90) d_FG_book_89 rfl rfl ?_
          refine wp_get (q := 93) fl_FG_236 d_FG_book_90 rfl ((List.getElem?_set_ne (by omega)).trans rfl) rfl ?_
          simp (disch := omega) only [tput_ne, upd_ne, upd_eq, tput_eq, ne_eq, not_false_eq_true, hnk]
          refine wp_iconst (q := 94) d_FG_book_93 rfl ic_1 ?_
          first | refine wp_iaddN (q := 95) d_FG_book_94 rfl ?_ | refine wp_iadd (q := 95) d_FG_book_94 rfl ?_
          refine wp_put (q := 98) fl_FG_236 d_FG_book_95 rfl ((List.getElem?_set_ne (by omega)).trans rfl) (Nat.le_of_ble_eq_true rfl) rfl rfl (fd_bkN (by simp (disch := omega) only [tput_ne]; exact hnk) h29 (by simp (disch := omega) only [tput_ne]; exact h20 nk (Nat.le_refl _) h29)) ?_
          refine wp_aload_n (q := 99) d_FG_book_98 rfl rfl ?_
          refine wp_get (q := 102) fl_FG_236 d_FG_book_99 rfl rfl rfl ?_
          simp (disch := omega) only [tput_ne, upd_ne, upd_eq, tput_eq, ne_eq, not_false_eq_true, hnk]
          refine wp_iconst (q := 103) d_FG_book_102 rfl ic_1 ?_
          refine wp_isubN (q := 104) d_FG_book_103 rfl (by omega) ?_
          refine wp_iret d_FG_book_104 rfl (Nat.le_refl _) (Nat.le_refl _) ?_
          simp only [sp_book, inn, inb, inm, btw, inb_t hnb h12 hb1, tnt (Nat.lt_of_lt_of_le hb1 h12), inn_t hy1, tnl hy1, inn_t hs1, tnl hs1, (show ¬ nk = 30 by omega), not_true_eq_false, not_false_eq_true, or_false, false_or, or_true, true_or, and_true, true_and, and_false, false_and, or_self, and_self, if_true, if_false, ite_true, ite_false, eq_self] at hK
          first | exact hK | (simp (disch := omega) only [tput_eq, tput2, tput_ne, upd_eq, upd_ne, ne_eq, va_upeq, va_upne, va_up2, Nat.add_sub_cancel, not_true_eq_false, not_false_eq_true, or_false, false_or, or_true, true_or, and_true, true_and, and_false, false_and, or_self, and_self, if_true, if_false, ite_true, ite_false, eq_self] at hK ⊢; exact hK) | (simp (disch := omega) only [tput_eq, tput2, tput_ne, upd_eq, upd_ne, ne_eq, va_upeq, va_upne, va_up2, Nat.add_sub_cancel, not_true_eq_false, not_false_eq_true, or_false, false_or, or_true, true_or, and_true, true_and, and_false, false_and, or_self, and_self, if_true, if_false, ite_true, ite_false, eq_self]; exact hK) | (simp (disch := omega) only [tput_eq, tput2, tput_ne, upd_eq, upd_ne, ne_eq, va_upeq, va_upne, va_up2, Nat.add_sub_cancel, not_true_eq_false, not_false_eq_true, or_false, false_or, or_true, true_or, and_true, true_and, and_false, false_and, or_self, and_self, if_true, if_false, ite_true, ite_false, eq_self] at hK; exact hK)
        · have h29 : nk = 30 := by
            have h := nlt_le hc_40
            have := (nI_leI (by decide) (by omega)).mp h
            omega
          refine wp_bipush (q := 45) d_FG_book_43 rfl bp_m4 ?_
          refine wp_iret d_FG_book_45 rfl (Nat.le_refl _) (Nat.le_refl _) ?_
          simp only [sp_book, inn, inb, inm, btw, inb_t hnb h12 hb1, tnt (Nat.lt_of_lt_of_le hb1 h12), inn_t hy1, tnl hy1, inn_t hs1, tnl hs1, (show nk = 30 by omega), not_true_eq_false, not_false_eq_true, or_false, false_or, or_true, true_or, and_true, true_and, and_false, false_and, or_self, and_self, if_true, if_false, ite_true, ite_false, eq_self] at hK
          first | exact hK | (simp (disch := omega) only [tput_eq, tput2, tput_ne, upd_eq, upd_ne, ne_eq, va_upeq, va_upne, va_up2, Nat.add_sub_cancel, not_true_eq_false, not_false_eq_true, or_false, false_or, or_true, true_or, and_true, true_and, and_false, false_and, or_self, and_self, if_true, if_false, ite_true, ite_false, eq_self] at hK ⊢; exact hK) | (simp (disch := omega) only [tput_eq, tput2, tput_ne, upd_eq, upd_ne, ne_eq, va_upeq, va_upne, va_up2, Nat.add_sub_cancel, not_true_eq_false, not_false_eq_true, or_false, false_or, or_true, true_or, and_true, true_and, and_false, false_and, or_self, and_self, if_true, if_false, ite_true, ite_false, eq_self]; exact hK) | (simp (disch := omega) only [tput_eq, tput2, tput_ne, upd_eq, upd_ne, ne_eq, va_upeq, va_upne, va_up2, Nat.add_sub_cancel, not_true_eq_false, not_false_eq_true, or_false, false_or, or_true, true_or, and_true, true_and, and_false, false_and, or_self, and_self, if_true, if_false, ite_true, ite_false, eq_self] at hK; exact hK)
      · refine wp_if_ne_f (q := 31) (tgt := 34) d_FG_book_28 (by decide) rfl (by decide) ?_
        refine wp_bipush (q := 33) d_FG_book_31 rfl bp_m2 ?_
        refine wp_iret d_FG_book_33 rfl (Nat.le_refl _) (Nat.le_refl _) ?_
        simp only [sp_book, inn, inb, inm, btw, inb_t hnb h12 hb1, tnt (Nat.lt_of_lt_of_le hb1 h12), inn_t hy1, tnl hy1, hs1, not_true_eq_false, not_false_eq_true, or_false, false_or, or_true, true_or, and_true, true_and, and_false, false_and, or_self, and_self, if_true, if_false, ite_true, ite_false, eq_self] at hK
        first | exact hK | (simp (disch := omega) only [tput_eq, tput2, tput_ne, upd_eq, upd_ne, ne_eq, va_upeq, va_upne, va_up2, Nat.add_sub_cancel, not_true_eq_false, not_false_eq_true, or_false, false_or, or_true, true_or, and_true, true_and, and_false, false_and, or_self, and_self, if_true, if_false, ite_true, ite_false, eq_self] at hK ⊢; exact hK) | (simp (disch := omega) only [tput_eq, tput2, tput_ne, upd_eq, upd_ne, ne_eq, va_upeq, va_upne, va_up2, Nat.add_sub_cancel, not_true_eq_false, not_false_eq_true, or_false, false_or, or_true, true_or, and_true, true_and, and_false, false_and, or_self, and_self, if_true, if_false, ite_true, ite_false, eq_self]; exact hK) | (simp (disch := omega) only [tput_eq, tput2, tput_ne, upd_eq, upd_ne, ne_eq, va_upeq, va_upne, va_up2, Nat.add_sub_cancel, not_true_eq_false, not_false_eq_true, or_false, false_or, or_true, true_or, and_true, true_and, and_false, false_and, or_self, and_self, if_true, if_false, ite_true, ite_false, eq_self] at hK; exact hK)
    · refine wp_if_eq_t (tgt := 31) d_FG_book_17 (by decide) (by decide) ?_
      refine wp_bipush (q := 33) d_FG_book_31 rfl bp_m2 ?_
      refine wp_iret d_FG_book_33 rfl (Nat.le_refl _) (Nat.le_refl _) ?_
      simp only [sp_book, inn, inb, inm, btw, inb_t hnb h12 hb1, tnt (Nat.lt_of_lt_of_le hb1 h12), hy1, not_true_eq_false, not_false_eq_true, or_false, false_or, or_true, true_or, and_true, true_and, and_false, false_and, or_self, and_self, if_true, if_false, ite_true, ite_false, eq_self] at hK
      first | exact hK | (simp (disch := omega) only [tput_eq, tput2, tput_ne, upd_eq, upd_ne, ne_eq, va_upeq, va_upne, va_up2, Nat.add_sub_cancel, not_true_eq_false, not_false_eq_true, or_false, false_or, or_true, true_or, and_true, true_and, and_false, false_and, or_self, and_self, if_true, if_false, ite_true, ite_false, eq_self] at hK ⊢; exact hK) | (simp (disch := omega) only [tput_eq, tput2, tput_ne, upd_eq, upd_ne, ne_eq, va_upeq, va_upne, va_up2, Nat.add_sub_cancel, not_true_eq_false, not_false_eq_true, or_false, false_or, or_true, true_or, and_true, true_and, and_false, false_and, or_self, and_self, if_true, if_false, ite_true, ite_false, eq_self]; exact hK) | (simp (disch := omega) only [tput_eq, tput2, tput_ne, upd_eq, upd_ne, ne_eq, va_upeq, va_upne, va_up2, Nat.add_sub_cancel, not_true_eq_false, not_false_eq_true, or_false, false_or, or_true, true_or, and_true, true_and, and_false, false_and, or_self, and_self, if_true, if_false, ite_true, ite_false, eq_self] at hK; exact hK)
  · refine wp_if_ne_f (q := 8) (tgt := 10) d_FG_book_5 (by decide) rfl (by decide) ?_
    refine wp_iconst (q := 9) d_FG_book_8 rfl ic_m1 ?_
    refine wp_iret d_FG_book_9 rfl (Nat.le_refl _) (Nat.le_refl _) ?_
    simp only [sp_book, inn, inb, inm, btw, hb1, not_true_eq_false, not_false_eq_true, or_false, false_or, or_true, true_or, and_true, true_and, and_false, false_and, or_self, and_self, if_true, if_false, ite_true, ite_false, eq_self] at hK
    first | exact hK | (simp (disch := omega) only [tput_eq, tput2, tput_ne, upd_eq, upd_ne, ne_eq, va_upeq, va_upne, va_up2, Nat.add_sub_cancel, not_true_eq_false, not_false_eq_true, or_false, false_or, or_true, true_or, and_true, true_and, and_false, false_and, or_self, and_self, if_true, if_false, ite_true, ite_false, eq_self] at hK ⊢; exact hK) | (simp (disch := omega) only [tput_eq, tput2, tput_ne, upd_eq, upd_ne, ne_eq, va_upeq, va_upne, va_up2, Nat.add_sub_cancel, not_true_eq_false, not_false_eq_true, or_false, false_or, or_true, true_or, and_true, true_and, and_false, false_and, or_self, and_self, if_true, if_false, ite_true, ite_false, eq_self]; exact hK) | (simp (disch := omega) only [tput_eq, tput2, tput_ne, upd_eq, upd_ne, ne_eq, va_upeq, va_upne, va_up2, Nat.add_sub_cancel, not_true_eq_false, not_false_eq_true, or_false, false_or, or_true, true_or, and_true, true_and, and_false, false_and, or_self, and_self, if_true, if_false, ite_true, ite_false, eq_self] at hK; exact hK)
theorem d_Rf_book_0 : decode M_Rf_book.2.1 0 = .ok (.aload_n 0, 1) := by decide +kernel
theorem d_Rf_book_1 : decode M_Rf_book.2.1 1 = .ok (.iload_n 1, 1) := by decide +kernel
theorem d_Rf_book_2 : decode M_Rf_book.2.1 2 = .ok (.invokevirtual 167, 3) := by decide +kernel
theorem d_Rf_book_5 : decode M_Rf_book.2.1 5 = .ok (.ifCond .ne 5, 3) := by decide +kernel
theorem d_Rf_book_8 : decode M_Rf_book.2.1 8 = .ok (.iconst (-1), 1) := by decide +kernel
theorem d_Rf_book_9 : decode M_Rf_book.2.1 9 = .ok (.ireturn, 1) := by decide +kernel
theorem d_Rf_book_10 : decode M_Rf_book.2.1 10 = .ok (.iload_n 2, 1) := by decide +kernel
theorem d_Rf_book_11 : decode M_Rf_book.2.1 11 = .ok (.iconst 0, 1) := by decide +kernel
theorem d_Rf_book_12 : decode M_Rf_book.2.1 12 = .ok (.bipush 9, 2) := by decide +kernel
theorem d_Rf_book_14 : decode M_Rf_book.2.1 14 = .ok (.invokestatic 151, 3) := by decide +kernel
theorem d_Rf_book_17 : decode M_Rf_book.2.1 17 = .ok (.ifCond .eq 14, 3) := by decide +kernel
theorem d_Rf_book_20 : decode M_Rf_book.2.1 20 = .ok (.iload_n 3, 1) := by decide +kernel
theorem d_Rf_book_21 : decode M_Rf_book.2.1 21 = .ok (.iconst 0, 1) := by decide +kernel
theorem d_Rf_book_22 : decode M_Rf_book.2.1 22 = .ok (.ldc_w 270, 3) := by decide +kernel
theorem d_Rf_book_25 : decode M_Rf_book.2.1 25 = .ok (.invokestatic 151, 3) := by decide +kernel
theorem d_Rf_book_28 : decode M_Rf_book.2.1 28 = .ok (.ifCond .ne 6, 3) := by decide +kernel
theorem d_Rf_book_31 : decode M_Rf_book.2.1 31 = .ok (.bipush (-2), 2) := by decide +kernel
theorem d_Rf_book_33 : decode M_Rf_book.2.1 33 = .ok (.ireturn, 1) := by decide +kernel
theorem d_Rf_book_34 : decode M_Rf_book.2.1 34 = .ok (.aload_n 0, 1) := by decide +kernel
theorem d_Rf_book_35 : decode M_Rf_book.2.1 35 = .ok (.getfield 264, 3) := by decide +kernel
theorem d_Rf_book_38 : decode M_Rf_book.2.1 38 = .ok (.bipush 30, 2) := by decide +kernel
theorem d_Rf_book_40 : decode M_Rf_book.2.1 40 = .ok (.if_icmp .ne 6, 3) := by decide +kernel
theorem d_Rf_book_43 : decode M_Rf_book.2.1 43 = .ok (.bipush (-4), 2) := by decide +kernel
theorem d_Rf_book_45 : decode M_Rf_book.2.1 45 = .ok (.ireturn, 1) := by decide +kernel
theorem d_Rf_book_46 : decode M_Rf_book.2.1 46 = .ok (.aload_n 0, 1) := by decide +kernel
theorem d_Rf_book_47 : decode M_Rf_book.2.1 47 = .ok (.getfield 59, 3) := by decide +kernel
theorem d_Rf_book_50 : decode M_Rf_book.2.1 50 = .ok (.aload_n 0, 1) := by decide +kernel
theorem d_Rf_book_51 : decode M_Rf_book.2.1 51 = .ok (.getfield 264, 3) := by decide +kernel
theorem d_Rf_book_54 : decode M_Rf_book.2.1 54 = .ok (.iload_n 1, 1) := by decide +kernel
theorem d_Rf_book_55 : decode M_Rf_book.2.1 55 = .ok (.iastore, 1) := by decide +kernel
theorem d_Rf_book_56 : decode M_Rf_book.2.1 56 = .ok (.aload_n 0, 1) := by decide +kernel
theorem d_Rf_book_57 : decode M_Rf_book.2.1 57 = .ok (.getfield 62, 3) := by decide +kernel
theorem d_Rf_book_60 : decode M_Rf_book.2.1 60 = .ok (.aload_n 0, 1) := by decide +kernel
theorem d_Rf_book_61 : decode M_Rf_book.2.1 61 = .ok (.getfield 264, 3) := by decide +kernel
theorem d_Rf_book_64 : decode M_Rf_book.2.1 64 = .ok (.iload_n 2, 1) := by decide +kernel
theorem d_Rf_book_65 : decode M_Rf_book.2.1 65 = .ok (.iastore, 1) := by decide +kernel
theorem d_Rf_book_66 : decode M_Rf_book.2.1 66 = .ok (.aload_n 0, 1) := by decide +kernel
theorem d_Rf_book_67 : decode M_Rf_book.2.1 67 = .ok (.getfield 65, 3) := by decide +kernel
theorem d_Rf_book_70 : decode M_Rf_book.2.1 70 = .ok (.aload_n 0, 1) := by decide +kernel
theorem d_Rf_book_71 : decode M_Rf_book.2.1 71 = .ok (.getfield 264, 3) := by decide +kernel
theorem d_Rf_book_74 : decode M_Rf_book.2.1 74 = .ok (.iload_n 3, 1) := by decide +kernel
theorem d_Rf_book_75 : decode M_Rf_book.2.1 75 = .ok (.iastore, 1) := by decide +kernel
theorem d_Rf_book_76 : decode M_Rf_book.2.1 76 = .ok (.aload_n 0, 1) := by decide +kernel
theorem d_Rf_book_77 : decode M_Rf_book.2.1 77 = .ok (.getfield 68, 3) := by decide +kernel
theorem d_Rf_book_80 : decode M_Rf_book.2.1 80 = .ok (.aload_n 0, 1) := by decide +kernel
theorem d_Rf_book_81 : decode M_Rf_book.2.1 81 = .ok (.getfield 264, 3) := by decide +kernel
theorem d_Rf_book_84 : decode M_Rf_book.2.1 84 = .ok (.aload_n 0, 1) := by decide +kernel
theorem d_Rf_book_85 : decode M_Rf_book.2.1 85 = .ok (.getfield 7, 3) := by decide +kernel
theorem d_Rf_book_88 : decode M_Rf_book.2.1 88 = .ok (.sipush 234, 3) := by decide +kernel
theorem d_Rf_book_91 : decode M_Rf_book.2.1 91 = .ok (.iaload, 1) := by decide +kernel
theorem d_Rf_book_92 : decode M_Rf_book.2.1 92 = .ok (.iastore, 1) := by decide +kernel
theorem d_Rf_book_93 : decode M_Rf_book.2.1 93 = .ok (.aload_n 0, 1) := by decide +kernel
theorem d_Rf_book_94 : decode M_Rf_book.2.1 94 = .ok (.dup, 1) := by decide +kernel
theorem d_Rf_book_95 : decode M_Rf_book.2.1 95 = .ok (.getfield 264, 3) := by decide +kernel
theorem d_Rf_book_98 : decode M_Rf_book.2.1 98 = .ok (.iconst 1, 1) := by decide +kernel
theorem d_Rf_book_99 : decode M_Rf_book.2.1 99 = .ok (.iadd, 1) := by decide +kernel
theorem d_Rf_book_100 : decode M_Rf_book.2.1 100 = .ok (.putfield 264, 3) := by decide +kernel
theorem d_Rf_book_103 : decode M_Rf_book.2.1 103 = .ok (.aload_n 0, 1) := by decide +kernel
theorem d_Rf_book_104 : decode M_Rf_book.2.1 104 = .ok (.getfield 264, 3) := by decide +kernel
theorem d_Rf_book_107 : decode M_Rf_book.2.1 107 = .ok (.iconst 1, 1) := by decide +kernel
theorem d_Rf_book_108 : decode M_Rf_book.2.1 108 = .ok (.isub, 1) := by decide +kernel
theorem d_Rf_book_109 : decode M_Rf_book.2.1 109 = .ok (.ireturn, 1) := by decide +kernel
set_option maxHeartbeats 4000000 in
set_option maxRecDepth 100000 in
theorem ok_Rf_book {D : xD} {N : Nat} {l : Launch} {d : Nat} {c z : T2} {P Q : Nat → Int32} {rest : List va_E} {K : Option Value → List va_E → Prop} {b : Int32} {y : Int32} {s : Int32} {nb : Nat} (hnb : c 32 1 = nI nb) (h12 : nb ≤ 12) {nk : Nat} (hnk : c 32 7 = nI nk) (h30 : nk ≤ 30)  (hK : K (some (.int (sp_book c P nk b y s).1)) (encR D N (sp_book c P nk b y s).2 z P Q ++ rest)) : Ok D N l (d + 2) M_Rf_book [.ref (N + 0), .int b, .int y, .int s] (encR D N c z P Q ++ rest) 0 0 K := by
  refine ok_of (L := [(0, _), (1, _), (2, _), (3, _)]) (by decide) (Nat.le_of_ble_eq_true rfl) rfl ?_
  refine wp_aload_n (q := 1) d_Rf_book_0 rfl rfl ?_
  refine wp_iload_n (q := 2) d_Rf_book_1 rfl rfl ?_
  refine wp_cv1 (q := 5) lk_Rf_167 (ro _ _ _) d_Rf_book_2 rfl (Nat.le_of_ble_eq_true rfl) (rfl) rfl (Nat.zero_le _) (Nat.zero_le _) ?_
  refine ok_Rf_isBus hnb h12 (fun b1 hb1 e => ?_) (fun hb1 => ?_)
  · subst e
    refine wp_if_ne_t (tgt := 10) d_Rf_book_5 (by decide) (by decide) ?_
    refine wp_iload_n (q := 11) d_Rf_book_10 rfl rfl ?_
    refine wp_iconst (q := 12) d_Rf_book_11 rfl ic_0 ?_
    refine wp_bipush (q := 14) d_Rf_book_12 rfl bp_9 ?_
    refine wp_cs3 (q := 17) lk_Rf_151 (ro _ _ _) d_Rf_book_14 rfl (Nat.le_of_ble_eq_true rfl) (Nat.zero_le _) (Nat.zero_le _) ?_
    refine ok_Rf_in0 (b := 9) (by decide) (fun y1 hy1 e => ?_) (fun hy1 => ?_)
    · subst e
      refine wp_if_eq_f (q := 20) (tgt := 31) d_Rf_book_17 (by decide) rfl (by decide) ?_
      refine wp_iload_n (q := 21) d_Rf_book_20 rfl rfl ?_
      refine wp_iconst (q := 22) d_Rf_book_21 rfl ic_0 ?_
      refine wp_ldcw (q := 25) d_Rf_book_22 rfl kc_Rf_270 ?_
      refine wp_cs3 (q := 28) lk_Rf_151 (ro _ _ _) d_Rf_book_25 rfl (Nat.le_of_ble_eq_true rfl) (Nat.zero_le _) (Nat.zero_le _) ?_
      refine ok_Rf_in0 (b := 1000000) (by decide) (fun s1 hs1 e => ?_) (fun hs1 => ?_)
      · subst e
        refine wp_if_ne_t (tgt := 34) d_Rf_book_28 (by decide) (by decide) ?_
        refine wp_aload_n (q := 35) d_Rf_book_34 rfl rfl ?_
        refine wp_get (q := 38) fl_Rf_264 d_Rf_book_35 rfl rfl rfl ?_
        simp (disch := omega) only [tput_ne, upd_ne, upd_eq, tput_eq, ne_eq, not_false_eq_true, hnk]
        refine wp_bipush (q := 40) d_Rf_book_38 rfl bp_30 ?_
        refine wp_icmp_ne (q := 43) (tgt := 46) d_Rf_book_40 (by decide) rfl (fun hc_40 => ?_) (fun hc_40 => ?_)
        · have h29 : nk < 30 := Nat.lt_of_le_of_ne h30 (fun e => hc_40 (by rw [e]))
          refine wp_aload_n (q := 47) d_Rf_book_46 rfl rfl ?_
          refine wp_get (q := 50) fl_Rf_59 d_Rf_book_47 rfl rfl rfl ?_
          refine wp_aload_n (q := 51) d_Rf_book_50 rfl rfl ?_
          refine wp_get (q := 54) fl_Rf_264 d_Rf_book_51 rfl rfl rfl ?_
          simp (disch := omega) only [tput_ne, upd_ne, upd_eq, tput_eq, ne_eq, not_false_eq_true, hnk]
          refine wp_iload_n (q := 55) d_Rf_book_54 rfl rfl ?_
          refine wp_iast (q := 56) d_Rf_book_55 rfl (rfl) (by omega) (by decide) (fr_17) ?_
          refine wp_aload_n (q := 57) d_Rf_book_56 rfl rfl ?_
          refine wp_get (q := 60) fl_Rf_62 d_Rf_book_57 rfl rfl rfl ?_
          refine wp_aload_n (q := 61) d_Rf_book_60 rfl rfl ?_
          refine wp_get (q := 64) fl_Rf_264 d_Rf_book_61 rfl rfl rfl ?_
          simp (disch := omega) only [tput_ne, upd_ne, upd_eq, tput_eq, ne_eq, not_false_eq_true, hnk]
          refine wp_iload_n (q := 65) d_Rf_book_64 rfl rfl ?_
          refine wp_iast (q := 66) d_Rf_book_65 rfl (rfl) (by omega) (by decide) (fr_18) ?_
          refine wp_aload_n (q := 67) d_Rf_book_66 rfl rfl ?_
          refine wp_get (q := 70) fl_Rf_65 d_Rf_book_67 rfl rfl rfl ?_
          refine wp_aload_n (q := 71) d_Rf_book_70 rfl rfl ?_
          refine wp_get (q := 74) fl_Rf_264 d_Rf_book_71 rfl rfl rfl ?_
          simp (disch := omega) only [tput_ne, upd_ne, upd_eq, tput_eq, ne_eq, not_false_eq_true, hnk]
          refine wp_iload_n (q := 75) d_Rf_book_74 rfl rfl ?_
          refine wp_iast (q := 76) d_Rf_book_75 rfl (rfl) (by omega) (by decide) (fr_19) ?_
          refine wp_aload_n (q := 77) d_Rf_book_76 rfl rfl ?_
          refine wp_get (q := 80) fl_Rf_68 d_Rf_book_77 rfl rfl rfl ?_
          refine wp_aload_n (q := 81) d_Rf_book_80 rfl rfl ?_
          refine wp_get (q := 84) fl_Rf_264 d_Rf_book_81 rfl rfl rfl ?_
          simp (disch := omega) only [tput_ne, upd_ne, upd_eq, tput_eq, ne_eq, not_false_eq_true, hnk]
          refine wp_aload_n (q := 85) d_Rf_book_84 rfl rfl ?_
          refine wp_get (q := 88) fl_Rf_7 d_Rf_book_85 rfl rfl rfl ?_
          refine wp_sipush (q := 91) d_Rf_book_88 rfl sp_234 ?_
          refine wp_iald (q := 92) d_Rf_book_91 rfl (rfl) (by omega) (by decide) ?_
          refine wp_iast (q := 93) d_Rf_book_92 rfl (rfl) (by omega) (by decide) (fr_20) ?_
          refine wp_aload_n (q := 94) d_Rf_book_93 rfl rfl ?_
          refine wp_dup (q := 95) d_Rf_book_94 rfl rfl ?_
          refine wp_get (q := 98) fl_Rf_264 d_Rf_book_95 rfl rfl rfl ?_
          simp (disch := omega) only [tput_ne, upd_ne, upd_eq, tput_eq, ne_eq, not_false_eq_true, hnk]
          refine wp_iconst (q := 99) d_Rf_book_98 rfl ic_1 ?_
          first | refine wp_iaddN (q := 100) d_Rf_book_99 rfl ?_ | refine wp_iadd (q := 100) d_Rf_book_99 rfl ?_
          refine wp_put (q := 103) fl_Rf_264 d_Rf_book_100 rfl rfl (Nat.le_of_ble_eq_true rfl) rfl rfl (fr_s7) ?_
          refine wp_aload_n (q := 104) d_Rf_book_103 rfl rfl ?_
          refine wp_get (q := 107) fl_Rf_264 d_Rf_book_104 rfl rfl rfl ?_
          simp (disch := omega) only [tput_ne, upd_ne, upd_eq, tput_eq, ne_eq, not_false_eq_true, hnk]
          refine wp_iconst (q := 108) d_Rf_book_107 rfl ic_1 ?_
          refine wp_isubN (q := 109) d_Rf_book_108 rfl (by omega) ?_
          refine wp_iret d_Rf_book_109 rfl (Nat.le_refl _) (Nat.le_refl _) ?_
          simp only [sp_book, inn, inb, inm, btw, inb_t hnb h12 hb1, tnt (Nat.lt_of_lt_of_le hb1 h12), inn_t hy1, tnl hy1, inn_t hs1, tnl hs1, (show ¬ nk = 30 by omega), not_true_eq_false, not_false_eq_true, or_false, false_or, or_true, true_or, and_true, true_and, and_false, false_and, or_self, and_self, if_true, if_false, ite_true, ite_false, eq_self] at hK
          first | exact hK | (simp (disch := omega) only [tput_eq, tput2, tput_ne, upd_eq, upd_ne, ne_eq, va_upeq, va_upne, va_up2, Nat.add_sub_cancel, not_true_eq_false, not_false_eq_true, or_false, false_or, or_true, true_or, and_true, true_and, and_false, false_and, or_self, and_self, if_true, if_false, ite_true, ite_false, eq_self] at hK ⊢; exact hK) | (simp (disch := omega) only [tput_eq, tput2, tput_ne, upd_eq, upd_ne, ne_eq, va_upeq, va_upne, va_up2, Nat.add_sub_cancel, not_true_eq_false, not_false_eq_true, or_false, false_or, or_true, true_or, and_true, true_and, and_false, false_and, or_self, and_self, if_true, if_false, ite_true, ite_false, eq_self]; exact hK) | (simp (disch := omega) only [tput_eq, tput2, tput_ne, upd_eq, upd_ne, ne_eq, va_upeq, va_upne, va_up2, Nat.add_sub_cancel, not_true_eq_false, not_false_eq_true, or_false, false_or, or_true, true_or, and_true, true_and, and_false, false_and, or_self, and_self, if_true, if_false, ite_true, ite_false, eq_self] at hK; exact hK)
        · have h29 : nk = 30 := by
            have h := congrArg tn hc_40
            rw [tnl h30, tnl (Nat.le_refl 30)] at h
            exact h
          refine wp_bipush (q := 45) d_Rf_book_43 rfl bp_m4 ?_
          refine wp_iret d_Rf_book_45 rfl (Nat.le_refl _) (Nat.le_refl _) ?_
          simp only [sp_book, inn, inb, inm, btw, inb_t hnb h12 hb1, tnt (Nat.lt_of_lt_of_le hb1 h12), inn_t hy1, tnl hy1, inn_t hs1, tnl hs1, (show nk = 30 by omega), not_true_eq_false, not_false_eq_true, or_false, false_or, or_true, true_or, and_true, true_and, and_false, false_and, or_self, and_self, if_true, if_false, ite_true, ite_false, eq_self] at hK
          first | exact hK | (simp (disch := omega) only [tput_eq, tput2, tput_ne, upd_eq, upd_ne, ne_eq, va_upeq, va_upne, va_up2, Nat.add_sub_cancel, not_true_eq_false, not_false_eq_true, or_false, false_or, or_true, true_or, and_true, true_and, and_false, false_and, or_self, and_self, if_true, if_false, ite_true, ite_false, eq_self] at hK ⊢; exact hK) | (simp (disch := omega) only [tput_eq, tput2, tput_ne, upd_eq, upd_ne, ne_eq, va_upeq, va_upne, va_up2, Nat.add_sub_cancel, not_true_eq_false, not_false_eq_true, or_false, false_or, or_true, true_or, and_true, true_and, and_false, false_and, or_self, and_self, if_true, if_false, ite_true, ite_false, eq_self]; exact hK) | (simp (disch := omega) only [tput_eq, tput2, tput_ne, upd_eq, upd_ne, ne_eq, va_upeq, va_upne, va_up2, Nat.add_sub_cancel, not_true_eq_false, not_false_eq_true, or_false, false_or, or_true, true_or, and_true, true_and, and_false, false_and, or_self, and_self, if_true, if_false, ite_true, ite_false, eq_self] at hK; exact hK)
      · refine wp_if_ne_f (q := 31) (tgt := 34) d_Rf_book_28 (by decide) rfl (by decide) ?_
        refine wp_bipush (q := 33) d_Rf_book_31 rfl bp_m2 ?_
        refine wp_iret d_Rf_book_33 rfl (Nat.le_refl _) (Nat.le_refl _) ?_
        simp only [sp_book, inn, inb, inm, btw, inb_t hnb h12 hb1, tnt (Nat.lt_of_lt_of_le hb1 h12), inn_t hy1, tnl hy1, hs1, not_true_eq_false, not_false_eq_true, or_false, false_or, or_true, true_or, and_true, true_and, and_false, false_and, or_self, and_self, if_true, if_false, ite_true, ite_false, eq_self] at hK
        first | exact hK | (simp (disch := omega) only [tput_eq, tput2, tput_ne, upd_eq, upd_ne, ne_eq, va_upeq, va_upne, va_up2, Nat.add_sub_cancel, not_true_eq_false, not_false_eq_true, or_false, false_or, or_true, true_or, and_true, true_and, and_false, false_and, or_self, and_self, if_true, if_false, ite_true, ite_false, eq_self] at hK ⊢; exact hK) | (simp (disch := omega) only [tput_eq, tput2, tput_ne, upd_eq, upd_ne, ne_eq, va_upeq, va_upne, va_up2, Nat.add_sub_cancel, not_true_eq_false, not_false_eq_true, or_false, false_or, or_true, true_or, and_true, true_and, and_false, false_and, or_self, and_self, if_true, if_false, ite_true, ite_false, eq_self]; exact hK) | (simp (disch := omega) only [tput_eq, tput2, tput_ne, upd_eq, upd_ne, ne_eq, va_upeq, va_upne, va_up2, Nat.add_sub_cancel, not_true_eq_false, not_false_eq_true, or_false, false_or, or_true, true_or, and_true, true_and, and_false, false_and, or_self, and_self, if_true, if_false, ite_true, ite_false, eq_self] at hK; exact hK)
    · refine wp_if_eq_t (tgt := 31) d_Rf_book_17 (by decide) (by decide) ?_
      refine wp_bipush (q := 33) d_Rf_book_31 rfl bp_m2 ?_
      refine wp_iret d_Rf_book_33 rfl (Nat.le_refl _) (Nat.le_refl _) ?_
      simp only [sp_book, inn, inb, inm, btw, inb_t hnb h12 hb1, tnt (Nat.lt_of_lt_of_le hb1 h12), hy1, not_true_eq_false, not_false_eq_true, or_false, false_or, or_true, true_or, and_true, true_and, and_false, false_and, or_self, and_self, if_true, if_false, ite_true, ite_false, eq_self] at hK
      first | exact hK | (simp (disch := omega) only [tput_eq, tput2, tput_ne, upd_eq, upd_ne, ne_eq, va_upeq, va_upne, va_up2, Nat.add_sub_cancel, not_true_eq_false, not_false_eq_true, or_false, false_or, or_true, true_or, and_true, true_and, and_false, false_and, or_self, and_self, if_true, if_false, ite_true, ite_false, eq_self] at hK ⊢; exact hK) | (simp (disch := omega) only [tput_eq, tput2, tput_ne, upd_eq, upd_ne, ne_eq, va_upeq, va_upne, va_up2, Nat.add_sub_cancel, not_true_eq_false, not_false_eq_true, or_false, false_or, or_true, true_or, and_true, true_and, and_false, false_and, or_self, and_self, if_true, if_false, ite_true, ite_false, eq_self]; exact hK) | (simp (disch := omega) only [tput_eq, tput2, tput_ne, upd_eq, upd_ne, ne_eq, va_upeq, va_upne, va_up2, Nat.add_sub_cancel, not_true_eq_false, not_false_eq_true, or_false, false_or, or_true, true_or, and_true, true_and, and_false, false_and, or_self, and_self, if_true, if_false, ite_true, ite_false, eq_self] at hK; exact hK)
  · refine wp_if_ne_f (q := 8) (tgt := 10) d_Rf_book_5 (by decide) rfl (by decide) ?_
    refine wp_iconst (q := 9) d_Rf_book_8 rfl ic_m1 ?_
    refine wp_iret d_Rf_book_9 rfl (Nat.le_refl _) (Nat.le_refl _) ?_
    simp only [sp_book, inn, inb, inm, btw, hb1, not_true_eq_false, not_false_eq_true, or_false, false_or, or_true, true_or, and_true, true_and, and_false, false_and, or_self, and_self, if_true, if_false, ite_true, ite_false, eq_self] at hK
    first | exact hK | (simp (disch := omega) only [tput_eq, tput2, tput_ne, upd_eq, upd_ne, ne_eq, va_upeq, va_upne, va_up2, Nat.add_sub_cancel, not_true_eq_false, not_false_eq_true, or_false, false_or, or_true, true_or, and_true, true_and, and_false, false_and, or_self, and_self, if_true, if_false, ite_true, ite_false, eq_self] at hK ⊢; exact hK) | (simp (disch := omega) only [tput_eq, tput2, tput_ne, upd_eq, upd_ne, ne_eq, va_upeq, va_upne, va_up2, Nat.add_sub_cancel, not_true_eq_false, not_false_eq_true, or_false, false_or, or_true, true_or, and_true, true_and, and_false, false_and, or_self, and_self, if_true, if_false, ite_true, ite_false, eq_self]; exact hK) | (simp (disch := omega) only [tput_eq, tput2, tput_ne, upd_eq, upd_ne, ne_eq, va_upeq, va_upne, va_up2, Nat.add_sub_cancel, not_true_eq_false, not_false_eq_true, or_false, false_or, or_true, true_or, and_true, true_and, and_false, false_and, or_self, and_self, if_true, if_false, ite_true, ite_false, eq_self] at hK; exact hK)
