section WX
variable {D : xD} {N : Nat} {l : Launch} {E : EX} {M : MD} {R : Room} {Qf : QF} {k n pc : Nat} {L : List (Nat × Value)} {st : List Value} {g : List va_E}
theorem km_max_s : Cond.static Lib.Math.max.name ∈ lw_good := gw 495 (by decide +kernel) (by decide +kernel)
theorem km_max_i : Cond.initialized "java/lang/Math" ∈ lw_good := gw 17 (by decide +kernel) (by decide +kernel)
theorem km_max_c : Cond.code Lib.Math.max.name Lib.Math.max.code 2 (some .int) ∈ lw_good := gc3 16 rfl rfl
theorem wp_mmax {q idx : Nat} {x y : Int32} (hw : Cond.methodLink M.1.cls idx Lib.Math.max.name ∈ lw_good) (hR : RO R 0) (hd : decode M.2.1 pc = .ok (.invokestatic idx, 3)) (hq : pc + 3 = q) (hcat : (st.map fun v => v.category).sum ≤ 8) (hc : k ≤ R.cells) (hs : n ≤ R.slots) (h : Wp D N l E M R Qf k n q L (.int (if x < y then y else x) :: st) g) : Wp D N l E M R Qf k n pc L (.int y :: .int x :: st) g := by
  subst hq
  intro p e s m args below meth c C H locs ls hH hS hl
  have hts := C.2.2.2.2.1
  exact va_mmax C.1 C.2.1 (by rw [C.2.2.1]; exact hl.1.symm) C.2.2.2.1 (hts _ hw) (hts _ km_max_s) (hts _ km_max_i) (hts _ km_max_c) hR.1 (by have := hR.2; omega) hc hs hd (h p e s m args below meth c C H locs ls hH hS hl)
theorem km_min_s : Cond.static Lib.Math.min.name ∈ lw_good := gw 625 (by decide +kernel) (by decide +kernel)
theorem km_min_i : Cond.initialized "java/lang/Math" ∈ lw_good := gw 17 (by decide +kernel) (by decide +kernel)
theorem km_min_c : Cond.code Lib.Math.min.name Lib.Math.min.code 2 (some .int) ∈ lw_good := gc3 146 rfl rfl
theorem wp_mmin {q idx : Nat} {x y : Int32} (hw : Cond.methodLink M.1.cls idx Lib.Math.min.name ∈ lw_good) (hR : RO R 0) (hd : decode M.2.1 pc = .ok (.invokestatic idx, 3)) (hq : pc + 3 = q) (hcat : (st.map fun v => v.category).sum ≤ 8) (hc : k ≤ R.cells) (hs : n ≤ R.slots) (h : Wp D N l E M R Qf k n q L (.int (if y < x then y else x) :: st) g) : Wp D N l E M R Qf k n pc L (.int y :: .int x :: st) g := by
  subst hq
  intro p e s m args below meth c C H locs ls hH hS hl
  have hts := C.2.2.2.2.1
  exact va_mmin C.1 C.2.1 (by rw [C.2.2.1]; exact hl.1.symm) C.2.2.2.1 (hts _ hw) (hts _ km_min_s) (hts _ km_min_i) (hts _ km_min_c) hR.1 (by have := hR.2; omega) hc hs hd (h p e s m args below meth c C H locs ls hH hS hl)
theorem km_Rn_9 : Cond.methodLink RX6 9 Lib.Math.min.name ∈ lw_good := gw 644 (by decide +kernel) (by decide +kernel)
theorem km_Rn_15 : Cond.methodLink RX6 15 Lib.Math.max.name ∈ lw_good := gw 645 (by decide +kernel) (by decide +kernel)
theorem km_Tp_79 : Cond.methodLink RX8 79 Lib.Math.max.name ∈ lw_good := gw 494 (by decide +kernel) (by decide +kernel)
theorem km_Tn_84 : Cond.methodLink RX9 84 Lib.Math.max.name ∈ lw_good := gw 686 (by decide +kernel) (by decide +kernel)
theorem km_Tn_95 : Cond.methodLink RX9 95 Lib.Math.min.name ∈ lw_good := gw 624 (by decide +kernel) (by decide +kernel)
theorem wp_aldR {q i j m' a : Nat} {f : Nat → Option Nat} (hd : decode M.2.1 pc = .ok (.aaload, 1)) (hq : pc + 1 = q) (hr : g[i]? = some (oA D 4 m' f)) (hj : j < m') (hm : m' < 2147483648) (hv : f j = some a) (h : Wp D N l E M R Qf k n q L (.ref a :: st) g) : Wp D N l E M R Qf k n pc L (.int (nI j) :: .ref (N + i) :: st) g :=
  wp_aaldR hd hq hr hj hm (by rw [hv]; exact h)
theorem wp_aldRn {q i j m' : Nat} {f : Nat → Option Nat} (hd : decode M.2.1 pc = .ok (.aaload, 1)) (hq : pc + 1 = q) (hr : g[i]? = some (oA D 4 m' f)) (hj : j < m') (hm : m' < 2147483648) (hv : f j = none) (h : Wp D N l E M R Qf k n q L (.null :: st) g) : Wp D N l E M R Qf k n pc L (.int (nI j) :: .ref (N + i) :: st) g :=
  wp_aaldR hd hq hr hj hm (by rw [hv]; exact h)
theorem wp_aldL {q i j m' a : Nat} {f : Nat → Option Nat} (hd : decode M.2.1 pc = .ok (.aaload, 1)) (hq : pc + 1 = q) (hr : g[i]? = some (oA D 5 m' f)) (hj : j < m') (hm : m' < 2147483648) (hv : f j = some a) (h : Wp D N l E M R Qf k n q L (.ref a :: st) g) : Wp D N l E M R Qf k n pc L (.int (nI j) :: .ref (N + i) :: st) g :=
  wp_aaldL hd hq hr hj hm (by rw [hv]; exact h)
theorem wp_aldLn {q i j m' : Nat} {f : Nat → Option Nat} (hd : decode M.2.1 pc = .ok (.aaload, 1)) (hq : pc + 1 = q) (hr : g[i]? = some (oA D 5 m' f)) (hj : j < m') (hm : m' < 2147483648) (hv : f j = none) (h : Wp D N l E M R Qf k n q L (.null :: st) g) : Wp D N l E M R Qf k n pc L (.int (nI j) :: .ref (N + i) :: st) g :=
  wp_aaldL hd hq hr hj hm (by rw [hv]; exact h)
theorem wp_aldK {q i j m' a : Nat} {f : Nat → Option Nat} (hd : decode M.2.1 pc = .ok (.aaload, 1)) (hq : pc + 1 = q) (hr : g[i]? = some (oA D 6 m' f)) (hj : j < m') (hm : m' < 2147483648) (hv : f j = some a) (h : Wp D N l E M R Qf k n q L (.ref a :: st) g) : Wp D N l E M R Qf k n pc L (.int (nI j) :: .ref (N + i) :: st) g :=
  wp_aaldK hd hq hr hj hm (by rw [hv]; exact h)
theorem wp_aldKn {q i j m' : Nat} {f : Nat → Option Nat} (hd : decode M.2.1 pc = .ok (.aaload, 1)) (hq : pc + 1 = q) (hr : g[i]? = some (oA D 6 m' f)) (hj : j < m') (hm : m' < 2147483648) (hv : f j = none) (h : Wp D N l E M R Qf k n q L (.null :: st) g) : Wp D N l E M R Qf k n pc L (.int (nI j) :: .ref (N + i) :: st) g :=
  wp_aaldK hd hq hr hj hm (by rw [hv]; exact h)
theorem wp_aldA {q i j m' a : Nat} {f : Nat → Option Nat} (hd : decode M.2.1 pc = .ok (.aaload, 1)) (hq : pc + 1 = q) (hr : g[i]? = some (oA D 7 m' f)) (hj : j < m') (hm : m' < 2147483648) (hv : f j = some a) (h : Wp D N l E M R Qf k n q L (.ref a :: st) g) : Wp D N l E M R Qf k n pc L (.int (nI j) :: .ref (N + i) :: st) g :=
  wp_aaldA hd hq hr hj hm (by rw [hv]; exact h)
theorem wp_aldAn {q i j m' : Nat} {f : Nat → Option Nat} (hd : decode M.2.1 pc = .ok (.aaload, 1)) (hq : pc + 1 = q) (hr : g[i]? = some (oA D 7 m' f)) (hj : j < m') (hm : m' < 2147483648) (hv : f j = none) (h : Wp D N l E M R Qf k n q L (.null :: st) g) : Wp D N l E M R Qf k n pc L (.int (nI j) :: .ref (N + i) :: st) g :=
  wp_aaldA hd hq hr hj hm (by rw [hv]; exact h)
end WX
set_option maxRecDepth 100000 in
theorem fc_2 {D : xD} {N : Nat} {c x V : T2} {ln df : Nat → Option Nat} {rest : List va_E} {f : Nat → Int32} : (encC D N c x V ln df ++ rest).set 2 (iA D 36 f) = encC D N (tput c 2 f) x V ln df ++ rest := rfl
set_option maxRecDepth 100000 in
theorem fc_3 {D : xD} {N : Nat} {c x V : T2} {ln df : Nat → Option Nat} {rest : List va_E} {f : Nat → Int32} : (encC D N c x V ln df ++ rest).set 3 (iA D 36 f) = encC D N (tput c 3 f) x V ln df ++ rest := rfl
set_option maxRecDepth 100000 in
theorem fc_4 {D : xD} {N : Nat} {c x V : T2} {ln df : Nat → Option Nat} {rest : List va_E} {f : Nat → Int32} : (encC D N c x V ln df ++ rest).set 4 (iA D 24 f) = encC D N (tput c 4 f) x V ln df ++ rest := rfl
set_option maxRecDepth 100000 in
theorem fc_5 {D : xD} {N : Nat} {c x V : T2} {ln df : Nat → Option Nat} {rest : List va_E} {f : Nat → Int32} : (encC D N c x V ln df ++ rest).set 5 (iA D 12 f) = encC D N (tput c 5 f) x V ln df ++ rest := rfl
set_option maxRecDepth 100000 in
theorem fc_6 {D : xD} {N : Nat} {c x V : T2} {ln df : Nat → Option Nat} {rest : List va_E} {f : Nat → Int32} : (encC D N c x V ln df ++ rest).set 6 (iA D 12 f) = encC D N (tput c 6 f) x V ln df ++ rest := rfl
set_option maxRecDepth 100000 in
theorem fc_7 {D : xD} {N : Nat} {c x V : T2} {ln df : Nat → Option Nat} {rest : List va_E} {f : Nat → Int32} : (encC D N c x V ln df ++ rest).set 7 (iA D 12 f) = encC D N (tput c 7 f) x V ln df ++ rest := rfl
set_option maxRecDepth 100000 in
theorem fc_8 {D : xD} {N : Nat} {c x V : T2} {ln df : Nat → Option Nat} {rest : List va_E} {f : Nat → Int32} : (encC D N c x V ln df ++ rest).set 8 (iA D 12 f) = encC D N (tput c 8 f) x V ln df ++ rest := rfl
set_option maxRecDepth 100000 in
theorem fc_9 {D : xD} {N : Nat} {c x V : T2} {ln df : Nat → Option Nat} {rest : List va_E} {f : Nat → Int32} : (encC D N c x V ln df ++ rest).set 9 (iA D 12 f) = encC D N (tput c 9 f) x V ln df ++ rest := rfl
set_option maxRecDepth 100000 in
theorem fc_11 {D : xD} {N : Nat} {c x V : T2} {ln df : Nat → Option Nat} {rest : List va_E} {f : Nat → Int32} : (encC D N c x V ln df ++ rest).set 11 (iA D 6 f) = encC D N (tput c 10 f) x V ln df ++ rest := rfl
set_option maxRecDepth 100000 in
theorem fc_122 {D : xD} {N : Nat} {c x V : T2} {ln df : Nat → Option Nat} {rest : List va_E} {f : Nat → Int32} : (encC D N c x V ln df ++ rest).set 122 (iA D 4 f) = encC D N (tput c 30 f) x V ln df ++ rest := rfl
set_option maxRecDepth 100000 in
theorem fc_123 {D : xD} {N : Nat} {c x V : T2} {ln df : Nat → Option Nat} {rest : List va_E} {f : Nat → Int32} : (encC D N c x V ln df ++ rest).set 123 (iA D 4 f) = encC D N (tput c 29 f) x V ln df ++ rest := rfl
set_option maxRecDepth 100000 in
theorem fc_83 {D : xD} {N : Nat} {c x V : T2} {ln df : Nat → Option Nat} {rest : List va_E} {f : Nat → Int32} : (encC D N c x V ln df ++ rest).set 83 (iA D 6 f) = encC D N (tput c 12 f) x V ln df ++ rest := rfl
set_option maxRecDepth 100000 in
theorem fc_84 {D : xD} {N : Nat} {c x V : T2} {ln df : Nat → Option Nat} {rest : List va_E} {f : Nat → Int32} : (encC D N c x V ln df ++ rest).set 84 (iA D 6 f) = encC D N (tput c 13 f) x V ln df ++ rest := rfl
set_option maxRecDepth 100000 in
theorem fc_85 {D : xD} {N : Nat} {c x V : T2} {ln df : Nat → Option Nat} {rest : List va_E} {f : Nat → Int32} : (encC D N c x V ln df ++ rest).set 85 (iA D 6 f) = encC D N (tput c 14 f) x V ln df ++ rest := rfl
set_option maxRecDepth 100000 in
theorem fc_13 {D : xD} {N : Nat} {c x V : T2} {ln df : Nat → Option Nat} {rest : List va_E} {f : Nat → Int32} : (encC D N c x V ln df ++ rest).set 13 (iA D 8 f) = encC D N c (tput x 1 f) V ln df ++ rest := rfl
set_option maxRecDepth 100000 in
theorem fc_14 {D : xD} {N : Nat} {c x V : T2} {ln df : Nat → Option Nat} {rest : List va_E} {f : Nat → Int32} : (encC D N c x V ln df ++ rest).set 14 (iA D 6 f) = encC D N c (tput x 2 f) V ln df ++ rest := rfl
set_option maxRecDepth 100000 in
theorem fc_10 {D : xD} {N : Nat} {c x V : T2} {ln df : Nat → Option Nat} {rest : List va_E} {f : Nat → Option Nat} : (encC D N c x V ln df ++ rest).set 10 (oA D 5 48 f) = encC D N c x V f df ++ rest := rfl
set_option maxRecDepth 100000 in
theorem fc_74 {D : xD} {N : Nat} {c x V : T2} {ln df : Nat → Option Nat} {rest : List va_E} {f : Nat → Option Nat} : (encC D N c x V ln df ++ rest).set 74 (oA D 5 8 f) = encC D N c x V ln f ++ rest := rfl
set_option maxRecDepth 100000 in
theorem fc_s0 {D : xD} {N : Nat} {c x V : T2} {ln df : Nat → Option Nat} {rest : List va_E} {v : Int32} : (encC D N c x V ln df ++ rest).set 0 (.inr (11, [.ref (N + 1), .ref (N + 21), .ref (N + 38), .ref (N + 55), .int (c 32 0), .ref (N + 72), .int (c 32 2), .ref (N + 75), .int (c 32 3), .int (c 32 4), .int (c 32 5), .int (c 32 6), .ref (N + 82), .ref (N + 86), .int (c 32 7), .ref (N + 117), .ref (N + 122), .ref (N + 123)].set 4 (.int v))) = encC D N (tput c 32 (upd (c 32) 0 v)) x V ln df ++ rest := rfl
set_option maxRecDepth 100000 in
theorem fc_s2 {D : xD} {N : Nat} {c x V : T2} {ln df : Nat → Option Nat} {rest : List va_E} {v : Int32} : (encC D N c x V ln df ++ rest).set 0 (.inr (11, [.ref (N + 1), .ref (N + 21), .ref (N + 38), .ref (N + 55), .int (c 32 0), .ref (N + 72), .int (c 32 2), .ref (N + 75), .int (c 32 3), .int (c 32 4), .int (c 32 5), .int (c 32 6), .ref (N + 82), .ref (N + 86), .int (c 32 7), .ref (N + 117), .ref (N + 122), .ref (N + 123)].set 6 (.int v))) = encC D N (tput c 32 (upd (c 32) 2 v)) x V ln df ++ rest := rfl
set_option maxRecDepth 100000 in
theorem fc_s3 {D : xD} {N : Nat} {c x V : T2} {ln df : Nat → Option Nat} {rest : List va_E} {v : Int32} : (encC D N c x V ln df ++ rest).set 0 (.inr (11, [.ref (N + 1), .ref (N + 21), .ref (N + 38), .ref (N + 55), .int (c 32 0), .ref (N + 72), .int (c 32 2), .ref (N + 75), .int (c 32 3), .int (c 32 4), .int (c 32 5), .int (c 32 6), .ref (N + 82), .ref (N + 86), .int (c 32 7), .ref (N + 117), .ref (N + 122), .ref (N + 123)].set 8 (.int v))) = encC D N (tput c 32 (upd (c 32) 3 v)) x V ln df ++ rest := rfl
set_option maxRecDepth 100000 in
theorem fc_s4 {D : xD} {N : Nat} {c x V : T2} {ln df : Nat → Option Nat} {rest : List va_E} {v : Int32} : (encC D N c x V ln df ++ rest).set 0 (.inr (11, [.ref (N + 1), .ref (N + 21), .ref (N + 38), .ref (N + 55), .int (c 32 0), .ref (N + 72), .int (c 32 2), .ref (N + 75), .int (c 32 3), .int (c 32 4), .int (c 32 5), .int (c 32 6), .ref (N + 82), .ref (N + 86), .int (c 32 7), .ref (N + 117), .ref (N + 122), .ref (N + 123)].set 9 (.int v))) = encC D N (tput c 32 (upd (c 32) 4 v)) x V ln df ++ rest := rfl
set_option maxRecDepth 100000 in
theorem fc_s5 {D : xD} {N : Nat} {c x V : T2} {ln df : Nat → Option Nat} {rest : List va_E} {v : Int32} : (encC D N c x V ln df ++ rest).set 0 (.inr (11, [.ref (N + 1), .ref (N + 21), .ref (N + 38), .ref (N + 55), .int (c 32 0), .ref (N + 72), .int (c 32 2), .ref (N + 75), .int (c 32 3), .int (c 32 4), .int (c 32 5), .int (c 32 6), .ref (N + 82), .ref (N + 86), .int (c 32 7), .ref (N + 117), .ref (N + 122), .ref (N + 123)].set 10 (.int v))) = encC D N (tput c 32 (upd (c 32) 5 v)) x V ln df ++ rest := rfl
set_option maxRecDepth 100000 in
theorem fc_s6 {D : xD} {N : Nat} {c x V : T2} {ln df : Nat → Option Nat} {rest : List va_E} {v : Int32} : (encC D N c x V ln df ++ rest).set 0 (.inr (11, [.ref (N + 1), .ref (N + 21), .ref (N + 38), .ref (N + 55), .int (c 32 0), .ref (N + 72), .int (c 32 2), .ref (N + 75), .int (c 32 3), .int (c 32 4), .int (c 32 5), .int (c 32 6), .ref (N + 82), .ref (N + 86), .int (c 32 7), .ref (N + 117), .ref (N + 122), .ref (N + 123)].set 11 (.int v))) = encC D N (tput c 32 (upd (c 32) 6 v)) x V ln df ++ rest := rfl
set_option maxRecDepth 100000 in
theorem fc_s1 {D : xD} {N : Nat} {c x V : T2} {ln df : Nat → Option Nat} {rest : List va_E} {v : Int32} : (encC D N c x V ln df ++ rest).set 1 (.inr (9, [.ref (N + 2), .ref (N + 3), .ref (N + 4), .ref (N + 5), .ref (N + 6), .ref (N + 7), .ref (N + 8), .ref (N + 9), .int (c 32 1), .ref (N + 10), .int (c 32 9), .ref (N + 11), .ref (N + 12), .ref (N + 13), .ref (N + 14)].set 8 (.int v))) = encC D N (tput c 32 (upd (c 32) 1 v)) x V ln df ++ rest := rfl
set_option maxRecDepth 100000 in
theorem fc_s9 {D : xD} {N : Nat} {c x V : T2} {ln df : Nat → Option Nat} {rest : List va_E} {v : Int32} : (encC D N c x V ln df ++ rest).set 1 (.inr (9, [.ref (N + 2), .ref (N + 3), .ref (N + 4), .ref (N + 5), .ref (N + 6), .ref (N + 7), .ref (N + 8), .ref (N + 9), .int (c 32 1), .ref (N + 10), .int (c 32 9), .ref (N + 11), .ref (N + 12), .ref (N + 13), .ref (N + 14)].set 10 (.int v))) = encC D N (tput c 32 (upd (c 32) 9 v)) x V ln df ++ rest := rfl
set_option maxRecDepth 100000 in
theorem fc_s8 {D : xD} {N : Nat} {c x V : T2} {ln df : Nat → Option Nat} {rest : List va_E} {v : Int32} : (encC D N c x V ln df ++ rest).set 72 (.inr (8, [.ref (N + 73), .int (c 32 8), .int (x 3 0), .ref (N + 74), .int (x 3 1)].set 1 (.int v))) = encC D N (tput c 32 (upd (c 32) 8 v)) x V ln df ++ rest := rfl
set_option maxRecDepth 100000 in
theorem fc_x30 {D : xD} {N : Nat} {c x V : T2} {ln df : Nat → Option Nat} {rest : List va_E} {v : Int32} : (encC D N c x V ln df ++ rest).set 72 (.inr (8, [.ref (N + 73), .int (c 32 8), .int (x 3 0), .ref (N + 74), .int (x 3 1)].set 2 (.int v))) = encC D N c (tput x 3 (upd (x 3) 0 v)) V ln df ++ rest := rfl
set_option maxRecDepth 100000 in
theorem fc_x31 {D : xD} {N : Nat} {c x V : T2} {ln df : Nat → Option Nat} {rest : List va_E} {v : Int32} : (encC D N c x V ln df ++ rest).set 72 (.inr (8, [.ref (N + 73), .int (c 32 8), .int (x 3 0), .ref (N + 74), .int (x 3 1)].set 4 (.int v))) = encC D N c (tput x 3 (upd (x 3) 1 v)) V ln df ++ rest := rfl
set_option maxRecDepth 100000 in
theorem fc_73 {D : xD} {N : Nat} {c x V : T2} {ln df : Nat → Option Nat} {rest : List va_E} {j : Nat} {v b : Int32} (hb : b = v.toInt8.toInt32) : (encC D N c x V ln df ++ rest).set 73 (bA D 160 (upd (fun i => (c 21 i).toInt8.toInt32) j b)) = encC D N (tput c 21 (upd (c 21) j v)) x V ln df ++ rest := by
  have e : upd (fun i => (c 21 i).toInt8.toInt32) j b = fun i => ((tput c 21 (upd (c 21) j v)) 21 i).toInt8.toInt32 := by
    rw [tput_eq]
    funext i
    by_cases h : i = j
    · subst h; simp [upd, hb]
    · simp [upd, h]
  rw [e]
  rfl
theorem wc_len {D : xD} {N wb : Nat} {P : Nat → Int32} : (wcells D N wb P).length = 17 := rfl
theorem encA_len {D : xD} {N : Nat} {c x : T2} {ln : Nat → Option Nat} : (encA D N c x ln).length = 21 := rfl
theorem encC_len {D : xD} {N : Nat} {c x V : T2} {ln df : Nat → Option Nat} : (encC D N c x V ln df).length = 124 := rfl
theorem rd_w {D : xD} {N : Nat} {c x V : T2} {ln df : Nat → Option Nat} {rest : List va_E} {w i : Nat} (hw : w < 3) (hi : i < 17) : (encC D N c x V ln df ++ rest)[wA w + i]? = (wcells D N (wA w) (V w))[i]? := by
  unfold encC
  match w, hw with
  | 0, _ =>
    rw [show wA 0 + i = 21 + i from rfl, List.append_assoc, List.getElem?_append_right (by rw [encA_len]; omega), encA_len, show 21 + i - 21 = i by omega, List.append_assoc, List.getElem?_append_left (by rw [wc_len]; exact hi)]
  | 1, _ =>
    rw [show wA 1 + i = 38 + i from rfl, List.append_assoc, List.getElem?_append_right (by rw [encA_len]; omega), encA_len, List.append_assoc, List.getElem?_append_right (by rw [wc_len]; omega), wc_len, show 38 + i - 21 - 17 = i by omega, List.append_assoc, List.getElem?_append_left (by rw [wc_len]; exact hi)]
  | 2, _ =>
    rw [show wA 2 + i = 55 + i from rfl, List.append_assoc, List.getElem?_append_right (by rw [encA_len]; omega), encA_len, List.append_assoc, List.getElem?_append_right (by rw [wc_len]; omega), wc_len, List.append_assoc, List.getElem?_append_right (by rw [wc_len]; omega), wc_len, show 55 + i - 21 - 17 - 17 = i by omega, List.append_assoc, List.getElem?_append_left (by rw [wc_len]; exact hi)]
theorem fd_w {D : xD} {N : Nat} {c x V : T2} {ln df : Nat → Option Nat} {rest : List va_E} {w i : Nat} {e : va_E} {P2 : Nat → Int32} (hw : w < 3) (hi : i < 17) (h : (wcells D N (wA w) (V w)).set i e = wcells D N (wA w) P2) : (encC D N c x V ln df ++ rest).set (wA w + i) e = encC D N c x (va_up V w P2) ln df ++ rest := by
  unfold encC
  match w, hw with
  | 0, _ =>
    rw [show wA 0 + i = 21 + i from rfl, List.append_assoc, List.set_append_right _ _ (by rw [encA_len]; omega), encA_len, show 21 + i - 21 = i by omega, List.append_assoc, List.set_append_left _ _ (by rw [wc_len]; exact hi)]
    rw [show wcells D N 21 (V 0) = wcells D N (wA 0) (V 0) from rfl, h]
    simp [va_up]
  | 1, _ =>
    rw [show wA 1 + i = 38 + i from rfl, List.append_assoc, List.set_append_right _ _ (by rw [encA_len]; omega), encA_len, List.append_assoc, List.set_append_right _ _ (by rw [wc_len]; omega), wc_len, show 38 + i - 21 - 17 = i by omega, List.append_assoc, List.set_append_left _ _ (by rw [wc_len]; exact hi)]
    rw [show wcells D N 38 (V 1) = wcells D N (wA 1) (V 1) from rfl, h]
    simp [va_up]
  | 2, _ =>
    rw [show wA 2 + i = 55 + i from rfl, List.append_assoc, List.set_append_right _ _ (by rw [encA_len]; omega), encA_len, List.append_assoc, List.set_append_right _ _ (by rw [wc_len]; omega), wc_len, List.append_assoc, List.set_append_right _ _ (by rw [wc_len]; omega), wc_len, show 55 + i - 21 - 17 - 17 = i by omega, List.append_assoc, List.set_append_left _ _ (by rw [wc_len]; exact hi)]
    rw [show wcells D N 55 (V 2) = wcells D N (wA 2) (V 2) from rfl, h]
    simp [va_up]
theorem rdg {D : xD} {N : Nat} {c x V : T2} {P : Nat → Int32} {ln df : Nat → Option Nat} {rest : List va_E} {w i : Nat} (hw : w < 3) (hi : i < 17) : (encC D N c x (va_up V w P) ln df ++ rest)[wA w + i]? = (wcells D N (wA w) P)[i]? := by
  rw [rd_w hw hi, va_up_self]
theorem fdw {D : xD} {N : Nat} {c x V : T2} {P P2 : Nat → Int32} {ln df : Nat → Option Nat} {rest : List va_E} {w i : Nat} {e : va_E} (hw : w < 3) (hi : i < 17) (h : (wcells D N (wA w) P).set i e = wcells D N (wA w) P2) : (encC D N c x (va_up V w P) ln df ++ rest).set (wA w + i) e = encC D N c x (va_up V w P2) ln df ++ rest := by
  rw [fd_w hw hi (P2 := P2) (by rw [va_up_self]; exact h), bx_uu]
theorem rdO {D : xD} {N : Nat} {c x V : T2} {P : Nat → Int32} {ln df : Nat → Option Nat} {rest : List va_E} {w : Nat} (hw : w < 3) : (encC D N c x (va_up V w P) ln df ++ rest)[wA w]? = some (wObj N (wA w) P) := (rdg (i := 0) hw (by decide)).trans rfl
theorem rd1 {D : xD} {N : Nat} {c x V : T2} {P : Nat → Int32} {ln df : Nat → Option Nat} {rest : List va_E} {w : Nat} (hw : w < 3) : (encC D N c x (va_up V w P) ln df ++ rest)[wA w + 1]? = some (iA D 36 (sl P 0 36)) := (rdg (i := 1) hw (by decide)).trans rfl
theorem rd2 {D : xD} {N : Nat} {c x V : T2} {P : Nat → Int32} {ln df : Nat → Option Nat} {rest : List va_E} {w : Nat} (hw : w < 3) : (encC D N c x (va_up V w P) ln df ++ rest)[wA w + 2]? = some (iA D 36 (sl P 36 36)) := (rdg (i := 2) hw (by decide)).trans rfl
theorem rd3 {D : xD} {N : Nat} {c x V : T2} {P : Nat → Int32} {ln df : Nat → Option Nat} {rest : List va_E} {w : Nat} (hw : w < 3) : (encC D N c x (va_up V w P) ln df ++ rest)[wA w + 3]? = some (iA D 6 (sl P 228 6)) := (rdg (i := 3) hw (by decide)).trans rfl
theorem rd4 {D : xD} {N : Nat} {c x V : T2} {P : Nat → Int32} {ln df : Nat → Option Nat} {rest : List va_E} {w : Nat} (hw : w < 3) : (encC D N c x (va_up V w P) ln df ++ rest)[wA w + 4]? = some (oA D 4 12 (rowsW N (wA w))) := (rdg (i := 4) hw (by decide)).trans rfl
theorem rdR {D : xD} {N : Nat} {c x V : T2} {P : Nat → Int32} {ln df : Nat → Option Nat} {rest : List va_E} {w b : Nat} (hw : w < 3) (hb : b < 12) : (encC D N c x (va_up V w P) ln df ++ rest)[wA w + (5 + b)]? = some (rideC P b) := by
  rw [rdg hw (by omega)]
  show (_ :: _ :: _ :: _ :: _ :: (List.range 12).map (rideC P))[5 + b]? = _
  rw [show 5 + b = b + 1 + 1 + 1 + 1 + 1 by omega]
  simp only [List.getElem?_cons_succ, List.getElem?_map, List.getElem?_range hb, Option.map_some]
theorem map_set {α : Type} {f f2 : Nat → α} {n b : Nat} (h : ∀ i, i ≠ b → f2 i = f i) : ((List.range n).map f).set b (f2 b) = (List.range n).map f2 := by
  apply List.ext_getElem?
  intro i
  by_cases hb : b < n
  · by_cases e : b = i
    · subst e
      rw [List.getElem?_set_self (by simpa using hb)]
      simp [hb]
    · rw [List.getElem?_set_ne e]
      by_cases hi : i < n
      · simp [hi, h i (Ne.symm e)]
      · simp [hi]
  · rw [List.set_eq_of_length_le (by simpa using hb)]
    by_cases hi : i < n
    · simp [hi, h i (by omega)]
    · simp [hi]
theorem map_set2 {α : Type} {f f2 : Nat → α} {n b : Nat} (h : ∀ i, i ≠ b → i < n → f2 i = f i) : ((List.range n).map f).set b (f2 b) = (List.range n).map f2 := by
  apply List.ext_getElem?
  intro i
  by_cases hb : b < n
  · by_cases e : b = i
    · subst e
      rw [List.getElem?_set_self (by simpa using hb)]
      simp [hb]
    · rw [List.getElem?_set_ne e]
      by_cases hi : i < n
      · simp [hi, h i (Ne.symm e) hi]
      · simp [hi]
  · rw [List.set_eq_of_length_le (by simpa using hb)]
    by_cases hi : i < n
    · simp [hi, h i (by omega) hi]
    · simp [hi]
theorem ride_out {P : Nat → Int32} {k : Nat} {v : Int32} (h : k < 72 ∨ 228 ≤ k) : (List.range 12).map (rideC (upd P k v)) = (List.range 12).map (rideC P) := by
  apply List.map_congr_left
  intro b hb
  have hb : b < 12 := List.mem_range.mp hb
  simp only [rideC]
  rw [upd_ne (a := 72 + b) _ _ (by omega), upd_ne (a := 84 + b) _ _ (by omega), upd_ne (a := 96 + b) _ _ (by omega), upd_ne (a := 108 + b) _ _ (by omega), upd_ne (a := 120 + b) _ _ (by omega), upd_ne (a := 132 + b) _ _ (by omega), upd_ne (a := 144 + b) _ _ (by omega), upd_ne (a := 156 + b) _ _ (by omega), upd_ne (a := 168 + b) _ _ (by omega), upd_ne (a := 180 + b) _ _ (by omega), upd_ne (a := 192 + b) _ _ (by omega), upd_ne (a := 204 + b) _ _ (by omega), upd_ne (a := 216 + b) _ _ (by omega)]
theorem ws_o0 {D : xD} {N wb : Nat} {P : Nat → Int32} {v : Int32} : (wcells D N wb P).set 0 (.inr (10, [.int (P 234), .int (P 235), .int (P 236), .int (P 237), .int (P 238), .ref (N + (wb + 1)), .ref (N + (wb + 2)), .ref (N + (wb + 3)), .ref (N + (wb + 4))].set 0 (.int v))) = wcells D N wb (upd P 234 v) := by
  unfold wcells
  rw [ride_out (Or.inr (by decide)), sl_out (Or.inr (by decide)), sl_out (Or.inr (by decide)), sl_out (Or.inr (by decide))]
  rfl
theorem ws_o1 {D : xD} {N wb : Nat} {P : Nat → Int32} {v : Int32} : (wcells D N wb P).set 0 (.inr (10, [.int (P 234), .int (P 235), .int (P 236), .int (P 237), .int (P 238), .ref (N + (wb + 1)), .ref (N + (wb + 2)), .ref (N + (wb + 3)), .ref (N + (wb + 4))].set 1 (.int v))) = wcells D N wb (upd P 235 v) := by
  unfold wcells
  rw [ride_out (Or.inr (by decide)), sl_out (Or.inr (by decide)), sl_out (Or.inr (by decide)), sl_out (Or.inr (by decide))]
  rfl
theorem ws_o2 {D : xD} {N wb : Nat} {P : Nat → Int32} {v : Int32} : (wcells D N wb P).set 0 (.inr (10, [.int (P 234), .int (P 235), .int (P 236), .int (P 237), .int (P 238), .ref (N + (wb + 1)), .ref (N + (wb + 2)), .ref (N + (wb + 3)), .ref (N + (wb + 4))].set 2 (.int v))) = wcells D N wb (upd P 236 v) := by
  unfold wcells
  rw [ride_out (Or.inr (by decide)), sl_out (Or.inr (by decide)), sl_out (Or.inr (by decide)), sl_out (Or.inr (by decide))]
  rfl
theorem ws_o3 {D : xD} {N wb : Nat} {P : Nat → Int32} {v : Int32} : (wcells D N wb P).set 0 (.inr (10, [.int (P 234), .int (P 235), .int (P 236), .int (P 237), .int (P 238), .ref (N + (wb + 1)), .ref (N + (wb + 2)), .ref (N + (wb + 3)), .ref (N + (wb + 4))].set 3 (.int v))) = wcells D N wb (upd P 237 v) := by
  unfold wcells
  rw [ride_out (Or.inr (by decide)), sl_out (Or.inr (by decide)), sl_out (Or.inr (by decide)), sl_out (Or.inr (by decide))]
  rfl
theorem ws_o4 {D : xD} {N wb : Nat} {P : Nat → Int32} {v : Int32} : (wcells D N wb P).set 0 (.inr (10, [.int (P 234), .int (P 235), .int (P 236), .int (P 237), .int (P 238), .ref (N + (wb + 1)), .ref (N + (wb + 2)), .ref (N + (wb + 3)), .ref (N + (wb + 4))].set 4 (.int v))) = wcells D N wb (upd P 238 v) := by
  unfold wcells
  rw [ride_out (Or.inr (by decide)), sl_out (Or.inr (by decide)), sl_out (Or.inr (by decide)), sl_out (Or.inr (by decide))]
  rfl
theorem ws_c {D : xD} {N wb j : Nat} {P : Nat → Int32} {v : Int32} (hj : j < 36) : (wcells D N wb P).set 1 (iA D 36 (upd (sl P 0 36) j v)) = wcells D N wb (upd P (0 + j) v) := by
  unfold wcells
  rw [ride_out (by omega), sl_in hj]
  rw [sl_out (o := 36) (by omega), sl_out (o := 228) (by omega)]
  simp only [List.set_cons_succ, List.set_cons_zero, wObj]
  rw [upd_ne (a := 234) _ _ (by omega), upd_ne (a := 235) _ _ (by omega), upd_ne (a := 236) _ _ (by omega), upd_ne (a := 237) _ _ (by omega), upd_ne (a := 238) _ _ (by omega)]
theorem ws_p {D : xD} {N wb j : Nat} {P : Nat → Int32} {v : Int32} (hj : j < 36) : (wcells D N wb P).set 2 (iA D 36 (upd (sl P 36 36) j v)) = wcells D N wb (upd P (36 + j) v) := by
  unfold wcells
  rw [ride_out (by omega), sl_in hj]
  rw [sl_out (o := 0) (by omega), sl_out (o := 228) (by omega)]
  simp only [List.set_cons_succ, List.set_cons_zero, wObj]
  rw [upd_ne (a := 234) _ _ (by omega), upd_ne (a := 235) _ _ (by omega), upd_ne (a := 236) _ _ (by omega), upd_ne (a := 237) _ _ (by omega), upd_ne (a := 238) _ _ (by omega)]
theorem ws_n {D : xD} {N wb j : Nat} {P : Nat → Int32} {v : Int32} (hj : j < 6) : (wcells D N wb P).set 3 (iA D 6 (upd (sl P 228 6) j v)) = wcells D N wb (upd P (228 + j) v) := by
  unfold wcells
  rw [ride_out (by omega), sl_in hj]
  rw [sl_out (o := 0) (by omega), sl_out (o := 36) (by omega)]
  simp only [List.set_cons_succ, List.set_cons_zero, wObj]
  rw [upd_ne (a := 234) _ _ (by omega), upd_ne (a := 235) _ _ (by omega), upd_ne (a := 236) _ _ (by omega), upd_ne (a := 237) _ _ (by omega), upd_ne (a := 238) _ _ (by omega)]
theorem ws_r0 {D : xD} {N wb b : Nat} {P : Nat → Int32} {v : Int32} (hb : b < 12) : (wcells D N wb P).set (5 + b) (.inr (5, [.int (P (72 + b)), .int (P (84 + b)), .int (P (96 + b)), .int (P (108 + b)), .int (P (120 + b)), .int (P (132 + b)), .int (P (144 + b)), .int (P (156 + b)), .int (P (168 + b)), .int (P (180 + b)), .int (P (192 + b)), .int (P (204 + b)), .int (P (216 + b))].set 0 (.int v))) = wcells D N wb (upd P (72 + b) v) := by
  unfold wcells
  rw [sl_out (o := 0) (by omega), sl_out (o := 36) (by omega), sl_out (o := 228) (by omega)]
  rw [show 5 + b = b + 1 + 1 + 1 + 1 + 1 by omega]
  simp only [List.set_cons_succ, List.set_cons_zero, wObj]
  rw [upd_ne (a := 234) _ _ (by omega), upd_ne (a := 235) _ _ (by omega), upd_ne (a := 236) _ _ (by omega), upd_ne (a := 237) _ _ (by omega), upd_ne (a := 238) _ _ (by omega)]
  have h2 : (Sum.inr (5, [.int v, .int (P (84 + b)), .int (P (96 + b)), .int (P (108 + b)), .int (P (120 + b)), .int (P (132 + b)), .int (P (144 + b)), .int (P (156 + b)), .int (P (168 + b)), .int (P (180 + b)), .int (P (192 + b)), .int (P (204 + b)), .int (P (216 + b))]) : va_E) = rideC (upd P (72 + b) v) b := by
    simp only [rideC]
    rw [upd_eq, upd_ne (a := 84 + b) _ _ (by omega), upd_ne (a := 96 + b) _ _ (by omega), upd_ne (a := 108 + b) _ _ (by omega), upd_ne (a := 120 + b) _ _ (by omega), upd_ne (a := 132 + b) _ _ (by omega), upd_ne (a := 144 + b) _ _ (by omega), upd_ne (a := 156 + b) _ _ (by omega), upd_ne (a := 168 + b) _ _ (by omega), upd_ne (a := 180 + b) _ _ (by omega), upd_ne (a := 192 + b) _ _ (by omega), upd_ne (a := 204 + b) _ _ (by omega), upd_ne (a := 216 + b) _ _ (by omega)]
  rw [h2, map_set2 (f := rideC P) (f2 := rideC (upd P (72 + b) v))]
  intro i hi hi2
  simp only [rideC]
  rw [upd_ne (a := 72 + i) _ _ (by omega), upd_ne (a := 84 + i) _ _ (by omega), upd_ne (a := 96 + i) _ _ (by omega), upd_ne (a := 108 + i) _ _ (by omega), upd_ne (a := 120 + i) _ _ (by omega), upd_ne (a := 132 + i) _ _ (by omega), upd_ne (a := 144 + i) _ _ (by omega), upd_ne (a := 156 + i) _ _ (by omega), upd_ne (a := 168 + i) _ _ (by omega), upd_ne (a := 180 + i) _ _ (by omega), upd_ne (a := 192 + i) _ _ (by omega), upd_ne (a := 204 + i) _ _ (by omega), upd_ne (a := 216 + i) _ _ (by omega)]
theorem ws_r1 {D : xD} {N wb b : Nat} {P : Nat → Int32} {v : Int32} (hb : b < 12) : (wcells D N wb P).set (5 + b) (.inr (5, [.int (P (72 + b)), .int (P (84 + b)), .int (P (96 + b)), .int (P (108 + b)), .int (P (120 + b)), .int (P (132 + b)), .int (P (144 + b)), .int (P (156 + b)), .int (P (168 + b)), .int (P (180 + b)), .int (P (192 + b)), .int (P (204 + b)), .int (P (216 + b))].set 1 (.int v))) = wcells D N wb (upd P (84 + b) v) := by
  unfold wcells
  rw [sl_out (o := 0) (by omega), sl_out (o := 36) (by omega), sl_out (o := 228) (by omega)]
  rw [show 5 + b = b + 1 + 1 + 1 + 1 + 1 by omega]
  simp only [List.set_cons_succ, List.set_cons_zero, wObj]
  rw [upd_ne (a := 234) _ _ (by omega), upd_ne (a := 235) _ _ (by omega), upd_ne (a := 236) _ _ (by omega), upd_ne (a := 237) _ _ (by omega), upd_ne (a := 238) _ _ (by omega)]
  have h2 : (Sum.inr (5, [.int (P (72 + b)), .int v, .int (P (96 + b)), .int (P (108 + b)), .int (P (120 + b)), .int (P (132 + b)), .int (P (144 + b)), .int (P (156 + b)), .int (P (168 + b)), .int (P (180 + b)), .int (P (192 + b)), .int (P (204 + b)), .int (P (216 + b))]) : va_E) = rideC (upd P (84 + b) v) b := by
    simp only [rideC]
    rw [upd_ne (a := 72 + b) _ _ (by omega), upd_eq, upd_ne (a := 96 + b) _ _ (by omega), upd_ne (a := 108 + b) _ _ (by omega), upd_ne (a := 120 + b) _ _ (by omega), upd_ne (a := 132 + b) _ _ (by omega), upd_ne (a := 144 + b) _ _ (by omega), upd_ne (a := 156 + b) _ _ (by omega), upd_ne (a := 168 + b) _ _ (by omega), upd_ne (a := 180 + b) _ _ (by omega), upd_ne (a := 192 + b) _ _ (by omega), upd_ne (a := 204 + b) _ _ (by omega), upd_ne (a := 216 + b) _ _ (by omega)]
  rw [h2, map_set2 (f := rideC P) (f2 := rideC (upd P (84 + b) v))]
  intro i hi hi2
  simp only [rideC]
  rw [upd_ne (a := 72 + i) _ _ (by omega), upd_ne (a := 84 + i) _ _ (by omega), upd_ne (a := 96 + i) _ _ (by omega), upd_ne (a := 108 + i) _ _ (by omega), upd_ne (a := 120 + i) _ _ (by omega), upd_ne (a := 132 + i) _ _ (by omega), upd_ne (a := 144 + i) _ _ (by omega), upd_ne (a := 156 + i) _ _ (by omega), upd_ne (a := 168 + i) _ _ (by omega), upd_ne (a := 180 + i) _ _ (by omega), upd_ne (a := 192 + i) _ _ (by omega), upd_ne (a := 204 + i) _ _ (by omega), upd_ne (a := 216 + i) _ _ (by omega)]
theorem ws_r2 {D : xD} {N wb b : Nat} {P : Nat → Int32} {v : Int32} (hb : b < 12) : (wcells D N wb P).set (5 + b) (.inr (5, [.int (P (72 + b)), .int (P (84 + b)), .int (P (96 + b)), .int (P (108 + b)), .int (P (120 + b)), .int (P (132 + b)), .int (P (144 + b)), .int (P (156 + b)), .int (P (168 + b)), .int (P (180 + b)), .int (P (192 + b)), .int (P (204 + b)), .int (P (216 + b))].set 2 (.int v))) = wcells D N wb (upd P (96 + b) v) := by
  unfold wcells
  rw [sl_out (o := 0) (by omega), sl_out (o := 36) (by omega), sl_out (o := 228) (by omega)]
  rw [show 5 + b = b + 1 + 1 + 1 + 1 + 1 by omega]
  simp only [List.set_cons_succ, List.set_cons_zero, wObj]
  rw [upd_ne (a := 234) _ _ (by omega), upd_ne (a := 235) _ _ (by omega), upd_ne (a := 236) _ _ (by omega), upd_ne (a := 237) _ _ (by omega), upd_ne (a := 238) _ _ (by omega)]
  have h2 : (Sum.inr (5, [.int (P (72 + b)), .int (P (84 + b)), .int v, .int (P (108 + b)), .int (P (120 + b)), .int (P (132 + b)), .int (P (144 + b)), .int (P (156 + b)), .int (P (168 + b)), .int (P (180 + b)), .int (P (192 + b)), .int (P (204 + b)), .int (P (216 + b))]) : va_E) = rideC (upd P (96 + b) v) b := by
    simp only [rideC]
    rw [upd_ne (a := 72 + b) _ _ (by omega), upd_ne (a := 84 + b) _ _ (by omega), upd_eq, upd_ne (a := 108 + b) _ _ (by omega), upd_ne (a := 120 + b) _ _ (by omega), upd_ne (a := 132 + b) _ _ (by omega), upd_ne (a := 144 + b) _ _ (by omega), upd_ne (a := 156 + b) _ _ (by omega), upd_ne (a := 168 + b) _ _ (by omega), upd_ne (a := 180 + b) _ _ (by omega), upd_ne (a := 192 + b) _ _ (by omega), upd_ne (a := 204 + b) _ _ (by omega), upd_ne (a := 216 + b) _ _ (by omega)]
  rw [h2, map_set2 (f := rideC P) (f2 := rideC (upd P (96 + b) v))]
  intro i hi hi2
  simp only [rideC]
  rw [upd_ne (a := 72 + i) _ _ (by omega), upd_ne (a := 84 + i) _ _ (by omega), upd_ne (a := 96 + i) _ _ (by omega), upd_ne (a := 108 + i) _ _ (by omega), upd_ne (a := 120 + i) _ _ (by omega), upd_ne (a := 132 + i) _ _ (by omega), upd_ne (a := 144 + i) _ _ (by omega), upd_ne (a := 156 + i) _ _ (by omega), upd_ne (a := 168 + i) _ _ (by omega), upd_ne (a := 180 + i) _ _ (by omega), upd_ne (a := 192 + i) _ _ (by omega), upd_ne (a := 204 + i) _ _ (by omega), upd_ne (a := 216 + i) _ _ (by omega)]
theorem ws_r3 {D : xD} {N wb b : Nat} {P : Nat → Int32} {v : Int32} (hb : b < 12) : (wcells D N wb P).set (5 + b) (.inr (5, [.int (P (72 + b)), .int (P (84 + b)), .int (P (96 + b)), .int (P (108 + b)), .int (P (120 + b)), .int (P (132 + b)), .int (P (144 + b)), .int (P (156 + b)), .int (P (168 + b)), .int (P (180 + b)), .int (P (192 + b)), .int (P (204 + b)), .int (P (216 + b))].set 3 (.int v))) = wcells D N wb (upd P (108 + b) v) := by
  unfold wcells
  rw [sl_out (o := 0) (by omega), sl_out (o := 36) (by omega), sl_out (o := 228) (by omega)]
  rw [show 5 + b = b + 1 + 1 + 1 + 1 + 1 by omega]
  simp only [List.set_cons_succ, List.set_cons_zero, wObj]
  rw [upd_ne (a := 234) _ _ (by omega), upd_ne (a := 235) _ _ (by omega), upd_ne (a := 236) _ _ (by omega), upd_ne (a := 237) _ _ (by omega), upd_ne (a := 238) _ _ (by omega)]
  have h2 : (Sum.inr (5, [.int (P (72 + b)), .int (P (84 + b)), .int (P (96 + b)), .int v, .int (P (120 + b)), .int (P (132 + b)), .int (P (144 + b)), .int (P (156 + b)), .int (P (168 + b)), .int (P (180 + b)), .int (P (192 + b)), .int (P (204 + b)), .int (P (216 + b))]) : va_E) = rideC (upd P (108 + b) v) b := by
    simp only [rideC]
    rw [upd_ne (a := 72 + b) _ _ (by omega), upd_ne (a := 84 + b) _ _ (by omega), upd_ne (a := 96 + b) _ _ (by omega), upd_eq, upd_ne (a := 120 + b) _ _ (by omega), upd_ne (a := 132 + b) _ _ (by omega), upd_ne (a := 144 + b) _ _ (by omega), upd_ne (a := 156 + b) _ _ (by omega), upd_ne (a := 168 + b) _ _ (by omega), upd_ne (a := 180 + b) _ _ (by omega), upd_ne (a := 192 + b) _ _ (by omega), upd_ne (a := 204 + b) _ _ (by omega), upd_ne (a := 216 + b) _ _ (by omega)]
  rw [h2, map_set2 (f := rideC P) (f2 := rideC (upd P (108 + b) v))]
  intro i hi hi2
  simp only [rideC]
  rw [upd_ne (a := 72 + i) _ _ (by omega), upd_ne (a := 84 + i) _ _ (by omega), upd_ne (a := 96 + i) _ _ (by omega), upd_ne (a := 108 + i) _ _ (by omega), upd_ne (a := 120 + i) _ _ (by omega), upd_ne (a := 132 + i) _ _ (by omega), upd_ne (a := 144 + i) _ _ (by omega), upd_ne (a := 156 + i) _ _ (by omega), upd_ne (a := 168 + i) _ _ (by omega), upd_ne (a := 180 + i) _ _ (by omega), upd_ne (a := 192 + i) _ _ (by omega), upd_ne (a := 204 + i) _ _ (by omega), upd_ne (a := 216 + i) _ _ (by omega)]
theorem ws_r4 {D : xD} {N wb b : Nat} {P : Nat → Int32} {v : Int32} (hb : b < 12) : (wcells D N wb P).set (5 + b) (.inr (5, [.int (P (72 + b)), .int (P (84 + b)), .int (P (96 + b)), .int (P (108 + b)), .int (P (120 + b)), .int (P (132 + b)), .int (P (144 + b)), .int (P (156 + b)), .int (P (168 + b)), .int (P (180 + b)), .int (P (192 + b)), .int (P (204 + b)), .int (P (216 + b))].set 4 (.int v))) = wcells D N wb (upd P (120 + b) v) := by
  unfold wcells
  rw [sl_out (o := 0) (by omega), sl_out (o := 36) (by omega), sl_out (o := 228) (by omega)]
  rw [show 5 + b = b + 1 + 1 + 1 + 1 + 1 by omega]
  simp only [List.set_cons_succ, List.set_cons_zero, wObj]
  rw [upd_ne (a := 234) _ _ (by omega), upd_ne (a := 235) _ _ (by omega), upd_ne (a := 236) _ _ (by omega), upd_ne (a := 237) _ _ (by omega), upd_ne (a := 238) _ _ (by omega)]
  have h2 : (Sum.inr (5, [.int (P (72 + b)), .int (P (84 + b)), .int (P (96 + b)), .int (P (108 + b)), .int v, .int (P (132 + b)), .int (P (144 + b)), .int (P (156 + b)), .int (P (168 + b)), .int (P (180 + b)), .int (P (192 + b)), .int (P (204 + b)), .int (P (216 + b))]) : va_E) = rideC (upd P (120 + b) v) b := by
    simp only [rideC]
    rw [upd_ne (a := 72 + b) _ _ (by omega), upd_ne (a := 84 + b) _ _ (by omega), upd_ne (a := 96 + b) _ _ (by omega), upd_ne (a := 108 + b) _ _ (by omega), upd_eq, upd_ne (a := 132 + b) _ _ (by omega), upd_ne (a := 144 + b) _ _ (by omega), upd_ne (a := 156 + b) _ _ (by omega), upd_ne (a := 168 + b) _ _ (by omega), upd_ne (a := 180 + b) _ _ (by omega), upd_ne (a := 192 + b) _ _ (by omega), upd_ne (a := 204 + b) _ _ (by omega), upd_ne (a := 216 + b) _ _ (by omega)]
  rw [h2, map_set2 (f := rideC P) (f2 := rideC (upd P (120 + b) v))]
  intro i hi hi2
  simp only [rideC]
  rw [upd_ne (a := 72 + i) _ _ (by omega), upd_ne (a := 84 + i) _ _ (by omega), upd_ne (a := 96 + i) _ _ (by omega), upd_ne (a := 108 + i) _ _ (by omega), upd_ne (a := 120 + i) _ _ (by omega), upd_ne (a := 132 + i) _ _ (by omega), upd_ne (a := 144 + i) _ _ (by omega), upd_ne (a := 156 + i) _ _ (by omega), upd_ne (a := 168 + i) _ _ (by omega), upd_ne (a := 180 + i) _ _ (by omega), upd_ne (a := 192 + i) _ _ (by omega), upd_ne (a := 204 + i) _ _ (by omega), upd_ne (a := 216 + i) _ _ (by omega)]
theorem ws_r5 {D : xD} {N wb b : Nat} {P : Nat → Int32} {v : Int32} (hb : b < 12) : (wcells D N wb P).set (5 + b) (.inr (5, [.int (P (72 + b)), .int (P (84 + b)), .int (P (96 + b)), .int (P (108 + b)), .int (P (120 + b)), .int (P (132 + b)), .int (P (144 + b)), .int (P (156 + b)), .int (P (168 + b)), .int (P (180 + b)), .int (P (192 + b)), .int (P (204 + b)), .int (P (216 + b))].set 5 (.int v))) = wcells D N wb (upd P (132 + b) v) := by
  unfold wcells
  rw [sl_out (o := 0) (by omega), sl_out (o := 36) (by omega), sl_out (o := 228) (by omega)]
  rw [show 5 + b = b + 1 + 1 + 1 + 1 + 1 by omega]
  simp only [List.set_cons_succ, List.set_cons_zero, wObj]
  rw [upd_ne (a := 234) _ _ (by omega), upd_ne (a := 235) _ _ (by omega), upd_ne (a := 236) _ _ (by omega), upd_ne (a := 237) _ _ (by omega), upd_ne (a := 238) _ _ (by omega)]
  have h2 : (Sum.inr (5, [.int (P (72 + b)), .int (P (84 + b)), .int (P (96 + b)), .int (P (108 + b)), .int (P (120 + b)), .int v, .int (P (144 + b)), .int (P (156 + b)), .int (P (168 + b)), .int (P (180 + b)), .int (P (192 + b)), .int (P (204 + b)), .int (P (216 + b))]) : va_E) = rideC (upd P (132 + b) v) b := by
    simp only [rideC]
    rw [upd_ne (a := 72 + b) _ _ (by omega), upd_ne (a := 84 + b) _ _ (by omega), upd_ne (a := 96 + b) _ _ (by omega), upd_ne (a := 108 + b) _ _ (by omega), upd_ne (a := 120 + b) _ _ (by omega), upd_eq, upd_ne (a := 144 + b) _ _ (by omega), upd_ne (a := 156 + b) _ _ (by omega), upd_ne (a := 168 + b) _ _ (by omega), upd_ne (a := 180 + b) _ _ (by omega), upd_ne (a := 192 + b) _ _ (by omega), upd_ne (a := 204 + b) _ _ (by omega), upd_ne (a := 216 + b) _ _ (by omega)]
  rw [h2, map_set2 (f := rideC P) (f2 := rideC (upd P (132 + b) v))]
  intro i hi hi2
  simp only [rideC]
  rw [upd_ne (a := 72 + i) _ _ (by omega), upd_ne (a := 84 + i) _ _ (by omega), upd_ne (a := 96 + i) _ _ (by omega), upd_ne (a := 108 + i) _ _ (by omega), upd_ne (a := 120 + i) _ _ (by omega), upd_ne (a := 132 + i) _ _ (by omega), upd_ne (a := 144 + i) _ _ (by omega), upd_ne (a := 156 + i) _ _ (by omega), upd_ne (a := 168 + i) _ _ (by omega), upd_ne (a := 180 + i) _ _ (by omega), upd_ne (a := 192 + i) _ _ (by omega), upd_ne (a := 204 + i) _ _ (by omega), upd_ne (a := 216 + i) _ _ (by omega)]
theorem ws_r6 {D : xD} {N wb b : Nat} {P : Nat → Int32} {v : Int32} (hb : b < 12) : (wcells D N wb P).set (5 + b) (.inr (5, [.int (P (72 + b)), .int (P (84 + b)), .int (P (96 + b)), .int (P (108 + b)), .int (P (120 + b)), .int (P (132 + b)), .int (P (144 + b)), .int (P (156 + b)), .int (P (168 + b)), .int (P (180 + b)), .int (P (192 + b)), .int (P (204 + b)), .int (P (216 + b))].set 6 (.int v))) = wcells D N wb (upd P (144 + b) v) := by
  unfold wcells
  rw [sl_out (o := 0) (by omega), sl_out (o := 36) (by omega), sl_out (o := 228) (by omega)]
  rw [show 5 + b = b + 1 + 1 + 1 + 1 + 1 by omega]
  simp only [List.set_cons_succ, List.set_cons_zero, wObj]
  rw [upd_ne (a := 234) _ _ (by omega), upd_ne (a := 235) _ _ (by omega), upd_ne (a := 236) _ _ (by omega), upd_ne (a := 237) _ _ (by omega), upd_ne (a := 238) _ _ (by omega)]
  have h2 : (Sum.inr (5, [.int (P (72 + b)), .int (P (84 + b)), .int (P (96 + b)), .int (P (108 + b)), .int (P (120 + b)), .int (P (132 + b)), .int v, .int (P (156 + b)), .int (P (168 + b)), .int (P (180 + b)), .int (P (192 + b)), .int (P (204 + b)), .int (P (216 + b))]) : va_E) = rideC (upd P (144 + b) v) b := by
    simp only [rideC]
    rw [upd_ne (a := 72 + b) _ _ (by omega), upd_ne (a := 84 + b) _ _ (by omega), upd_ne (a := 96 + b) _ _ (by omega), upd_ne (a := 108 + b) _ _ (by omega), upd_ne (a := 120 + b) _ _ (by omega), upd_ne (a := 132 + b) _ _ (by omega), upd_eq, upd_ne (a := 156 + b) _ _ (by omega), upd_ne (a := 168 + b) _ _ (by omega), upd_ne (a := 180 + b) _ _ (by omega), upd_ne (a := 192 + b) _ _ (by omega), upd_ne (a := 204 + b) _ _ (by omega), upd_ne (a := 216 + b) _ _ (by omega)]
  rw [h2, map_set2 (f := rideC P) (f2 := rideC (upd P (144 + b) v))]
  intro i hi hi2
  simp only [rideC]
  rw [upd_ne (a := 72 + i) _ _ (by omega), upd_ne (a := 84 + i) _ _ (by omega), upd_ne (a := 96 + i) _ _ (by omega), upd_ne (a := 108 + i) _ _ (by omega), upd_ne (a := 120 + i) _ _ (by omega), upd_ne (a := 132 + i) _ _ (by omega), upd_ne (a := 144 + i) _ _ (by omega), upd_ne (a := 156 + i) _ _ (by omega), upd_ne (a := 168 + i) _ _ (by omega), upd_ne (a := 180 + i) _ _ (by omega), upd_ne (a := 192 + i) _ _ (by omega), upd_ne (a := 204 + i) _ _ (by omega), upd_ne (a := 216 + i) _ _ (by omega)]
theorem ws_r7 {D : xD} {N wb b : Nat} {P : Nat → Int32} {v : Int32} (hb : b < 12) : (wcells D N wb P).set (5 + b) (.inr (5, [.int (P (72 + b)), .int (P (84 + b)), .int (P (96 + b)), .int (P (108 + b)), .int (P (120 + b)), .int (P (132 + b)), .int (P (144 + b)), .int (P (156 + b)), .int (P (168 + b)), .int (P (180 + b)), .int (P (192 + b)), .int (P (204 + b)), .int (P (216 + b))].set 7 (.int v))) = wcells D N wb (upd P (156 + b) v) := by
  unfold wcells
  rw [sl_out (o := 0) (by omega), sl_out (o := 36) (by omega), sl_out (o := 228) (by omega)]
  rw [show 5 + b = b + 1 + 1 + 1 + 1 + 1 by omega]
  simp only [List.set_cons_succ, List.set_cons_zero, wObj]
  rw [upd_ne (a := 234) _ _ (by omega), upd_ne (a := 235) _ _ (by omega), upd_ne (a := 236) _ _ (by omega), upd_ne (a := 237) _ _ (by omega), upd_ne (a := 238) _ _ (by omega)]
  have h2 : (Sum.inr (5, [.int (P (72 + b)), .int (P (84 + b)), .int (P (96 + b)), .int (P (108 + b)), .int (P (120 + b)), .int (P (132 + b)), .int (P (144 + b)), .int v, .int (P (168 + b)), .int (P (180 + b)), .int (P (192 + b)), .int (P (204 + b)), .int (P (216 + b))]) : va_E) = rideC (upd P (156 + b) v) b := by
    simp only [rideC]
    rw [upd_ne (a := 72 + b) _ _ (by omega), upd_ne (a := 84 + b) _ _ (by omega), upd_ne (a := 96 + b) _ _ (by omega), upd_ne (a := 108 + b) _ _ (by omega), upd_ne (a := 120 + b) _ _ (by omega), upd_ne (a := 132 + b) _ _ (by omega), upd_ne (a := 144 + b) _ _ (by omega), upd_eq, upd_ne (a := 168 + b) _ _ (by omega), upd_ne (a := 180 + b) _ _ (by omega), upd_ne (a := 192 + b) _ _ (by omega), upd_ne (a := 204 + b) _ _ (by omega), upd_ne (a := 216 + b) _ _ (by omega)]
  rw [h2, map_set2 (f := rideC P) (f2 := rideC (upd P (156 + b) v))]
  intro i hi hi2
  simp only [rideC]
  rw [upd_ne (a := 72 + i) _ _ (by omega), upd_ne (a := 84 + i) _ _ (by omega), upd_ne (a := 96 + i) _ _ (by omega), upd_ne (a := 108 + i) _ _ (by omega), upd_ne (a := 120 + i) _ _ (by omega), upd_ne (a := 132 + i) _ _ (by omega), upd_ne (a := 144 + i) _ _ (by omega), upd_ne (a := 156 + i) _ _ (by omega), upd_ne (a := 168 + i) _ _ (by omega), upd_ne (a := 180 + i) _ _ (by omega), upd_ne (a := 192 + i) _ _ (by omega), upd_ne (a := 204 + i) _ _ (by omega), upd_ne (a := 216 + i) _ _ (by omega)]
theorem ws_r8 {D : xD} {N wb b : Nat} {P : Nat → Int32} {v : Int32} (hb : b < 12) : (wcells D N wb P).set (5 + b) (.inr (5, [.int (P (72 + b)), .int (P (84 + b)), .int (P (96 + b)), .int (P (108 + b)), .int (P (120 + b)), .int (P (132 + b)), .int (P (144 + b)), .int (P (156 + b)), .int (P (168 + b)), .int (P (180 + b)), .int (P (192 + b)), .int (P (204 + b)), .int (P (216 + b))].set 8 (.int v))) = wcells D N wb (upd P (168 + b) v) := by
  unfold wcells
  rw [sl_out (o := 0) (by omega), sl_out (o := 36) (by omega), sl_out (o := 228) (by omega)]
  rw [show 5 + b = b + 1 + 1 + 1 + 1 + 1 by omega]
  simp only [List.set_cons_succ, List.set_cons_zero, wObj]
  rw [upd_ne (a := 234) _ _ (by omega), upd_ne (a := 235) _ _ (by omega), upd_ne (a := 236) _ _ (by omega), upd_ne (a := 237) _ _ (by omega), upd_ne (a := 238) _ _ (by omega)]
  have h2 : (Sum.inr (5, [.int (P (72 + b)), .int (P (84 + b)), .int (P (96 + b)), .int (P (108 + b)), .int (P (120 + b)), .int (P (132 + b)), .int (P (144 + b)), .int (P (156 + b)), .int v, .int (P (180 + b)), .int (P (192 + b)), .int (P (204 + b)), .int (P (216 + b))]) : va_E) = rideC (upd P (168 + b) v) b := by
    simp only [rideC]
    rw [upd_ne (a := 72 + b) _ _ (by omega), upd_ne (a := 84 + b) _ _ (by omega), upd_ne (a := 96 + b) _ _ (by omega), upd_ne (a := 108 + b) _ _ (by omega), upd_ne (a := 120 + b) _ _ (by omega), upd_ne (a := 132 + b) _ _ (by omega), upd_ne (a := 144 + b) _ _ (by omega), upd_ne (a := 156 + b) _ _ (by omega), upd_eq, upd_ne (a := 180 + b) _ _ (by omega), upd_ne (a := 192 + b) _ _ (by omega), upd_ne (a := 204 + b) _ _ (by omega), upd_ne (a := 216 + b) _ _ (by omega)]
  rw [h2, map_set2 (f := rideC P) (f2 := rideC (upd P (168 + b) v))]
  intro i hi hi2
  simp only [rideC]
  rw [upd_ne (a := 72 + i) _ _ (by omega), upd_ne (a := 84 + i) _ _ (by omega), upd_ne (a := 96 + i) _ _ (by omega), upd_ne (a := 108 + i) _ _ (by omega), upd_ne (a := 120 + i) _ _ (by omega), upd_ne (a := 132 + i) _ _ (by omega), upd_ne (a := 144 + i) _ _ (by omega), upd_ne (a := 156 + i) _ _ (by omega), upd_ne (a := 168 + i) _ _ (by omega), upd_ne (a := 180 + i) _ _ (by omega), upd_ne (a := 192 + i) _ _ (by omega), upd_ne (a := 204 + i) _ _ (by omega), upd_ne (a := 216 + i) _ _ (by omega)]
theorem ws_r9 {D : xD} {N wb b : Nat} {P : Nat → Int32} {v : Int32} (hb : b < 12) : (wcells D N wb P).set (5 + b) (.inr (5, [.int (P (72 + b)), .int (P (84 + b)), .int (P (96 + b)), .int (P (108 + b)), .int (P (120 + b)), .int (P (132 + b)), .int (P (144 + b)), .int (P (156 + b)), .int (P (168 + b)), .int (P (180 + b)), .int (P (192 + b)), .int (P (204 + b)), .int (P (216 + b))].set 9 (.int v))) = wcells D N wb (upd P (180 + b) v) := by
  unfold wcells
  rw [sl_out (o := 0) (by omega), sl_out (o := 36) (by omega), sl_out (o := 228) (by omega)]
  rw [show 5 + b = b + 1 + 1 + 1 + 1 + 1 by omega]
  simp only [List.set_cons_succ, List.set_cons_zero, wObj]
  rw [upd_ne (a := 234) _ _ (by omega), upd_ne (a := 235) _ _ (by omega), upd_ne (a := 236) _ _ (by omega), upd_ne (a := 237) _ _ (by omega), upd_ne (a := 238) _ _ (by omega)]
  have h2 : (Sum.inr (5, [.int (P (72 + b)), .int (P (84 + b)), .int (P (96 + b)), .int (P (108 + b)), .int (P (120 + b)), .int (P (132 + b)), .int (P (144 + b)), .int (P (156 + b)), .int (P (168 + b)), .int v, .int (P (192 + b)), .int (P (204 + b)), .int (P (216 + b))]) : va_E) = rideC (upd P (180 + b) v) b := by
    simp only [rideC]
    rw [upd_ne (a := 72 + b) _ _ (by omega), upd_ne (a := 84 + b) _ _ (by omega), upd_ne (a := 96 + b) _ _ (by omega), upd_ne (a := 108 + b) _ _ (by omega), upd_ne (a := 120 + b) _ _ (by omega), upd_ne (a := 132 + b) _ _ (by omega), upd_ne (a := 144 + b) _ _ (by omega), upd_ne (a := 156 + b) _ _ (by omega), upd_ne (a := 168 + b) _ _ (by omega), upd_eq, upd_ne (a := 192 + b) _ _ (by omega), upd_ne (a := 204 + b) _ _ (by omega), upd_ne (a := 216 + b) _ _ (by omega)]
  rw [h2, map_set2 (f := rideC P) (f2 := rideC (upd P (180 + b) v))]
  intro i hi hi2
  simp only [rideC]
  rw [upd_ne (a := 72 + i) _ _ (by omega), upd_ne (a := 84 + i) _ _ (by omega), upd_ne (a := 96 + i) _ _ (by omega), upd_ne (a := 108 + i) _ _ (by omega), upd_ne (a := 120 + i) _ _ (by omega), upd_ne (a := 132 + i) _ _ (by omega), upd_ne (a := 144 + i) _ _ (by omega), upd_ne (a := 156 + i) _ _ (by omega), upd_ne (a := 168 + i) _ _ (by omega), upd_ne (a := 180 + i) _ _ (by omega), upd_ne (a := 192 + i) _ _ (by omega), upd_ne (a := 204 + i) _ _ (by omega), upd_ne (a := 216 + i) _ _ (by omega)]
theorem ws_r10 {D : xD} {N wb b : Nat} {P : Nat → Int32} {v : Int32} (hb : b < 12) : (wcells D N wb P).set (5 + b) (.inr (5, [.int (P (72 + b)), .int (P (84 + b)), .int (P (96 + b)), .int (P (108 + b)), .int (P (120 + b)), .int (P (132 + b)), .int (P (144 + b)), .int (P (156 + b)), .int (P (168 + b)), .int (P (180 + b)), .int (P (192 + b)), .int (P (204 + b)), .int (P (216 + b))].set 10 (.int v))) = wcells D N wb (upd P (192 + b) v) := by
  unfold wcells
  rw [sl_out (o := 0) (by omega), sl_out (o := 36) (by omega), sl_out (o := 228) (by omega)]
  rw [show 5 + b = b + 1 + 1 + 1 + 1 + 1 by omega]
  simp only [List.set_cons_succ, List.set_cons_zero, wObj]
  rw [upd_ne (a := 234) _ _ (by omega), upd_ne (a := 235) _ _ (by omega), upd_ne (a := 236) _ _ (by omega), upd_ne (a := 237) _ _ (by omega), upd_ne (a := 238) _ _ (by omega)]
  have h2 : (Sum.inr (5, [.int (P (72 + b)), .int (P (84 + b)), .int (P (96 + b)), .int (P (108 + b)), .int (P (120 + b)), .int (P (132 + b)), .int (P (144 + b)), .int (P (156 + b)), .int (P (168 + b)), .int (P (180 + b)), .int v, .int (P (204 + b)), .int (P (216 + b))]) : va_E) = rideC (upd P (192 + b) v) b := by
    simp only [rideC]
    rw [upd_ne (a := 72 + b) _ _ (by omega), upd_ne (a := 84 + b) _ _ (by omega), upd_ne (a := 96 + b) _ _ (by omega), upd_ne (a := 108 + b) _ _ (by omega), upd_ne (a := 120 + b) _ _ (by omega), upd_ne (a := 132 + b) _ _ (by omega), upd_ne (a := 144 + b) _ _ (by omega), upd_ne (a := 156 + b) _ _ (by omega), upd_ne (a := 168 + b) _ _ (by omega), upd_ne (a := 180 + b) _ _ (by omega), upd_eq, upd_ne (a := 204 + b) _ _ (by omega), upd_ne (a := 216 + b) _ _ (by omega)]
  rw [h2, map_set2 (f := rideC P) (f2 := rideC (upd P (192 + b) v))]
  intro i hi hi2
  simp only [rideC]
  rw [upd_ne (a := 72 + i) _ _ (by omega), upd_ne (a := 84 + i) _ _ (by omega), upd_ne (a := 96 + i) _ _ (by omega), upd_ne (a := 108 + i) _ _ (by omega), upd_ne (a := 120 + i) _ _ (by omega), upd_ne (a := 132 + i) _ _ (by omega), upd_ne (a := 144 + i) _ _ (by omega), upd_ne (a := 156 + i) _ _ (by omega), upd_ne (a := 168 + i) _ _ (by omega), upd_ne (a := 180 + i) _ _ (by omega), upd_ne (a := 192 + i) _ _ (by omega), upd_ne (a := 204 + i) _ _ (by omega), upd_ne (a := 216 + i) _ _ (by omega)]
theorem ws_r11 {D : xD} {N wb b : Nat} {P : Nat → Int32} {v : Int32} (hb : b < 12) : (wcells D N wb P).set (5 + b) (.inr (5, [.int (P (72 + b)), .int (P (84 + b)), .int (P (96 + b)), .int (P (108 + b)), .int (P (120 + b)), .int (P (132 + b)), .int (P (144 + b)), .int (P (156 + b)), .int (P (168 + b)), .int (P (180 + b)), .int (P (192 + b)), .int (P (204 + b)), .int (P (216 + b))].set 11 (.int v))) = wcells D N wb (upd P (204 + b) v) := by
  unfold wcells
  rw [sl_out (o := 0) (by omega), sl_out (o := 36) (by omega), sl_out (o := 228) (by omega)]
  rw [show 5 + b = b + 1 + 1 + 1 + 1 + 1 by omega]
  simp only [List.set_cons_succ, List.set_cons_zero, wObj]
  rw [upd_ne (a := 234) _ _ (by omega), upd_ne (a := 235) _ _ (by omega), upd_ne (a := 236) _ _ (by omega), upd_ne (a := 237) _ _ (by omega), upd_ne (a := 238) _ _ (by omega)]
  have h2 : (Sum.inr (5, [.int (P (72 + b)), .int (P (84 + b)), .int (P (96 + b)), .int (P (108 + b)), .int (P (120 + b)), .int (P (132 + b)), .int (P (144 + b)), .int (P (156 + b)), .int (P (168 + b)), .int (P (180 + b)), .int (P (192 + b)), .int v, .int (P (216 + b))]) : va_E) = rideC (upd P (204 + b) v) b := by
    simp only [rideC]
    rw [upd_ne (a := 72 + b) _ _ (by omega), upd_ne (a := 84 + b) _ _ (by omega), upd_ne (a := 96 + b) _ _ (by omega), upd_ne (a := 108 + b) _ _ (by omega), upd_ne (a := 120 + b) _ _ (by omega), upd_ne (a := 132 + b) _ _ (by omega), upd_ne (a := 144 + b) _ _ (by omega), upd_ne (a := 156 + b) _ _ (by omega), upd_ne (a := 168 + b) _ _ (by omega), upd_ne (a := 180 + b) _ _ (by omega), upd_ne (a := 192 + b) _ _ (by omega), upd_eq, upd_ne (a := 216 + b) _ _ (by omega)]
  rw [h2, map_set2 (f := rideC P) (f2 := rideC (upd P (204 + b) v))]
  intro i hi hi2
  simp only [rideC]
  rw [upd_ne (a := 72 + i) _ _ (by omega), upd_ne (a := 84 + i) _ _ (by omega), upd_ne (a := 96 + i) _ _ (by omega), upd_ne (a := 108 + i) _ _ (by omega), upd_ne (a := 120 + i) _ _ (by omega), upd_ne (a := 132 + i) _ _ (by omega), upd_ne (a := 144 + i) _ _ (by omega), upd_ne (a := 156 + i) _ _ (by omega), upd_ne (a := 168 + i) _ _ (by omega), upd_ne (a := 180 + i) _ _ (by omega), upd_ne (a := 192 + i) _ _ (by omega), upd_ne (a := 204 + i) _ _ (by omega), upd_ne (a := 216 + i) _ _ (by omega)]
theorem ws_r12 {D : xD} {N wb b : Nat} {P : Nat → Int32} {v : Int32} (hb : b < 12) : (wcells D N wb P).set (5 + b) (.inr (5, [.int (P (72 + b)), .int (P (84 + b)), .int (P (96 + b)), .int (P (108 + b)), .int (P (120 + b)), .int (P (132 + b)), .int (P (144 + b)), .int (P (156 + b)), .int (P (168 + b)), .int (P (180 + b)), .int (P (192 + b)), .int (P (204 + b)), .int (P (216 + b))].set 12 (.int v))) = wcells D N wb (upd P (216 + b) v) := by
  unfold wcells
  rw [sl_out (o := 0) (by omega), sl_out (o := 36) (by omega), sl_out (o := 228) (by omega)]
  rw [show 5 + b = b + 1 + 1 + 1 + 1 + 1 by omega]
  simp only [List.set_cons_succ, List.set_cons_zero, wObj]
  rw [upd_ne (a := 234) _ _ (by omega), upd_ne (a := 235) _ _ (by omega), upd_ne (a := 236) _ _ (by omega), upd_ne (a := 237) _ _ (by omega), upd_ne (a := 238) _ _ (by omega)]
  have h2 : (Sum.inr (5, [.int (P (72 + b)), .int (P (84 + b)), .int (P (96 + b)), .int (P (108 + b)), .int (P (120 + b)), .int (P (132 + b)), .int (P (144 + b)), .int (P (156 + b)), .int (P (168 + b)), .int (P (180 + b)), .int (P (192 + b)), .int (P (204 + b)), .int v]) : va_E) = rideC (upd P (216 + b) v) b := by
    simp only [rideC]
    rw [upd_ne (a := 72 + b) _ _ (by omega), upd_ne (a := 84 + b) _ _ (by omega), upd_ne (a := 96 + b) _ _ (by omega), upd_ne (a := 108 + b) _ _ (by omega), upd_ne (a := 120 + b) _ _ (by omega), upd_ne (a := 132 + b) _ _ (by omega), upd_ne (a := 144 + b) _ _ (by omega), upd_ne (a := 156 + b) _ _ (by omega), upd_ne (a := 168 + b) _ _ (by omega), upd_ne (a := 180 + b) _ _ (by omega), upd_ne (a := 192 + b) _ _ (by omega), upd_ne (a := 204 + b) _ _ (by omega), upd_eq]
  rw [h2, map_set2 (f := rideC P) (f2 := rideC (upd P (216 + b) v))]
  intro i hi hi2
  simp only [rideC]
  rw [upd_ne (a := 72 + i) _ _ (by omega), upd_ne (a := 84 + i) _ _ (by omega), upd_ne (a := 96 + i) _ _ (by omega), upd_ne (a := 108 + i) _ _ (by omega), upd_ne (a := 120 + i) _ _ (by omega), upd_ne (a := 132 + i) _ _ (by omega), upd_ne (a := 144 + i) _ _ (by omega), upd_ne (a := 156 + i) _ _ (by omega), upd_ne (a := 168 + i) _ _ (by omega), upd_ne (a := 180 + i) _ _ (by omega), upd_ne (a := 192 + i) _ _ (by omega), upd_ne (a := 204 + i) _ _ (by omega), upd_ne (a := 216 + i) _ _ (by omega)]
