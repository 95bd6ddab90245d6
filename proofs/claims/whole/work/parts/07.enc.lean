abbrev T2 : Type := Nat → Nat → Int32
def tput (c : T2) (k : Nat) (f : Nat → Int32) : T2 := fun a => if a = k then f else c a
theorem tput_eq (c : T2) (k : Nat) (f : Nat → Int32) : tput c k f k = f := by simp [tput]
theorem tput_ne (c : T2) {k a : Nat} (f : Nat → Int32) (h : a ≠ k) : tput c k f a = c a := by simp [tput, h]
theorem upd_eq (f : Nat → Int32) (k : Nat) (x : Int32) : upd f k x k = x := by simp [upd]
theorem upd_ne (f : Nat → Int32) {k a : Nat} (x : Int32) (h : a ≠ k) : upd f k x a = f a := by simp [upd, h]
def sl (P : Nat → Int32) (o n : Nat) : Nat → Int32 := fun i => if i < n then P (o + i) else 0
theorem sl_at {P : Nat → Int32} {o n i : Nat} (h : i < n) : sl P o n i = P (o + i) := by simp [sl, h]
theorem sl_in {P : Nat → Int32} {o n j : Nat} {v : Int32} (h : j < n) : upd (sl P o n) j v = sl (upd P (o + j) v) o n := by
  funext i
  by_cases e : i = j
  · subst e; simp [upd, sl, h]
  · by_cases e2 : i < n
    · simp [upd, sl, e, e2]
    · simp [upd, sl, e, e2]
theorem sl_out {P : Nat → Int32} {o n k : Nat} {v : Int32} (h : k < o ∨ o + n ≤ k) : sl (upd P k v) o n = sl P o n := by
  funext i
  by_cases e2 : i < n
  · have : ¬ o + i = k := by omega
    simp [upd, sl, e2, this]
  · simp [sl, e2]
abbrev iA (D : xD) (n : Nat) (f : Nat → Int32) : va_E := .inl (D.2.1 0, n, .inl f)
abbrev bA (D : xD) (n : Nat) (f : Nat → Int32) : va_E := .inl (D.2.1 1, n, .inl f)
abbrev lA (D : xD) (n : Nat) (f : Nat → Int64) : va_E := .inl (D.2.1 2, n, .inr (.inl f))
abbrev zA (D : xD) (n : Nat) (f : Nat → Int32) : va_E := .inl (D.2.1 3, n, .inl f)
abbrev oA (D : xD) (t n : Nat) (f : Nat → Option Nat) : va_E := .inl (D.2.1 t, n, .inr (.inr (.inr (.inr f))))
/-- n addresses from a on -/
def rows (N a n : Nat) : Nat → Option Nat := fun i => if i < n then some (N + (a + i)) else none
theorem rows_at {N a n i : Nat} (h : i < n) : rows N a n i = some (N + (a + i)) := by simp [rows, h]
def rowsW (N wb : Nat) : Nat → Option Nat := fun i => if i < 12 then some (N + (wb + (5 + i))) else none
theorem rowsW_at {N wb i : Nat} (h : i < 12) : rowsW N wb i = some (N + (wb + (5 + i))) := by simp [rowsW, h]
abbrev wA (w : Nat) : Nat := 21 + 17 * w
abbrev rideC (P : Nat → Int32) (b : Nat) : va_E := .inr (5, [.int (P (72 + b)), .int (P (84 + b)), .int (P (96 + b)), .int (P (108 + b)), .int (P (120 + b)), .int (P (132 + b)), .int (P (144 + b)), .int (P (156 + b)), .int (P (168 + b)), .int (P (180 + b)), .int (P (192 + b)), .int (P (204 + b)), .int (P (216 + b))])
abbrev wObj (N wb : Nat) (P : Nat → Int32) : va_E := .inr (10, [.int (P 234), .int (P 235), .int (P 236), .int (P 237), .int (P 238), .ref (N + (wb + 1)), .ref (N + (wb + 2)), .ref (N + (wb + 3)), .ref (N + (wb + 4))])
def wcells (D : xD) (N wb : Nat) (P : Nat → Int32) : List va_E := wObj N wb P :: iA D 36 (sl P 0 36) :: iA D 36 (sl P 36 36) :: iA D 6 (sl P 228 6) :: oA D 4 12 (rowsW N wb) :: (List.range 12).map (rideC P)
/-- the row of a book: what is told of it, as far as it is one -/
def bookC (c : T2) (k : Nat) : Nat → Int32 := fun i => if i = 0 then c 15 k else if i = 1 then c 16 k else if i = 2 then c 17 k else if i = 3 then c 18 k else if i = 4 then c 19 k else if i = 5 then (if k < (c 32 7).toNatClampNeg then c 20 k else 0) else 0
def encA (D : xD) (N : Nat) (c x : T2) (ln : Nat → Option Nat) : List va_E := [.inr (11, [.ref (N + 1), .ref (N + 21), .ref (N + 38), .ref (N + 55), .int (c 32 0), .ref (N + 72), .int (c 32 2), .ref (N + 75), .int (c 32 3), .int (c 32 4), .int (c 32 5), .int (c 32 6), .ref (N + 82), .ref (N + 86), .int (c 32 7), .ref (N + 117), .ref (N + 122), .ref (N + 123)]),
  .inr (9, [.ref (N + 2), .ref (N + 3), .ref (N + 4), .ref (N + 5), .ref (N + 6), .ref (N + 7), .ref (N + 8), .ref (N + 9), .int (c 32 1), .ref (N + 10), .int (c 32 9), .ref (N + 11), .ref (N + 12), .ref (N + 13), .ref (N + 14)]),
  iA D 36 (c 2),
  iA D 36 (c 3),
  iA D 24 (c 4),
  iA D 12 (c 5),
  iA D 12 (c 6),
  iA D 12 (c 7),
  iA D 12 (c 8),
  iA D 12 (c 9),
  oA D 5 48 ln,
  iA D 6 (c 10),
  oA D 6 6 (rows N 15 6),
  iA D 8 (x 1),
  iA D 6 (x 2),
  .inr (6, []),
  .inr (7, []),
  .inr (1, []),
  .inr (0, []),
  .inr (2, []),
  .inr (3, [])]
def encB (D : xD) (N : Nat) (c x : T2) (df : Nat → Option Nat) : List va_E := [.inr (8, [.ref (N + 73), .int (c 32 8), .int (x 3 0), .ref (N + 74), .int (x 3 1)]),
  bA D 160 (fun i => (c 21 i).toInt8.toInt32),
  oA D 5 8 df,
  oA D 7 6 (rows N 76 6),
  iA D 4 (sl (c 11) 0 4),
  iA D 4 (sl (c 11) 4 4),
  iA D 4 (sl (c 11) 8 4),
  iA D 4 (sl (c 11) 12 4),
  iA D 4 (sl (c 11) 16 4),
  iA D 4 (sl (c 11) 20 4),
  oA D 7 3 (rows N 83 3),
  iA D 6 (c 12),
  iA D 6 (c 13),
  iA D 6 (c 14),
  oA D 7 30 (rows N 87 30)] ++ ((List.range 30).map (fun k => iA D 6 (bookC c k)) ++ [oA D 7 4 (rows N 118 4),
  iA D 40 (sl (c 31) 0 40),
  iA D 40 (sl (c 31) 40 40),
  iA D 40 (sl (c 31) 80 40),
  iA D 40 (sl (c 31) 120 40),
  iA D 4 (c 30),
  iA D 4 (c 29)])
def encC (D : xD) (N : Nat) (c x V : T2) (ln df : Nat → Option Nat) : List va_E := encA D N c x ln ++ (wcells D N 21 (V 0) ++ (wcells D N 38 (V 1) ++ (wcells D N 55 (V 2) ++ encB D N c x df)))
def wordsF : Nat → Int64 := (vp_updL (vp_updL (vp_updL (vp_updL (vp_updL (vp_updL (vp_updL (vp_updL (vp_updL (vp_updL (vp_updL (fun _ => 0) 0 26479) 1 1717662309) 2 1801807216) 3 131260264768868) 4 1936682084) 5 1918986606) 6 1752135026) 7 487300887909) 8 495873779557) 9 478745093490) 10 111469206070628)
def sizesF : Nat → Int32 := (upd (upd (upd (upd (upd (upd (upd (upd (upd (upd (upd (fun _ => 0) 0 (nI 2)) 1 (nI 4)) 2 (nI 4)) 3 (nI 6)) 4 (nI 4)) 5 (nI 4)) 6 (nI 4)) 7 (nI 5)) 8 (nI 5)) 9 (nI 5)) 10 (nI 6))
def encR (D : xD) (N : Nat) (c z : T2) (P Q : Nat → Int32) : List va_E := [.inr (12, [.ref (N + 1), .ref (N + 2), .ref (N + 3), .int (c 32 0), .ref (N + 4), .ref (N + 5), .ref (N + 6), .int (c 32 1), .ref (N + 7), .ref (N + 8), .ref (N + 9), .ref (N + 10), .ref (N + 11), .ref (N + 12), .int (c 32 2), .ref (N + 13), .int (c 32 3), .int (c 32 4), .int (c 32 5), .int (c 32 6), .ref (N + 14), .ref (N + 15), .ref (N + 16), .int (c 32 7), .ref (N + 17), .ref (N + 18), .ref (N + 19), .ref (N + 20), .ref (N + 21), .ref (N + 22), .ref (N + 23), .int (c 32 8), .int (c 32 9), .ref (N + 24), .ref (N + 25), .ref (N + 26), .ref (N + 27), .ref (N + 28), .ref (N + 29), .ref (N + 30), .ref (N + 31), .ref (N + 32), .ref (N + 33), .ref (N + 34), .ref (N + 35), .int (z 5 0), .ref (N + 36), .ref (N + 37), .ref (N + 38), .ref (N + 39)]),
  iA D 239 P,
  iA D 239 (z 0),
  iA D 239 Q,
  iA D 36 (c 2),
  iA D 36 (c 3),
  iA D 24 (c 4),
  iA D 12 (c 5),
  iA D 12 (c 6),
  iA D 12 (c 7),
  iA D 12 (c 8),
  iA D 12 (c 9),
  iA D 6 (c 10),
  iA D 24 (c 11),
  iA D 6 (c 12),
  iA D 6 (c 13),
  zA D 6 (c 14),
  iA D 30 (c 15),
  iA D 30 (c 16),
  iA D 30 (c 17),
  iA D 30 (c 18),
  iA D 30 (c 19),
  iA D 30 (c 20),
  iA D 160 (c 21),
  iA D 6 (c 22),
  iA D 48 (c 23),
  iA D 48 (c 24),
  iA D 48 (c 25),
  iA D 144 (c 26),
  iA D 144 (c 27),
  iA D 144 (c 28),
  iA D 4 (c 29),
  iA D 4 (c 30),
  iA D 160 (c 31),
  lA D 11 wordsF,
  iA D 11 sizesF,
  iA D 6 (z 1),
  iA D 6 (z 2),
  iA D 6 (z 3),
  iA D 4 (z 4)]
theorem fr_4 {D : xD} {N : Nat} {c z : T2} {P Q f : Nat → Int32} {rest : List va_E} : (encR D N c z P Q ++ rest).set 4 (iA D 36 f) = encR D N (tput c 2 f) z P Q ++ rest := rfl
theorem fr_5 {D : xD} {N : Nat} {c z : T2} {P Q f : Nat → Int32} {rest : List va_E} : (encR D N c z P Q ++ rest).set 5 (iA D 36 f) = encR D N (tput c 3 f) z P Q ++ rest := rfl
theorem fr_6 {D : xD} {N : Nat} {c z : T2} {P Q f : Nat → Int32} {rest : List va_E} : (encR D N c z P Q ++ rest).set 6 (iA D 24 f) = encR D N (tput c 4 f) z P Q ++ rest := rfl
theorem fr_7 {D : xD} {N : Nat} {c z : T2} {P Q f : Nat → Int32} {rest : List va_E} : (encR D N c z P Q ++ rest).set 7 (iA D 12 f) = encR D N (tput c 5 f) z P Q ++ rest := rfl
theorem fr_8 {D : xD} {N : Nat} {c z : T2} {P Q f : Nat → Int32} {rest : List va_E} : (encR D N c z P Q ++ rest).set 8 (iA D 12 f) = encR D N (tput c 6 f) z P Q ++ rest := rfl
theorem fr_9 {D : xD} {N : Nat} {c z : T2} {P Q f : Nat → Int32} {rest : List va_E} : (encR D N c z P Q ++ rest).set 9 (iA D 12 f) = encR D N (tput c 7 f) z P Q ++ rest := rfl
theorem fr_10 {D : xD} {N : Nat} {c z : T2} {P Q f : Nat → Int32} {rest : List va_E} : (encR D N c z P Q ++ rest).set 10 (iA D 12 f) = encR D N (tput c 8 f) z P Q ++ rest := rfl
theorem fr_11 {D : xD} {N : Nat} {c z : T2} {P Q f : Nat → Int32} {rest : List va_E} : (encR D N c z P Q ++ rest).set 11 (iA D 12 f) = encR D N (tput c 9 f) z P Q ++ rest := rfl
theorem fr_12 {D : xD} {N : Nat} {c z : T2} {P Q f : Nat → Int32} {rest : List va_E} : (encR D N c z P Q ++ rest).set 12 (iA D 6 f) = encR D N (tput c 10 f) z P Q ++ rest := rfl
theorem fr_13 {D : xD} {N : Nat} {c z : T2} {P Q f : Nat → Int32} {rest : List va_E} : (encR D N c z P Q ++ rest).set 13 (iA D 24 f) = encR D N (tput c 11 f) z P Q ++ rest := rfl
theorem fr_14 {D : xD} {N : Nat} {c z : T2} {P Q f : Nat → Int32} {rest : List va_E} : (encR D N c z P Q ++ rest).set 14 (iA D 6 f) = encR D N (tput c 12 f) z P Q ++ rest := rfl
theorem fr_15 {D : xD} {N : Nat} {c z : T2} {P Q f : Nat → Int32} {rest : List va_E} : (encR D N c z P Q ++ rest).set 15 (iA D 6 f) = encR D N (tput c 13 f) z P Q ++ rest := rfl
theorem fr_17 {D : xD} {N : Nat} {c z : T2} {P Q f : Nat → Int32} {rest : List va_E} : (encR D N c z P Q ++ rest).set 17 (iA D 30 f) = encR D N (tput c 15 f) z P Q ++ rest := rfl
theorem fr_18 {D : xD} {N : Nat} {c z : T2} {P Q f : Nat → Int32} {rest : List va_E} : (encR D N c z P Q ++ rest).set 18 (iA D 30 f) = encR D N (tput c 16 f) z P Q ++ rest := rfl
theorem fr_19 {D : xD} {N : Nat} {c z : T2} {P Q f : Nat → Int32} {rest : List va_E} : (encR D N c z P Q ++ rest).set 19 (iA D 30 f) = encR D N (tput c 17 f) z P Q ++ rest := rfl
theorem fr_20 {D : xD} {N : Nat} {c z : T2} {P Q f : Nat → Int32} {rest : List va_E} : (encR D N c z P Q ++ rest).set 20 (iA D 30 f) = encR D N (tput c 18 f) z P Q ++ rest := rfl
theorem fr_21 {D : xD} {N : Nat} {c z : T2} {P Q f : Nat → Int32} {rest : List va_E} : (encR D N c z P Q ++ rest).set 21 (iA D 30 f) = encR D N (tput c 19 f) z P Q ++ rest := rfl
theorem fr_22 {D : xD} {N : Nat} {c z : T2} {P Q f : Nat → Int32} {rest : List va_E} : (encR D N c z P Q ++ rest).set 22 (iA D 30 f) = encR D N (tput c 20 f) z P Q ++ rest := rfl
theorem fr_23 {D : xD} {N : Nat} {c z : T2} {P Q f : Nat → Int32} {rest : List va_E} : (encR D N c z P Q ++ rest).set 23 (iA D 160 f) = encR D N (tput c 21 f) z P Q ++ rest := rfl
theorem fr_24 {D : xD} {N : Nat} {c z : T2} {P Q f : Nat → Int32} {rest : List va_E} : (encR D N c z P Q ++ rest).set 24 (iA D 6 f) = encR D N (tput c 22 f) z P Q ++ rest := rfl
theorem fr_25 {D : xD} {N : Nat} {c z : T2} {P Q f : Nat → Int32} {rest : List va_E} : (encR D N c z P Q ++ rest).set 25 (iA D 48 f) = encR D N (tput c 23 f) z P Q ++ rest := rfl
theorem fr_26 {D : xD} {N : Nat} {c z : T2} {P Q f : Nat → Int32} {rest : List va_E} : (encR D N c z P Q ++ rest).set 26 (iA D 48 f) = encR D N (tput c 24 f) z P Q ++ rest := rfl
theorem fr_27 {D : xD} {N : Nat} {c z : T2} {P Q f : Nat → Int32} {rest : List va_E} : (encR D N c z P Q ++ rest).set 27 (iA D 48 f) = encR D N (tput c 25 f) z P Q ++ rest := rfl
theorem fr_28 {D : xD} {N : Nat} {c z : T2} {P Q f : Nat → Int32} {rest : List va_E} : (encR D N c z P Q ++ rest).set 28 (iA D 144 f) = encR D N (tput c 26 f) z P Q ++ rest := rfl
theorem fr_29 {D : xD} {N : Nat} {c z : T2} {P Q f : Nat → Int32} {rest : List va_E} : (encR D N c z P Q ++ rest).set 29 (iA D 144 f) = encR D N (tput c 27 f) z P Q ++ rest := rfl
theorem fr_30 {D : xD} {N : Nat} {c z : T2} {P Q f : Nat → Int32} {rest : List va_E} : (encR D N c z P Q ++ rest).set 30 (iA D 144 f) = encR D N (tput c 28 f) z P Q ++ rest := rfl
theorem fr_31 {D : xD} {N : Nat} {c z : T2} {P Q f : Nat → Int32} {rest : List va_E} : (encR D N c z P Q ++ rest).set 31 (iA D 4 f) = encR D N (tput c 29 f) z P Q ++ rest := rfl
theorem fr_32 {D : xD} {N : Nat} {c z : T2} {P Q f : Nat → Int32} {rest : List va_E} : (encR D N c z P Q ++ rest).set 32 (iA D 4 f) = encR D N (tput c 30 f) z P Q ++ rest := rfl
theorem fr_33 {D : xD} {N : Nat} {c z : T2} {P Q f : Nat → Int32} {rest : List va_E} : (encR D N c z P Q ++ rest).set 33 (iA D 160 f) = encR D N (tput c 31 f) z P Q ++ rest := rfl
theorem fr_16 {D : xD} {N : Nat} {c z : T2} {P Q f : Nat → Int32} {rest : List va_E} : (encR D N c z P Q ++ rest).set 16 (zA D 6 f) = encR D N (tput c 14 f) z P Q ++ rest := rfl
theorem fr_P {D : xD} {N : Nat} {c z : T2} {P Q f : Nat → Int32} {rest : List va_E} : (encR D N c z P Q ++ rest).set 1 (iA D 239 f) = encR D N c z f Q ++ rest := rfl
theorem fr_Q {D : xD} {N : Nat} {c z : T2} {P Q f : Nat → Int32} {rest : List va_E} : (encR D N c z P Q ++ rest).set 3 (iA D 239 f) = encR D N c z P f ++ rest := rfl
theorem fr_z0 {D : xD} {N : Nat} {c z : T2} {P Q f : Nat → Int32} {rest : List va_E} : (encR D N c z P Q ++ rest).set 2 (iA D 239 f) = encR D N c (tput z 0 f) P Q ++ rest := rfl
theorem fr_z1 {D : xD} {N : Nat} {c z : T2} {P Q f : Nat → Int32} {rest : List va_E} : (encR D N c z P Q ++ rest).set 36 (iA D 6 f) = encR D N c (tput z 1 f) P Q ++ rest := rfl
theorem fr_z2 {D : xD} {N : Nat} {c z : T2} {P Q f : Nat → Int32} {rest : List va_E} : (encR D N c z P Q ++ rest).set 37 (iA D 6 f) = encR D N c (tput z 2 f) P Q ++ rest := rfl
theorem fr_z3 {D : xD} {N : Nat} {c z : T2} {P Q f : Nat → Int32} {rest : List va_E} : (encR D N c z P Q ++ rest).set 38 (iA D 6 f) = encR D N c (tput z 3 f) P Q ++ rest := rfl
theorem fr_z4 {D : xD} {N : Nat} {c z : T2} {P Q f : Nat → Int32} {rest : List va_E} : (encR D N c z P Q ++ rest).set 39 (iA D 4 f) = encR D N c (tput z 4 f) P Q ++ rest := rfl
theorem fr_s0 {D : xD} {N : Nat} {c z : T2} {P Q : Nat → Int32} {v : Int32} {rest : List va_E} : (encR D N c z P Q ++ rest).set 0 (.inr (12, [.ref (N + 1), .ref (N + 2), .ref (N + 3), .int (c 32 0), .ref (N + 4), .ref (N + 5), .ref (N + 6), .int (c 32 1), .ref (N + 7), .ref (N + 8), .ref (N + 9), .ref (N + 10), .ref (N + 11), .ref (N + 12), .int (c 32 2), .ref (N + 13), .int (c 32 3), .int (c 32 4), .int (c 32 5), .int (c 32 6), .ref (N + 14), .ref (N + 15), .ref (N + 16), .int (c 32 7), .ref (N + 17), .ref (N + 18), .ref (N + 19), .ref (N + 20), .ref (N + 21), .ref (N + 22), .ref (N + 23), .int (c 32 8), .int (c 32 9), .ref (N + 24), .ref (N + 25), .ref (N + 26), .ref (N + 27), .ref (N + 28), .ref (N + 29), .ref (N + 30), .ref (N + 31), .ref (N + 32), .ref (N + 33), .ref (N + 34), .ref (N + 35), .int (z 5 0), .ref (N + 36), .ref (N + 37), .ref (N + 38), .ref (N + 39)].set 3 (.int v))) = encR D N (tput c 32 (upd (c 32) 0 v)) z P Q ++ rest := rfl
theorem fr_s1 {D : xD} {N : Nat} {c z : T2} {P Q : Nat → Int32} {v : Int32} {rest : List va_E} : (encR D N c z P Q ++ rest).set 0 (.inr (12, [.ref (N + 1), .ref (N + 2), .ref (N + 3), .int (c 32 0), .ref (N + 4), .ref (N + 5), .ref (N + 6), .int (c 32 1), .ref (N + 7), .ref (N + 8), .ref (N + 9), .ref (N + 10), .ref (N + 11), .ref (N + 12), .int (c 32 2), .ref (N + 13), .int (c 32 3), .int (c 32 4), .int (c 32 5), .int (c 32 6), .ref (N + 14), .ref (N + 15), .ref (N + 16), .int (c 32 7), .ref (N + 17), .ref (N + 18), .ref (N + 19), .ref (N + 20), .ref (N + 21), .ref (N + 22), .ref (N + 23), .int (c 32 8), .int (c 32 9), .ref (N + 24), .ref (N + 25), .ref (N + 26), .ref (N + 27), .ref (N + 28), .ref (N + 29), .ref (N + 30), .ref (N + 31), .ref (N + 32), .ref (N + 33), .ref (N + 34), .ref (N + 35), .int (z 5 0), .ref (N + 36), .ref (N + 37), .ref (N + 38), .ref (N + 39)].set 7 (.int v))) = encR D N (tput c 32 (upd (c 32) 1 v)) z P Q ++ rest := rfl
theorem fr_s2 {D : xD} {N : Nat} {c z : T2} {P Q : Nat → Int32} {v : Int32} {rest : List va_E} : (encR D N c z P Q ++ rest).set 0 (.inr (12, [.ref (N + 1), .ref (N + 2), .ref (N + 3), .int (c 32 0), .ref (N + 4), .ref (N + 5), .ref (N + 6), .int (c 32 1), .ref (N + 7), .ref (N + 8), .ref (N + 9), .ref (N + 10), .ref (N + 11), .ref (N + 12), .int (c 32 2), .ref (N + 13), .int (c 32 3), .int (c 32 4), .int (c 32 5), .int (c 32 6), .ref (N + 14), .ref (N + 15), .ref (N + 16), .int (c 32 7), .ref (N + 17), .ref (N + 18), .ref (N + 19), .ref (N + 20), .ref (N + 21), .ref (N + 22), .ref (N + 23), .int (c 32 8), .int (c 32 9), .ref (N + 24), .ref (N + 25), .ref (N + 26), .ref (N + 27), .ref (N + 28), .ref (N + 29), .ref (N + 30), .ref (N + 31), .ref (N + 32), .ref (N + 33), .ref (N + 34), .ref (N + 35), .int (z 5 0), .ref (N + 36), .ref (N + 37), .ref (N + 38), .ref (N + 39)].set 14 (.int v))) = encR D N (tput c 32 (upd (c 32) 2 v)) z P Q ++ rest := rfl
theorem fr_s3 {D : xD} {N : Nat} {c z : T2} {P Q : Nat → Int32} {v : Int32} {rest : List va_E} : (encR D N c z P Q ++ rest).set 0 (.inr (12, [.ref (N + 1), .ref (N + 2), .ref (N + 3), .int (c 32 0), .ref (N + 4), .ref (N + 5), .ref (N + 6), .int (c 32 1), .ref (N + 7), .ref (N + 8), .ref (N + 9), .ref (N + 10), .ref (N + 11), .ref (N + 12), .int (c 32 2), .ref (N + 13), .int (c 32 3), .int (c 32 4), .int (c 32 5), .int (c 32 6), .ref (N + 14), .ref (N + 15), .ref (N + 16), .int (c 32 7), .ref (N + 17), .ref (N + 18), .ref (N + 19), .ref (N + 20), .ref (N + 21), .ref (N + 22), .ref (N + 23), .int (c 32 8), .int (c 32 9), .ref (N + 24), .ref (N + 25), .ref (N + 26), .ref (N + 27), .ref (N + 28), .ref (N + 29), .ref (N + 30), .ref (N + 31), .ref (N + 32), .ref (N + 33), .ref (N + 34), .ref (N + 35), .int (z 5 0), .ref (N + 36), .ref (N + 37), .ref (N + 38), .ref (N + 39)].set 16 (.int v))) = encR D N (tput c 32 (upd (c 32) 3 v)) z P Q ++ rest := rfl
theorem fr_s4 {D : xD} {N : Nat} {c z : T2} {P Q : Nat → Int32} {v : Int32} {rest : List va_E} : (encR D N c z P Q ++ rest).set 0 (.inr (12, [.ref (N + 1), .ref (N + 2), .ref (N + 3), .int (c 32 0), .ref (N + 4), .ref (N + 5), .ref (N + 6), .int (c 32 1), .ref (N + 7), .ref (N + 8), .ref (N + 9), .ref (N + 10), .ref (N + 11), .ref (N + 12), .int (c 32 2), .ref (N + 13), .int (c 32 3), .int (c 32 4), .int (c 32 5), .int (c 32 6), .ref (N + 14), .ref (N + 15), .ref (N + 16), .int (c 32 7), .ref (N + 17), .ref (N + 18), .ref (N + 19), .ref (N + 20), .ref (N + 21), .ref (N + 22), .ref (N + 23), .int (c 32 8), .int (c 32 9), .ref (N + 24), .ref (N + 25), .ref (N + 26), .ref (N + 27), .ref (N + 28), .ref (N + 29), .ref (N + 30), .ref (N + 31), .ref (N + 32), .ref (N + 33), .ref (N + 34), .ref (N + 35), .int (z 5 0), .ref (N + 36), .ref (N + 37), .ref (N + 38), .ref (N + 39)].set 17 (.int v))) = encR D N (tput c 32 (upd (c 32) 4 v)) z P Q ++ rest := rfl
theorem fr_s5 {D : xD} {N : Nat} {c z : T2} {P Q : Nat → Int32} {v : Int32} {rest : List va_E} : (encR D N c z P Q ++ rest).set 0 (.inr (12, [.ref (N + 1), .ref (N + 2), .ref (N + 3), .int (c 32 0), .ref (N + 4), .ref (N + 5), .ref (N + 6), .int (c 32 1), .ref (N + 7), .ref (N + 8), .ref (N + 9), .ref (N + 10), .ref (N + 11), .ref (N + 12), .int (c 32 2), .ref (N + 13), .int (c 32 3), .int (c 32 4), .int (c 32 5), .int (c 32 6), .ref (N + 14), .ref (N + 15), .ref (N + 16), .int (c 32 7), .ref (N + 17), .ref (N + 18), .ref (N + 19), .ref (N + 20), .ref (N + 21), .ref (N + 22), .ref (N + 23), .int (c 32 8), .int (c 32 9), .ref (N + 24), .ref (N + 25), .ref (N + 26), .ref (N + 27), .ref (N + 28), .ref (N + 29), .ref (N + 30), .ref (N + 31), .ref (N + 32), .ref (N + 33), .ref (N + 34), .ref (N + 35), .int (z 5 0), .ref (N + 36), .ref (N + 37), .ref (N + 38), .ref (N + 39)].set 18 (.int v))) = encR D N (tput c 32 (upd (c 32) 5 v)) z P Q ++ rest := rfl
theorem fr_s6 {D : xD} {N : Nat} {c z : T2} {P Q : Nat → Int32} {v : Int32} {rest : List va_E} : (encR D N c z P Q ++ rest).set 0 (.inr (12, [.ref (N + 1), .ref (N + 2), .ref (N + 3), .int (c 32 0), .ref (N + 4), .ref (N + 5), .ref (N + 6), .int (c 32 1), .ref (N + 7), .ref (N + 8), .ref (N + 9), .ref (N + 10), .ref (N + 11), .ref (N + 12), .int (c 32 2), .ref (N + 13), .int (c 32 3), .int (c 32 4), .int (c 32 5), .int (c 32 6), .ref (N + 14), .ref (N + 15), .ref (N + 16), .int (c 32 7), .ref (N + 17), .ref (N + 18), .ref (N + 19), .ref (N + 20), .ref (N + 21), .ref (N + 22), .ref (N + 23), .int (c 32 8), .int (c 32 9), .ref (N + 24), .ref (N + 25), .ref (N + 26), .ref (N + 27), .ref (N + 28), .ref (N + 29), .ref (N + 30), .ref (N + 31), .ref (N + 32), .ref (N + 33), .ref (N + 34), .ref (N + 35), .int (z 5 0), .ref (N + 36), .ref (N + 37), .ref (N + 38), .ref (N + 39)].set 19 (.int v))) = encR D N (tput c 32 (upd (c 32) 6 v)) z P Q ++ rest := rfl
theorem fr_s7 {D : xD} {N : Nat} {c z : T2} {P Q : Nat → Int32} {v : Int32} {rest : List va_E} : (encR D N c z P Q ++ rest).set 0 (.inr (12, [.ref (N + 1), .ref (N + 2), .ref (N + 3), .int (c 32 0), .ref (N + 4), .ref (N + 5), .ref (N + 6), .int (c 32 1), .ref (N + 7), .ref (N + 8), .ref (N + 9), .ref (N + 10), .ref (N + 11), .ref (N + 12), .int (c 32 2), .ref (N + 13), .int (c 32 3), .int (c 32 4), .int (c 32 5), .int (c 32 6), .ref (N + 14), .ref (N + 15), .ref (N + 16), .int (c 32 7), .ref (N + 17), .ref (N + 18), .ref (N + 19), .ref (N + 20), .ref (N + 21), .ref (N + 22), .ref (N + 23), .int (c 32 8), .int (c 32 9), .ref (N + 24), .ref (N + 25), .ref (N + 26), .ref (N + 27), .ref (N + 28), .ref (N + 29), .ref (N + 30), .ref (N + 31), .ref (N + 32), .ref (N + 33), .ref (N + 34), .ref (N + 35), .int (z 5 0), .ref (N + 36), .ref (N + 37), .ref (N + 38), .ref (N + 39)].set 23 (.int v))) = encR D N (tput c 32 (upd (c 32) 7 v)) z P Q ++ rest := rfl
theorem fr_s8 {D : xD} {N : Nat} {c z : T2} {P Q : Nat → Int32} {v : Int32} {rest : List va_E} : (encR D N c z P Q ++ rest).set 0 (.inr (12, [.ref (N + 1), .ref (N + 2), .ref (N + 3), .int (c 32 0), .ref (N + 4), .ref (N + 5), .ref (N + 6), .int (c 32 1), .ref (N + 7), .ref (N + 8), .ref (N + 9), .ref (N + 10), .ref (N + 11), .ref (N + 12), .int (c 32 2), .ref (N + 13), .int (c 32 3), .int (c 32 4), .int (c 32 5), .int (c 32 6), .ref (N + 14), .ref (N + 15), .ref (N + 16), .int (c 32 7), .ref (N + 17), .ref (N + 18), .ref (N + 19), .ref (N + 20), .ref (N + 21), .ref (N + 22), .ref (N + 23), .int (c 32 8), .int (c 32 9), .ref (N + 24), .ref (N + 25), .ref (N + 26), .ref (N + 27), .ref (N + 28), .ref (N + 29), .ref (N + 30), .ref (N + 31), .ref (N + 32), .ref (N + 33), .ref (N + 34), .ref (N + 35), .int (z 5 0), .ref (N + 36), .ref (N + 37), .ref (N + 38), .ref (N + 39)].set 31 (.int v))) = encR D N (tput c 32 (upd (c 32) 8 v)) z P Q ++ rest := rfl
theorem fr_s9 {D : xD} {N : Nat} {c z : T2} {P Q : Nat → Int32} {v : Int32} {rest : List va_E} : (encR D N c z P Q ++ rest).set 0 (.inr (12, [.ref (N + 1), .ref (N + 2), .ref (N + 3), .int (c 32 0), .ref (N + 4), .ref (N + 5), .ref (N + 6), .int (c 32 1), .ref (N + 7), .ref (N + 8), .ref (N + 9), .ref (N + 10), .ref (N + 11), .ref (N + 12), .int (c 32 2), .ref (N + 13), .int (c 32 3), .int (c 32 4), .int (c 32 5), .int (c 32 6), .ref (N + 14), .ref (N + 15), .ref (N + 16), .int (c 32 7), .ref (N + 17), .ref (N + 18), .ref (N + 19), .ref (N + 20), .ref (N + 21), .ref (N + 22), .ref (N + 23), .int (c 32 8), .int (c 32 9), .ref (N + 24), .ref (N + 25), .ref (N + 26), .ref (N + 27), .ref (N + 28), .ref (N + 29), .ref (N + 30), .ref (N + 31), .ref (N + 32), .ref (N + 33), .ref (N + 34), .ref (N + 35), .int (z 5 0), .ref (N + 36), .ref (N + 37), .ref (N + 38), .ref (N + 39)].set 32 (.int v))) = encR D N (tput c 32 (upd (c 32) 9 v)) z P Q ++ rest := rfl
theorem fr_at {D : xD} {N : Nat} {c z : T2} {P Q : Nat → Int32} {v : Int32} {rest : List va_E} : (encR D N c z P Q ++ rest).set 0 (.inr (12, [.ref (N + 1), .ref (N + 2), .ref (N + 3), .int (c 32 0), .ref (N + 4), .ref (N + 5), .ref (N + 6), .int (c 32 1), .ref (N + 7), .ref (N + 8), .ref (N + 9), .ref (N + 10), .ref (N + 11), .ref (N + 12), .int (c 32 2), .ref (N + 13), .int (c 32 3), .int (c 32 4), .int (c 32 5), .int (c 32 6), .ref (N + 14), .ref (N + 15), .ref (N + 16), .int (c 32 7), .ref (N + 17), .ref (N + 18), .ref (N + 19), .ref (N + 20), .ref (N + 21), .ref (N + 22), .ref (N + 23), .int (c 32 8), .int (c 32 9), .ref (N + 24), .ref (N + 25), .ref (N + 26), .ref (N + 27), .ref (N + 28), .ref (N + 29), .ref (N + 30), .ref (N + 31), .ref (N + 32), .ref (N + 33), .ref (N + 34), .ref (N + 35), .int (z 5 0), .ref (N + 36), .ref (N + 37), .ref (N + 38), .ref (N + 39)].set 45 (.int v))) = encR D N c (tput z 5 (upd (z 5) 0 v)) P Q ++ rest := rfl
