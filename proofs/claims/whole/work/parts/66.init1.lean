def rv (N a i k : Nat) : Value := if i ≤ k then .ref (N + a) else .null
def tFl (N k : Nat) : List Value := [rv N 2 1 k, rv N 3 2 k, rv N 4 3 k, rv N 5 4 k, rv N 6 5 k, rv N 7 6 k, rv N 8 7 k, rv N 9 8 k, .int 0, rv N 10 9 k, .int 0, rv N 11 10 k, rv N 12 11 k, rv N 13 12 k, rv N 14 13 k]
def tAll (D : xD) : List va_E := [iA D 36 (fun _ => 0), iA D 36 (fun _ => 0), iA D 24 (fun _ => 0), iA D 12 (fun _ => 0), iA D 12 (fun _ => 0), iA D 12 (fun _ => 0), iA D 12 (fun _ => 0), iA D 12 (fun _ => 0), oA D 5 48 (fun _ => none), iA D 6 (fun _ => 0), oA D 6 6 (fun _ => none), iA D 8 (fun _ => 0), iA D 6 (fun _ => 0)]
def tS (D : xD) (N : Nat) (e0 : va_E) (k : Nat) : List va_E := e0 :: .inr (9, tFl N k) :: (tAll D).take k
def tP (D : xD) (N : Nat) (e0 : va_E) (k : Nat) (e : va_E) : List va_E := e0 :: .inr (9, tFl N k) :: ((tAll D).take k ++ [e])
def tWn (D : xD) (N : Nat) (e0 : va_E) (jf ff : FN) (kf : Nat → Option Nat) : List va_E := [e0, .inr (9, tFl N 13), iA D 36 (fun _ => 0), iA D 36 (fun _ => 0), iA D 24 jf, iA D 12 (fun _ => 0), iA D 12 (fun _ => 0), iA D 12 (fun _ => 0), iA D 12 (fun _ => 0), iA D 12 (fun _ => 0), oA D 5 48 (fun _ => none), iA D 6 ff, oA D 6 6 kf, iA D 8 (fun _ => 0), iA D 6 (fun _ => 0)]
def tRuns : List va_E := [.inr (6, []), .inr (7, []), .inr (1, []), .inr (0, []), .inr (2, []), .inr (3, [])]
def tK (D : xD) (N : Nat) (e0 : va_E) (k : Nat) : List va_E := tWn D N e0 (cfl 24 (nI 10)) (cfl 6 (-1)) (rows N 15 k) ++ tRuns.take k
def tKn (D : xD) (N : Nat) (e0 : va_E) (k : Nat) : List va_E := tWn D N e0 (cfl 24 (nI 10)) (cfl 6 (-1)) (rows N 15 k) ++ tRuns.take (k + 1)
theorem wp_cast {D : xD} {N : Nat} {l : Launch} {E : EX} {M : MD} {R : Room} {Qf : QF} {k n pc : Nat} {L : List (Nat × Value)} {st : List Value} {v v2 : Value} {g g2 : List va_E} (hv : v = v2) (hg : g = g2) (h : Wp D N l E M R Qf k n pc L (v2 :: st) g2) : Wp D N l E M R Qf k n pc L (v :: st) g := by
  subst hv; subst hg; exact h
theorem wp_castg {D : xD} {N : Nat} {l : Launch} {E : EX} {M : MD} {R : Room} {Qf : QF} {k n pc : Nat} {L : List (Nat × Value)} {st : List Value} {g g2 : List va_E} (hg : g = g2) (h : Wp D N l E M R Qf k n pc L st g2) : Wp D N l E M R Qf k n pc L st g := by
  subst hg; exact h
theorem d_Tn_init_0 : decode M_Tn_init.2.1 0 = .ok (.aload_n 0, 1) := by decide +kernel
theorem d_Tn_init_1 : decode M_Tn_init.2.1 1 = .ok (.invokespecial 3, 3) := by decide +kernel
theorem d_Tn_init_4 : decode M_Tn_init.2.1 4 = .ok (.aload_n 0, 1) := by decide +kernel
theorem d_Tn_init_5 : decode M_Tn_init.2.1 5 = .ok (.bipush 36, 2) := by decide +kernel
theorem d_Tn_init_7 : decode M_Tn_init.2.1 7 = .ok (.newarray .int, 2) := by decide +kernel
theorem d_Tn_init_9 : decode M_Tn_init.2.1 9 = .ok (.putfield 9, 3) := by decide +kernel
theorem d_Tn_init_12 : decode M_Tn_init.2.1 12 = .ok (.aload_n 0, 1) := by decide +kernel
theorem d_Tn_init_13 : decode M_Tn_init.2.1 13 = .ok (.bipush 36, 2) := by decide +kernel
theorem d_Tn_init_15 : decode M_Tn_init.2.1 15 = .ok (.newarray .int, 2) := by decide +kernel
theorem d_Tn_init_17 : decode M_Tn_init.2.1 17 = .ok (.putfield 15, 3) := by decide +kernel
theorem d_Tn_init_20 : decode M_Tn_init.2.1 20 = .ok (.aload_n 0, 1) := by decide +kernel
theorem d_Tn_init_21 : decode M_Tn_init.2.1 21 = .ok (.bipush 24, 2) := by decide +kernel
theorem d_Tn_init_23 : decode M_Tn_init.2.1 23 = .ok (.newarray .int, 2) := by decide +kernel
theorem d_Tn_init_25 : decode M_Tn_init.2.1 25 = .ok (.putfield 18, 3) := by decide +kernel
theorem d_Tn_init_28 : decode M_Tn_init.2.1 28 = .ok (.aload_n 0, 1) := by decide +kernel
theorem d_Tn_init_29 : decode M_Tn_init.2.1 29 = .ok (.bipush 12, 2) := by decide +kernel
theorem d_Tn_init_31 : decode M_Tn_init.2.1 31 = .ok (.newarray .int, 2) := by decide +kernel
theorem d_Tn_init_33 : decode M_Tn_init.2.1 33 = .ok (.putfield 21, 3) := by decide +kernel
theorem d_Tn_init_36 : decode M_Tn_init.2.1 36 = .ok (.aload_n 0, 1) := by decide +kernel
theorem d_Tn_init_37 : decode M_Tn_init.2.1 37 = .ok (.bipush 12, 2) := by decide +kernel
theorem d_Tn_init_39 : decode M_Tn_init.2.1 39 = .ok (.newarray .int, 2) := by decide +kernel
theorem d_Tn_init_41 : decode M_Tn_init.2.1 41 = .ok (.putfield 24, 3) := by decide +kernel
theorem d_Tn_init_44 : decode M_Tn_init.2.1 44 = .ok (.aload_n 0, 1) := by decide +kernel
theorem d_Tn_init_45 : decode M_Tn_init.2.1 45 = .ok (.bipush 12, 2) := by decide +kernel
theorem d_Tn_init_47 : decode M_Tn_init.2.1 47 = .ok (.newarray .int, 2) := by decide +kernel
theorem d_Tn_init_49 : decode M_Tn_init.2.1 49 = .ok (.putfield 27, 3) := by decide +kernel
theorem d_Tn_init_52 : decode M_Tn_init.2.1 52 = .ok (.aload_n 0, 1) := by decide +kernel
theorem d_Tn_init_53 : decode M_Tn_init.2.1 53 = .ok (.bipush 12, 2) := by decide +kernel
theorem d_Tn_init_55 : decode M_Tn_init.2.1 55 = .ok (.newarray .int, 2) := by decide +kernel
theorem d_Tn_init_57 : decode M_Tn_init.2.1 57 = .ok (.putfield 30, 3) := by decide +kernel
theorem d_Tn_init_60 : decode M_Tn_init.2.1 60 = .ok (.aload_n 0, 1) := by decide +kernel
theorem d_Tn_init_61 : decode M_Tn_init.2.1 61 = .ok (.bipush 12, 2) := by decide +kernel
theorem d_Tn_init_63 : decode M_Tn_init.2.1 63 = .ok (.newarray .int, 2) := by decide +kernel
theorem d_Tn_init_65 : decode M_Tn_init.2.1 65 = .ok (.putfield 33, 3) := by decide +kernel
theorem d_Tn_init_68 : decode M_Tn_init.2.1 68 = .ok (.aload_n 0, 1) := by decide +kernel
theorem d_Tn_init_69 : decode M_Tn_init.2.1 69 = .ok (.bipush 48, 2) := by decide +kernel
theorem d_Tn_init_71 : decode M_Tn_init.2.1 71 = .ok (.anewarray 36, 3) := by decide +kernel
theorem d_Tn_init_74 : decode M_Tn_init.2.1 74 = .ok (.putfield 38, 3) := by decide +kernel
theorem d_Tn_init_77 : decode M_Tn_init.2.1 77 = .ok (.aload_n 0, 1) := by decide +kernel
theorem d_Tn_init_78 : decode M_Tn_init.2.1 78 = .ok (.bipush 6, 2) := by decide +kernel
theorem d_Tn_init_80 : decode M_Tn_init.2.1 80 = .ok (.newarray .int, 2) := by decide +kernel
theorem d_Tn_init_82 : decode M_Tn_init.2.1 82 = .ok (.putfield 42, 3) := by decide +kernel
theorem d_Tn_init_85 : decode M_Tn_init.2.1 85 = .ok (.aload_n 0, 1) := by decide +kernel
theorem d_Tn_init_86 : decode M_Tn_init.2.1 86 = .ok (.bipush 6, 2) := by decide +kernel
theorem d_Tn_init_88 : decode M_Tn_init.2.1 88 = .ok (.anewarray 45, 3) := by decide +kernel
theorem d_Tn_init_91 : decode M_Tn_init.2.1 91 = .ok (.putfield 47, 3) := by decide +kernel
theorem d_Tn_init_94 : decode M_Tn_init.2.1 94 = .ok (.aload_n 0, 1) := by decide +kernel
theorem d_Tn_init_95 : decode M_Tn_init.2.1 95 = .ok (.bipush 8, 2) := by decide +kernel
theorem d_Tn_init_97 : decode M_Tn_init.2.1 97 = .ok (.newarray .int, 2) := by decide +kernel
theorem d_Tn_init_99 : decode M_Tn_init.2.1 99 = .ok (.putfield 51, 3) := by decide +kernel
theorem d_Tn_init_102 : decode M_Tn_init.2.1 102 = .ok (.aload_n 0, 1) := by decide +kernel
theorem d_Tn_init_103 : decode M_Tn_init.2.1 103 = .ok (.bipush 6, 2) := by decide +kernel
theorem d_Tn_init_105 : decode M_Tn_init.2.1 105 = .ok (.newarray .int, 2) := by decide +kernel
theorem d_Tn_init_107 : decode M_Tn_init.2.1 107 = .ok (.putfield 54, 3) := by decide +kernel
theorem d_Tn_init_110 : decode M_Tn_init.2.1 110 = .ok (.iconst 0, 1) := by decide +kernel
theorem d_Tn_init_111 : decode M_Tn_init.2.1 111 = .ok (.istore_n 1, 1) := by decide +kernel
theorem d_Tn_init_112 : decode M_Tn_init.2.1 112 = .ok (.iload_n 1, 1) := by decide +kernel
theorem d_Tn_init_113 : decode M_Tn_init.2.1 113 = .ok (.bipush 24, 2) := by decide +kernel
theorem d_Tn_init_115 : decode M_Tn_init.2.1 115 = .ok (.if_icmp .ge 17, 3) := by decide +kernel
theorem d_Tn_init_118 : decode M_Tn_init.2.1 118 = .ok (.aload_n 0, 1) := by decide +kernel
theorem d_Tn_init_119 : decode M_Tn_init.2.1 119 = .ok (.getfield 18, 3) := by decide +kernel
theorem d_Tn_init_122 : decode M_Tn_init.2.1 122 = .ok (.iload_n 1, 1) := by decide +kernel
theorem d_Tn_init_123 : decode M_Tn_init.2.1 123 = .ok (.bipush 10, 2) := by decide +kernel
theorem d_Tn_init_125 : decode M_Tn_init.2.1 125 = .ok (.iastore, 1) := by decide +kernel
theorem d_Tn_init_126 : decode M_Tn_init.2.1 126 = .ok (.iinc 1 1, 3) := by decide +kernel
theorem d_Tn_init_129 : decode M_Tn_init.2.1 129 = .ok (.goto (-17), 3) := by decide +kernel
theorem d_Tn_init_132 : decode M_Tn_init.2.1 132 = .ok (.iconst 0, 1) := by decide +kernel
theorem d_Tn_init_133 : decode M_Tn_init.2.1 133 = .ok (.istore_n 1, 1) := by decide +kernel
theorem d_Tn_init_134 : decode M_Tn_init.2.1 134 = .ok (.iload_n 1, 1) := by decide +kernel
theorem d_Tn_init_135 : decode M_Tn_init.2.1 135 = .ok (.bipush 6, 2) := by decide +kernel
theorem d_Tn_init_137 : decode M_Tn_init.2.1 137 = .ok (.if_icmp .ge 16, 3) := by decide +kernel
theorem d_Tn_init_140 : decode M_Tn_init.2.1 140 = .ok (.aload_n 0, 1) := by decide +kernel
theorem d_Tn_init_141 : decode M_Tn_init.2.1 141 = .ok (.getfield 42, 3) := by decide +kernel
theorem d_Tn_init_144 : decode M_Tn_init.2.1 144 = .ok (.iload_n 1, 1) := by decide +kernel
theorem d_Tn_init_145 : decode M_Tn_init.2.1 145 = .ok (.iconst (-1), 1) := by decide +kernel
theorem d_Tn_init_146 : decode M_Tn_init.2.1 146 = .ok (.iastore, 1) := by decide +kernel
theorem d_Tn_init_147 : decode M_Tn_init.2.1 147 = .ok (.iinc 1 1, 3) := by decide +kernel
theorem d_Tn_init_150 : decode M_Tn_init.2.1 150 = .ok (.goto (-16), 3) := by decide +kernel
theorem d_Tn_init_153 : decode M_Tn_init.2.1 153 = .ok (.aload_n 0, 1) := by decide +kernel
theorem d_Tn_init_154 : decode M_Tn_init.2.1 154 = .ok (.getfield 47, 3) := by decide +kernel
theorem d_Tn_init_157 : decode M_Tn_init.2.1 157 = .ok (.iconst 0, 1) := by decide +kernel
theorem d_Tn_init_158 : decode M_Tn_init.2.1 158 = .ok (.new 45, 3) := by decide +kernel
theorem d_Tn_init_161 : decode M_Tn_init.2.1 161 = .ok (.dup, 1) := by decide +kernel
theorem d_Tn_init_162 : decode M_Tn_init.2.1 162 = .ok (.invokespecial 57, 3) := by decide +kernel
theorem d_Tn_init_165 : decode M_Tn_init.2.1 165 = .ok (.aastore, 1) := by decide +kernel
theorem d_Tn_init_166 : decode M_Tn_init.2.1 166 = .ok (.aload_n 0, 1) := by decide +kernel
theorem d_Tn_init_167 : decode M_Tn_init.2.1 167 = .ok (.getfield 47, 3) := by decide +kernel
theorem d_Tn_init_170 : decode M_Tn_init.2.1 170 = .ok (.iconst 1, 1) := by decide +kernel
theorem d_Tn_init_171 : decode M_Tn_init.2.1 171 = .ok (.new 58, 3) := by decide +kernel
theorem d_Tn_init_174 : decode M_Tn_init.2.1 174 = .ok (.dup, 1) := by decide +kernel
theorem d_Tn_init_175 : decode M_Tn_init.2.1 175 = .ok (.invokespecial 60, 3) := by decide +kernel
theorem d_Tn_init_178 : decode M_Tn_init.2.1 178 = .ok (.aastore, 1) := by decide +kernel
theorem d_Tn_init_179 : decode M_Tn_init.2.1 179 = .ok (.aload_n 0, 1) := by decide +kernel
theorem d_Tn_init_180 : decode M_Tn_init.2.1 180 = .ok (.getfield 47, 3) := by decide +kernel
theorem d_Tn_init_183 : decode M_Tn_init.2.1 183 = .ok (.iconst 2, 1) := by decide +kernel
theorem d_Tn_init_184 : decode M_Tn_init.2.1 184 = .ok (.new 61, 3) := by decide +kernel
theorem d_Tn_init_187 : decode M_Tn_init.2.1 187 = .ok (.dup, 1) := by decide +kernel
theorem d_Tn_init_188 : decode M_Tn_init.2.1 188 = .ok (.invokespecial 63, 3) := by decide +kernel
theorem d_Tn_init_191 : decode M_Tn_init.2.1 191 = .ok (.aastore, 1) := by decide +kernel
theorem d_Tn_init_192 : decode M_Tn_init.2.1 192 = .ok (.aload_n 0, 1) := by decide +kernel
theorem d_Tn_init_193 : decode M_Tn_init.2.1 193 = .ok (.getfield 47, 3) := by decide +kernel
theorem d_Tn_init_196 : decode M_Tn_init.2.1 196 = .ok (.iconst 3, 1) := by decide +kernel
theorem d_Tn_init_197 : decode M_Tn_init.2.1 197 = .ok (.new 64, 3) := by decide +kernel
theorem d_Tn_init_200 : decode M_Tn_init.2.1 200 = .ok (.dup, 1) := by decide +kernel
theorem d_Tn_init_201 : decode M_Tn_init.2.1 201 = .ok (.invokespecial 66, 3) := by decide +kernel
theorem d_Tn_init_204 : decode M_Tn_init.2.1 204 = .ok (.aastore, 1) := by decide +kernel
theorem d_Tn_init_205 : decode M_Tn_init.2.1 205 = .ok (.aload_n 0, 1) := by decide +kernel
theorem d_Tn_init_206 : decode M_Tn_init.2.1 206 = .ok (.getfield 47, 3) := by decide +kernel
theorem d_Tn_init_209 : decode M_Tn_init.2.1 209 = .ok (.iconst 4, 1) := by decide +kernel
theorem d_Tn_init_210 : decode M_Tn_init.2.1 210 = .ok (.new 67, 3) := by decide +kernel
theorem d_Tn_init_213 : decode M_Tn_init.2.1 213 = .ok (.dup, 1) := by decide +kernel
theorem d_Tn_init_214 : decode M_Tn_init.2.1 214 = .ok (.invokespecial 69, 3) := by decide +kernel
theorem d_Tn_init_217 : decode M_Tn_init.2.1 217 = .ok (.aastore, 1) := by decide +kernel
theorem d_Tn_init_218 : decode M_Tn_init.2.1 218 = .ok (.aload_n 0, 1) := by decide +kernel
theorem d_Tn_init_219 : decode M_Tn_init.2.1 219 = .ok (.getfield 47, 3) := by decide +kernel
theorem d_Tn_init_222 : decode M_Tn_init.2.1 222 = .ok (.iconst 5, 1) := by decide +kernel
theorem d_Tn_init_223 : decode M_Tn_init.2.1 223 = .ok (.new 70, 3) := by decide +kernel
theorem d_Tn_init_226 : decode M_Tn_init.2.1 226 = .ok (.dup, 1) := by decide +kernel
theorem d_Tn_init_227 : decode M_Tn_init.2.1 227 = .ok (.invokespecial 72, 3) := by decide +kernel
theorem d_Tn_init_230 : decode M_Tn_init.2.1 230 = .ok (.aastore, 1) := by decide +kernel
theorem d_Tn_init_231 : decode M_Tn_init.2.1 231 = .ok (.return_, 1) := by decide +kernel
set_option maxHeartbeats 4000000 in
set_option maxRecDepth 100000 in
theorem ok_Tn_init {D : xD} {N : Nat} {l : Launch} {d : Nat} {e0 : va_E} {K : Option Value → List va_E → Prop} (hK : K none (tK D N e0 6)) : OkX D N l (d + 4) M_Tn_init [.ref (N + 1)] [e0, .inr (9, [.null, .null, .null, .null, .null, .null, .null, .null, .int 0, .null, .int 0, .null, .null, .null, .null])] 19 230 K := by
  have tail : Wp D N l (EXX D M_Tn_init) M_Tn_init (Rm (d + 4) 19 230) (Qm D N K 19 230) 13 230 153 [(0, .ref (N + 1))] [] (tK D N e0 0) := by
    show Wp D N l (EXX D M_Tn_init) M_Tn_init (Rm (d + 4) 19 230) (Qm D N K 19 230) 13 230 153 [(0, .ref (N + 1))] [] (tK D N e0 0)
    refine wp_aload_n (q := 154) d_Tn_init_153 rfl rfl ?_
    refine wp_get (q := 157) fl_Tn_47 d_Tn_init_154 rfl rfl rfl ?_
    refine wp_iconst (q := 158) d_Tn_init_157 rfl ic_0 ?_
    refine wp_new (q := 161) (ci := 6) (Cn := RX6) (T := TX6) (nf := 0) (fs := []) (ty0 := tyX6) rfl inX6 tyX6_ok (gw 37 (by decide +kernel) (by decide +kernel)) (gw 39 (by decide +kernel) (by decide +kernel)) (gw 3 (by decide +kernel) (by decide +kernel)) d_Tn_init_158 rfl (fun j hj => absurd hj (Nat.not_lt_zero _)) (Nat.le_of_ble_eq_true rfl) (Nat.le_of_ble_eq_true rfl) ?_
    refine wp_cast (v2 := .ref (N + 15)) (g2 := tKn D N e0 0) rfl rfl ?_
    refine wp_dup (q := 162) d_Tn_init_161 rfl rfl ?_
    refine wp_callIN (q := 165) (mc := 0) (ms := 0) [] lk_Tn_57 (ro _ _ _) d_Tn_init_162 rfl rfl rfl (Nat.le_of_ble_eq_true rfl) (Nat.le_of_ble_eq_true rfl) (Nat.le_of_ble_eq_true rfl) ?_
    refine ok_Rn_init ?_
    refine wp_aast 6 (q := 166) (r := (RX6, TX6, 0)) (ci := 6) (vs := []) rfl d_Tn_init_165 rfl rfl rfl rfl (by decide) (by decide) (show (tKn D N e0 0).set 12 (oA D 6 6 (va_up (rows N 15 0) 0 (some (N + 15)))) = tK D N e0 1 from by rw [show va_up (rows N 15 0) 0 (some (N + 15)) = rows N 15 1 from rows_s N 15 0]; rfl) ?_
    refine wp_aload_n (q := 167) d_Tn_init_166 rfl rfl ?_
    refine wp_get (q := 170) fl_Tn_47 d_Tn_init_167 rfl rfl rfl ?_
    refine wp_iconst (q := 171) d_Tn_init_170 rfl ic_1 ?_
    refine wp_new (q := 174) (ci := 7) (Cn := RX7) (T := TX7) (nf := 0) (fs := []) (ty0 := tyX7) rfl inX7 tyX7_ok (gw 46 (by decide +kernel) (by decide +kernel)) (gw 47 (by decide +kernel) (by decide +kernel)) (gw 4 (by decide +kernel) (by decide +kernel)) d_Tn_init_171 rfl (fun j hj => absurd hj (Nat.not_lt_zero _)) (Nat.le_of_ble_eq_true rfl) (Nat.le_of_ble_eq_true rfl) ?_
    refine wp_cast (v2 := .ref (N + 16)) (g2 := tKn D N e0 1) rfl rfl ?_
    refine wp_dup (q := 175) d_Tn_init_174 rfl rfl ?_
    refine wp_callIN (q := 178) (mc := 0) (ms := 0) [] lk_Tn_60 (ro _ _ _) d_Tn_init_175 rfl rfl rfl (Nat.le_of_ble_eq_true rfl) (Nat.le_of_ble_eq_true rfl) (Nat.le_of_ble_eq_true rfl) ?_
    refine ok_Sh_init ?_
    refine wp_aastX (q := 179) (r := (RX7, TX7, 0)) (ci := 7) (vs := []) (fun _ _ _ h => h.2) (by decide) d_Tn_init_178 rfl rfl rfl rfl (by decide) (by decide) (show (tKn D N e0 1).set 12 (oA D 6 6 (va_up (rows N 15 1) 1 (some (N + 16)))) = tK D N e0 2 from by rw [show va_up (rows N 15 1) 1 (some (N + 16)) = rows N 15 2 from rows_s N 15 1]; rfl) ?_
    refine wp_aload_n (q := 180) d_Tn_init_179 rfl rfl ?_
    refine wp_get (q := 183) fl_Tn_47 d_Tn_init_180 rfl rfl rfl ?_
    refine wp_iconst (q := 184) d_Tn_init_183 rfl ic_2 ?_
    refine wp_new (q := 187) (ci := 1) (Cn := RX1) (T := TX1) (nf := 0) (fs := []) (ty0 := tyX1) rfl inX1 tyX1_ok (gw 53 (by decide +kernel) (by decide +kernel)) (gw 54 (by decide +kernel) (by decide +kernel)) (gw 5 (by decide +kernel) (by decide +kernel)) d_Tn_init_184 rfl (fun j hj => absurd hj (Nat.not_lt_zero _)) (Nat.le_of_ble_eq_true rfl) (Nat.le_of_ble_eq_true rfl) ?_
    refine wp_cast (v2 := .ref (N + 17)) (g2 := tKn D N e0 2) rfl rfl ?_
    refine wp_dup (q := 188) d_Tn_init_187 rfl rfl ?_
    refine wp_callIN (q := 191) (mc := 0) (ms := 0) [] lk_Tn_63 (ro _ _ _) d_Tn_init_188 rfl rfl rfl (Nat.le_of_ble_eq_true rfl) (Nat.le_of_ble_eq_true rfl) (Nat.le_of_ble_eq_true rfl) ?_
    refine ok_Em_init ?_
    refine wp_aastX (q := 192) (r := (RX1, TX1, 0)) (ci := 1) (vs := []) (fun _ _ _ h => h.2) (by decide) d_Tn_init_191 rfl rfl rfl rfl (by decide) (by decide) (show (tKn D N e0 2).set 12 (oA D 6 6 (va_up (rows N 15 2) 2 (some (N + 17)))) = tK D N e0 3 from by rw [show va_up (rows N 15 2) 2 (some (N + 17)) = rows N 15 3 from rows_s N 15 2]; rfl) ?_
    refine wp_aload_n (q := 193) d_Tn_init_192 rfl rfl ?_
    refine wp_get (q := 196) fl_Tn_47 d_Tn_init_193 rfl rfl rfl ?_
    refine wp_iconst (q := 197) d_Tn_init_196 rfl ic_3 ?_
    refine wp_new (q := 200) (ci := 0) (Cn := RX0) (T := TX0) (nf := 0) (fs := []) (ty0 := tyX0) rfl inX0 tyX0_ok (gw 60 (by decide +kernel) (by decide +kernel)) (gw 61 (by decide +kernel) (by decide +kernel)) (gw 6 (by decide +kernel) (by decide +kernel)) d_Tn_init_197 rfl (fun j hj => absurd hj (Nat.not_lt_zero _)) (Nat.le_of_ble_eq_true rfl) (Nat.le_of_ble_eq_true rfl) ?_
    refine wp_cast (v2 := .ref (N + 18)) (g2 := tKn D N e0 3) rfl rfl ?_
    refine wp_dup (q := 201) d_Tn_init_200 rfl rfl ?_
    refine wp_callIN (q := 204) (mc := 0) (ms := 0) [] lk_Tn_66 (ro _ _ _) d_Tn_init_201 rfl rfl rfl (Nat.le_of_ble_eq_true rfl) (Nat.le_of_ble_eq_true rfl) (Nat.le_of_ble_eq_true rfl) ?_
    refine ok_Ea_init ?_
    refine wp_aastX (q := 205) (r := (RX0, TX0, 0)) (ci := 0) (vs := []) (fun _ _ _ h => h.2) (by decide) d_Tn_init_204 rfl rfl rfl rfl (by decide) (by decide) (show (tKn D N e0 3).set 12 (oA D 6 6 (va_up (rows N 15 3) 3 (some (N + 18)))) = tK D N e0 4 from by rw [show va_up (rows N 15 3) 3 (some (N + 18)) = rows N 15 4 from rows_s N 15 3]; rfl) ?_
    refine wp_aload_n (q := 206) d_Tn_init_205 rfl rfl ?_
    refine wp_get (q := 209) fl_Tn_47 d_Tn_init_206 rfl rfl rfl ?_
    refine wp_iconst (q := 210) d_Tn_init_209 rfl ic_4 ?_
    refine wp_new (q := 213) (ci := 2) (Cn := RX2) (T := TX2) (nf := 0) (fs := []) (ty0 := tyX2) rfl inX2 tyX2_ok (gw 67 (by decide +kernel) (by decide +kernel)) (gw 68 (by decide +kernel) (by decide +kernel)) (gw 7 (by decide +kernel) (by decide +kernel)) d_Tn_init_210 rfl (fun j hj => absurd hj (Nat.not_lt_zero _)) (Nat.le_of_ble_eq_true rfl) (Nat.le_of_ble_eq_true rfl) ?_
    refine wp_cast (v2 := .ref (N + 19)) (g2 := tKn D N e0 4) rfl rfl ?_
    refine wp_dup (q := 214) d_Tn_init_213 rfl rfl ?_
    refine wp_callIN (q := 217) (mc := 0) (ms := 0) [] lk_Tn_69 (ro _ _ _) d_Tn_init_214 rfl rfl rfl (Nat.le_of_ble_eq_true rfl) (Nat.le_of_ble_eq_true rfl) (Nat.le_of_ble_eq_true rfl) ?_
    refine ok_Ex_init ?_
    refine wp_aastX (q := 218) (r := (RX2, TX2, 0)) (ci := 2) (vs := []) (fun _ _ _ h => h.2) (by decide) d_Tn_init_217 rfl rfl rfl rfl (by decide) (by decide) (show (tKn D N e0 4).set 12 (oA D 6 6 (va_up (rows N 15 4) 4 (some (N + 19)))) = tK D N e0 5 from by rw [show va_up (rows N 15 4) 4 (some (N + 19)) = rows N 15 5 from rows_s N 15 4]; rfl) ?_
    refine wp_aload_n (q := 219) d_Tn_init_218 rfl rfl ?_
    refine wp_get (q := 222) fl_Tn_47 d_Tn_init_219 rfl rfl rfl ?_
    refine wp_iconst (q := 223) d_Tn_init_222 rfl ic_5 ?_
    refine wp_new (q := 226) (ci := 3) (Cn := RX3) (T := TX3) (nf := 0) (fs := []) (ty0 := tyX3) rfl inX3 tyX3_ok (gw 74 (by decide +kernel) (by decide +kernel)) (gw 75 (by decide +kernel) (by decide +kernel)) (gw 8 (by decide +kernel) (by decide +kernel)) d_Tn_init_223 rfl (fun j hj => absurd hj (Nat.not_lt_zero _)) (Nat.le_of_ble_eq_true rfl) (Nat.le_of_ble_eq_true rfl) ?_
    refine wp_cast (v2 := .ref (N + 20)) (g2 := tKn D N e0 5) rfl rfl ?_
    refine wp_dup (q := 227) d_Tn_init_226 rfl rfl ?_
    refine wp_callIN (q := 230) (mc := 0) (ms := 0) [] lk_Tn_72 (ro _ _ _) d_Tn_init_227 rfl rfl rfl (Nat.le_of_ble_eq_true rfl) (Nat.le_of_ble_eq_true rfl) (Nat.le_of_ble_eq_true rfl) ?_
    refine ok_Hi_init ?_
    refine wp_aastX (q := 231) (r := (RX3, TX3, 0)) (ci := 3) (vs := []) (fun _ _ _ h => h.2) (by decide) d_Tn_init_230 rfl rfl rfl rfl (by decide) (by decide) (show (tKn D N e0 5).set 12 (oA D 6 6 (va_up (rows N 15 5) 5 (some (N + 20)))) = tK D N e0 6 from by rw [show va_up (rows N 15 5) 5 (some (N + 20)) = rows N 15 6 from rows_s N 15 5]; rfl) ?_
    refine wp_vret d_Tn_init_231 rfl (Nat.le_refl _) (Nat.le_refl _) ?_
    exact hK
  have lf : ∀ i : Nat, i ≤ 6 → Wp D N l (EXX D M_Tn_init) M_Tn_init (Rm (d + 4) 19 230) (Qm D N K 19 230) 13 230 134 [(1, .int (nI i)), (0, .ref (N + 1))] [] (tWn D N e0 (cfl 24 (nI 10)) (cfl i (-1)) (fun _ => none)) := by
    refine up_loop ?_ ?_
    · skip
      refine wp_iload_n (q := 135) d_Tn_init_134 rfl rfl ?_
      refine wp_bipush (q := 137) d_Tn_init_135 rfl bp_6 ?_
      refine wp_icmp_ge_t (tgt := 153) d_Tn_init_137 (by decide) (nI_le (Nat.le_refl _) (by decide)) ?_
      refine wp_sub [1] rfl ?_
      have h := tail
      unfold tK at h
      rw [← rows_0, show List.take 0 tRuns = [] from rfl, List.append_nil] at h
      exact h
    · intro i hi ih
      refine wp_iload_n (q := 135) d_Tn_init_134 rfl rfl ?_
      refine wp_bipush (q := 137) d_Tn_init_135 rfl bp_6 ?_
      refine wp_icmp_ge_f (q := 140) (tgt := 153) d_Tn_init_137 (by decide) rfl (nI_ge hi (by decide)) ?_
      refine wp_aload_n (q := 141) d_Tn_init_140 rfl rfl ?_
      refine wp_get (q := 144) fl_Tn_42 d_Tn_init_141 rfl rfl rfl ?_
      refine wp_iload_n (q := 145) d_Tn_init_144 rfl rfl ?_
      refine wp_iconst (q := 146) d_Tn_init_145 rfl ic_m1 ?_
      refine wp_iast (q := 147) d_Tn_init_146 rfl (rfl) (by omega) (by decide) (show (tWn D N e0 (cfl 24 (nI 10)) (cfl i (-1)) (fun _ => none)).set 11 (iA D 6 (upd (cfl i (-1)) i (-1))) = tWn D N e0 (cfl 24 (nI 10)) (cfl (i + 1) (-1)) (fun _ => none) from by rw [csts]; rfl) ?_
      refine wp_iinc (q := 150) (L2 := [(1, _), (0, _)]) d_Tn_init_147 rfl rfl (iinc_1) (by decide) rfl ?_
      refine wp_goto (tgt := 134) d_Tn_init_150 (by decide) ?_
      exact ih
  have lj : ∀ i : Nat, i ≤ 24 → Wp D N l (EXX D M_Tn_init) M_Tn_init (Rm (d + 4) 19 230) (Qm D N K 19 230) 13 230 112 [(1, .int (nI i)), (0, .ref (N + 1))] [] (tWn D N e0 (cfl i (nI 10)) (fun _ => 0) (fun _ => none)) := by
    refine up_loop ?_ ?_
    · skip
      refine wp_iload_n (q := 113) d_Tn_init_112 rfl rfl ?_
      refine wp_bipush (q := 115) d_Tn_init_113 rfl bp_24 ?_
      refine wp_icmp_ge_t (tgt := 132) d_Tn_init_115 (by decide) (nI_le (Nat.le_refl _) (by decide)) ?_
      refine wp_iconst (q := 133) d_Tn_init_132 rfl ic_0 ?_
      refine wp_istore_n (q := 134) (L2 := [(1, _), (0, _)]) d_Tn_init_133 rfl (by decide) rfl ?_
      have h := lf 0 (Nat.zero_le _)
      rw [← cstz] at h
      exact h
    · intro i hi ih
      refine wp_iload_n (q := 113) d_Tn_init_112 rfl rfl ?_
      refine wp_bipush (q := 115) d_Tn_init_113 rfl bp_24 ?_
      refine wp_icmp_ge_f (q := 118) (tgt := 132) d_Tn_init_115 (by decide) rfl (nI_ge hi (by decide)) ?_
      refine wp_aload_n (q := 119) d_Tn_init_118 rfl rfl ?_
      refine wp_get (q := 122) fl_Tn_18 d_Tn_init_119 rfl rfl rfl ?_
      refine wp_iload_n (q := 123) d_Tn_init_122 rfl rfl ?_
      refine wp_bipush (q := 125) d_Tn_init_123 rfl bp_10 ?_
      refine wp_iast (q := 126) d_Tn_init_125 rfl (rfl) (by omega) (by decide) (show (tWn D N e0 (cfl i (nI 10)) (fun _ => 0) (fun _ => none)).set 4 (iA D 24 (upd (cfl i (nI 10)) i (nI 10))) = tWn D N e0 (cfl (i + 1) (nI 10)) (fun _ => 0) (fun _ => none) from by rw [csts]; rfl) ?_
      refine wp_iinc (q := 129) (L2 := [(1, _), (0, _)]) d_Tn_init_126 rfl rfl (iinc_1) (by decide) rfl ?_
      refine wp_goto (tgt := 112) d_Tn_init_129 (by decide) ?_
      exact ih
  refine okX_of (L := [(0, _)]) (by decide) (Nat.le_of_ble_eq_true rfl) rfl ?_
  refine wp_aload_n (q := 1) d_Tn_init_0 rfl rfl ?_
  refine wp_objInit (q := 4) ko_Tn_3 ko_inst ko_code (RO0 ()) d_Tn_init_1 rfl (Nat.le_of_ble_eq_true rfl) ?_
  refine wp_aload_n (q := 5) d_Tn_init_4 rfl rfl ?_
  refine wp_bipush (q := 7) d_Tn_init_5 rfl bp_36 ?_
  refine wp_newa 0 (q := 9) (atype := .int) (ty := .int) (N' := 36) (a0 := (36, .inl (fun _ => 0))) rfl rfl rfl kw_ai d_Tn_init_7 rfl (fun cA => rfl) (by decide) (by decide) (Nat.le_of_ble_eq_true rfl) (Nat.le_of_ble_eq_true rfl) ?_
  refine wp_cast (v2 := .ref (N + 2)) (g2 := tP D N e0 0 (iA D 36 (fun _ => 0))) rfl rfl ?_
  refine wp_putF (q := 12) fl_Tn_9 (fun _ _ _ h => h.1 rfl) rfl d_Tn_init_9 rfl (show (tP D N e0 0 (iA D 36 (fun _ => 0)))[1]? = some (.inr (9, tFl N 0)) from rfl) (Nat.le_of_ble_eq_true rfl) rfl rfl (show (tP D N e0 0 (iA D 36 (fun _ => 0))).set 1 (.inr (9, (tFl N 0).set 0 (.ref (N + 2)))) = tS D N e0 1 from rfl) ?_
  refine wp_aload_n (q := 13) d_Tn_init_12 rfl rfl ?_
  refine wp_bipush (q := 15) d_Tn_init_13 rfl bp_36 ?_
  refine wp_newa 0 (q := 17) (atype := .int) (ty := .int) (N' := 36) (a0 := (36, .inl (fun _ => 0))) rfl rfl rfl kw_ai d_Tn_init_15 rfl (fun cA => rfl) (by decide) (by decide) (Nat.le_of_ble_eq_true rfl) (Nat.le_of_ble_eq_true rfl) ?_
  refine wp_cast (v2 := .ref (N + 3)) (g2 := tP D N e0 1 (iA D 36 (fun _ => 0))) rfl rfl ?_
  refine wp_putF (q := 20) fl_Tn_15 (fun _ _ _ h => h.1 rfl) rfl d_Tn_init_17 rfl (show (tP D N e0 1 (iA D 36 (fun _ => 0)))[1]? = some (.inr (9, tFl N 1)) from rfl) (Nat.le_of_ble_eq_true rfl) rfl rfl (show (tP D N e0 1 (iA D 36 (fun _ => 0))).set 1 (.inr (9, (tFl N 1).set 1 (.ref (N + 3)))) = tS D N e0 2 from rfl) ?_
  refine wp_aload_n (q := 21) d_Tn_init_20 rfl rfl ?_
  refine wp_bipush (q := 23) d_Tn_init_21 rfl bp_24 ?_
  refine wp_newa 0 (q := 25) (atype := .int) (ty := .int) (N' := 24) (a0 := (24, .inl (fun _ => 0))) rfl rfl rfl kw_ai d_Tn_init_23 rfl (fun cA => rfl) (by decide) (by decide) (Nat.le_of_ble_eq_true rfl) (Nat.le_of_ble_eq_true rfl) ?_
  refine wp_cast (v2 := .ref (N + 4)) (g2 := tP D N e0 2 (iA D 24 (fun _ => 0))) rfl rfl ?_
  refine wp_putF (q := 28) fl_Tn_18 (fun _ _ _ h => h.1 rfl) rfl d_Tn_init_25 rfl (show (tP D N e0 2 (iA D 24 (fun _ => 0)))[1]? = some (.inr (9, tFl N 2)) from rfl) (Nat.le_of_ble_eq_true rfl) rfl rfl (show (tP D N e0 2 (iA D 24 (fun _ => 0))).set 1 (.inr (9, (tFl N 2).set 2 (.ref (N + 4)))) = tS D N e0 3 from rfl) ?_
  refine wp_aload_n (q := 29) d_Tn_init_28 rfl rfl ?_
  refine wp_bipush (q := 31) d_Tn_init_29 rfl bp_12 ?_
  refine wp_newa 0 (q := 33) (atype := .int) (ty := .int) (N' := 12) (a0 := (12, .inl (fun _ => 0))) rfl rfl rfl kw_ai d_Tn_init_31 rfl (fun cA => rfl) (by decide) (by decide) (Nat.le_of_ble_eq_true rfl) (Nat.le_of_ble_eq_true rfl) ?_
  refine wp_cast (v2 := .ref (N + 5)) (g2 := tP D N e0 3 (iA D 12 (fun _ => 0))) rfl rfl ?_
  refine wp_putF (q := 36) fl_Tn_21 (fun _ _ _ h => h.1 rfl) rfl d_Tn_init_33 rfl (show (tP D N e0 3 (iA D 12 (fun _ => 0)))[1]? = some (.inr (9, tFl N 3)) from rfl) (Nat.le_of_ble_eq_true rfl) rfl rfl (show (tP D N e0 3 (iA D 12 (fun _ => 0))).set 1 (.inr (9, (tFl N 3).set 3 (.ref (N + 5)))) = tS D N e0 4 from rfl) ?_
  refine wp_aload_n (q := 37) d_Tn_init_36 rfl rfl ?_
  refine wp_bipush (q := 39) d_Tn_init_37 rfl bp_12 ?_
  refine wp_newa 0 (q := 41) (atype := .int) (ty := .int) (N' := 12) (a0 := (12, .inl (fun _ => 0))) rfl rfl rfl kw_ai d_Tn_init_39 rfl (fun cA => rfl) (by decide) (by decide) (Nat.le_of_ble_eq_true rfl) (Nat.le_of_ble_eq_true rfl) ?_
  refine wp_cast (v2 := .ref (N + 6)) (g2 := tP D N e0 4 (iA D 12 (fun _ => 0))) rfl rfl ?_
  refine wp_putF (q := 44) fl_Tn_24 (fun _ _ _ h => h.1 rfl) rfl d_Tn_init_41 rfl (show (tP D N e0 4 (iA D 12 (fun _ => 0)))[1]? = some (.inr (9, tFl N 4)) from rfl) (Nat.le_of_ble_eq_true rfl) rfl rfl (show (tP D N e0 4 (iA D 12 (fun _ => 0))).set 1 (.inr (9, (tFl N 4).set 4 (.ref (N + 6)))) = tS D N e0 5 from rfl) ?_
  refine wp_aload_n (q := 45) d_Tn_init_44 rfl rfl ?_
  refine wp_bipush (q := 47) d_Tn_init_45 rfl bp_12 ?_
  refine wp_newa 0 (q := 49) (atype := .int) (ty := .int) (N' := 12) (a0 := (12, .inl (fun _ => 0))) rfl rfl rfl kw_ai d_Tn_init_47 rfl (fun cA => rfl) (by decide) (by decide) (Nat.le_of_ble_eq_true rfl) (Nat.le_of_ble_eq_true rfl) ?_
  refine wp_cast (v2 := .ref (N + 7)) (g2 := tP D N e0 5 (iA D 12 (fun _ => 0))) rfl rfl ?_
  refine wp_putF (q := 52) fl_Tn_27 (fun _ _ _ h => h.1 rfl) rfl d_Tn_init_49 rfl (show (tP D N e0 5 (iA D 12 (fun _ => 0)))[1]? = some (.inr (9, tFl N 5)) from rfl) (Nat.le_of_ble_eq_true rfl) rfl rfl (show (tP D N e0 5 (iA D 12 (fun _ => 0))).set 1 (.inr (9, (tFl N 5).set 5 (.ref (N + 7)))) = tS D N e0 6 from rfl) ?_
  refine wp_aload_n (q := 53) d_Tn_init_52 rfl rfl ?_
  refine wp_bipush (q := 55) d_Tn_init_53 rfl bp_12 ?_
  refine wp_newa 0 (q := 57) (atype := .int) (ty := .int) (N' := 12) (a0 := (12, .inl (fun _ => 0))) rfl rfl rfl kw_ai d_Tn_init_55 rfl (fun cA => rfl) (by decide) (by decide) (Nat.le_of_ble_eq_true rfl) (Nat.le_of_ble_eq_true rfl) ?_
  refine wp_cast (v2 := .ref (N + 8)) (g2 := tP D N e0 6 (iA D 12 (fun _ => 0))) rfl rfl ?_
  refine wp_putF (q := 60) fl_Tn_30 (fun _ _ _ h => h.1 rfl) rfl d_Tn_init_57 rfl (show (tP D N e0 6 (iA D 12 (fun _ => 0)))[1]? = some (.inr (9, tFl N 6)) from rfl) (Nat.le_of_ble_eq_true rfl) rfl rfl (show (tP D N e0 6 (iA D 12 (fun _ => 0))).set 1 (.inr (9, (tFl N 6).set 6 (.ref (N + 8)))) = tS D N e0 7 from rfl) ?_
  refine wp_aload_n (q := 61) d_Tn_init_60 rfl rfl ?_
  refine wp_bipush (q := 63) d_Tn_init_61 rfl bp_12 ?_
  refine wp_newa 0 (q := 65) (atype := .int) (ty := .int) (N' := 12) (a0 := (12, .inl (fun _ => 0))) rfl rfl rfl kw_ai d_Tn_init_63 rfl (fun cA => rfl) (by decide) (by decide) (Nat.le_of_ble_eq_true rfl) (Nat.le_of_ble_eq_true rfl) ?_
  refine wp_cast (v2 := .ref (N + 9)) (g2 := tP D N e0 7 (iA D 12 (fun _ => 0))) rfl rfl ?_
  refine wp_putF (q := 68) fl_Tn_33 (fun _ _ _ h => h.1 rfl) rfl d_Tn_init_65 rfl (show (tP D N e0 7 (iA D 12 (fun _ => 0)))[1]? = some (.inr (9, tFl N 7)) from rfl) (Nat.le_of_ble_eq_true rfl) rfl rfl (show (tP D N e0 7 (iA D 12 (fun _ => 0))).set 1 (.inr (9, (tFl N 7).set 7 (.ref (N + 9)))) = tS D N e0 8 from rfl) ?_
  refine wp_aload_n (q := 69) d_Tn_init_68 rfl rfl ?_
  refine wp_bipush (q := 71) d_Tn_init_69 rfl bp_48 ?_
  refine wp_anewX 5 (q := 74) (N' := 48) (Cn := "FillAndGo$Line") (fun _ _ _ h => h.2) (by decide) rfl rfl (gw 35 (by decide +kernel) (by decide +kernel)) d_Tn_init_71 rfl (by decide) (by decide) (Nat.le_of_ble_eq_true rfl) (Nat.le_of_ble_eq_true rfl) ?_
  refine wp_cast (v2 := .ref (N + 10)) (g2 := tP D N e0 8 (oA D 5 48 (fun _ => none))) rfl rfl ?_
  refine wp_putF (q := 77) fl_Tn_38 (fun _ _ _ h => h.1 rfl) rfl d_Tn_init_74 rfl (show (tP D N e0 8 (oA D 5 48 (fun _ => none)))[1]? = some (.inr (9, tFl N 8)) from rfl) (Nat.le_of_ble_eq_true rfl) rfl rfl (show (tP D N e0 8 (oA D 5 48 (fun _ => none))).set 1 (.inr (9, (tFl N 8).set 9 (.ref (N + 10)))) = tS D N e0 9 from rfl) ?_
  refine wp_aload_n (q := 78) d_Tn_init_77 rfl rfl ?_
  refine wp_bipush (q := 80) d_Tn_init_78 rfl bp_6 ?_
  refine wp_newa 0 (q := 82) (atype := .int) (ty := .int) (N' := 6) (a0 := (6, .inl (fun _ => 0))) rfl rfl rfl kw_ai d_Tn_init_80 rfl (fun cA => rfl) (by decide) (by decide) (Nat.le_of_ble_eq_true rfl) (Nat.le_of_ble_eq_true rfl) ?_
  refine wp_cast (v2 := .ref (N + 11)) (g2 := tP D N e0 9 (iA D 6 (fun _ => 0))) rfl rfl ?_
  refine wp_putF (q := 85) fl_Tn_42 (fun _ _ _ h => h.1 rfl) rfl d_Tn_init_82 rfl (show (tP D N e0 9 (iA D 6 (fun _ => 0)))[1]? = some (.inr (9, tFl N 9)) from rfl) (Nat.le_of_ble_eq_true rfl) rfl rfl (show (tP D N e0 9 (iA D 6 (fun _ => 0))).set 1 (.inr (9, (tFl N 9).set 11 (.ref (N + 11)))) = tS D N e0 10 from rfl) ?_
  refine wp_aload_n (q := 86) d_Tn_init_85 rfl rfl ?_
  refine wp_bipush (q := 88) d_Tn_init_86 rfl bp_6 ?_
  refine wp_anewX 6 (q := 91) (N' := 6) (Cn := "FillAndGo$Run") (fun _ _ _ h => h.2) (by decide) rfl rfl (gw 37 (by decide +kernel) (by decide +kernel)) d_Tn_init_88 rfl (by decide) (by decide) (Nat.le_of_ble_eq_true rfl) (Nat.le_of_ble_eq_true rfl) ?_
  refine wp_cast (v2 := .ref (N + 12)) (g2 := tP D N e0 10 (oA D 6 6 (fun _ => none))) rfl rfl ?_
  refine wp_putF (q := 94) fl_Tn_47 (fun _ _ _ h => h.1 rfl) rfl d_Tn_init_91 rfl (show (tP D N e0 10 (oA D 6 6 (fun _ => none)))[1]? = some (.inr (9, tFl N 10)) from rfl) (Nat.le_of_ble_eq_true rfl) rfl rfl (show (tP D N e0 10 (oA D 6 6 (fun _ => none))).set 1 (.inr (9, (tFl N 10).set 12 (.ref (N + 12)))) = tS D N e0 11 from rfl) ?_
  refine wp_aload_n (q := 95) d_Tn_init_94 rfl rfl ?_
  refine wp_bipush (q := 97) d_Tn_init_95 rfl bp_8 ?_
  refine wp_newa 0 (q := 99) (atype := .int) (ty := .int) (N' := 8) (a0 := (8, .inl (fun _ => 0))) rfl rfl rfl kw_ai d_Tn_init_97 rfl (fun cA => rfl) (by decide) (by decide) (Nat.le_of_ble_eq_true rfl) (Nat.le_of_ble_eq_true rfl) ?_
  refine wp_cast (v2 := .ref (N + 13)) (g2 := tP D N e0 11 (iA D 8 (fun _ => 0))) rfl rfl ?_
  refine wp_putF (q := 102) fl_Tn_51 (fun _ _ _ h => h.1 rfl) rfl d_Tn_init_99 rfl (show (tP D N e0 11 (iA D 8 (fun _ => 0)))[1]? = some (.inr (9, tFl N 11)) from rfl) (Nat.le_of_ble_eq_true rfl) rfl rfl (show (tP D N e0 11 (iA D 8 (fun _ => 0))).set 1 (.inr (9, (tFl N 11).set 13 (.ref (N + 13)))) = tS D N e0 12 from rfl) ?_
  refine wp_aload_n (q := 103) d_Tn_init_102 rfl rfl ?_
  refine wp_bipush (q := 105) d_Tn_init_103 rfl bp_6 ?_
  refine wp_newa 0 (q := 107) (atype := .int) (ty := .int) (N' := 6) (a0 := (6, .inl (fun _ => 0))) rfl rfl rfl kw_ai d_Tn_init_105 rfl (fun cA => rfl) (by decide) (by decide) (Nat.le_of_ble_eq_true rfl) (Nat.le_of_ble_eq_true rfl) ?_
  refine wp_cast (v2 := .ref (N + 14)) (g2 := tP D N e0 12 (iA D 6 (fun _ => 0))) rfl rfl ?_
  refine wp_putF (q := 110) fl_Tn_54 (fun _ _ _ h => h.1 rfl) rfl d_Tn_init_107 rfl (show (tP D N e0 12 (iA D 6 (fun _ => 0)))[1]? = some (.inr (9, tFl N 12)) from rfl) (Nat.le_of_ble_eq_true rfl) rfl rfl (show (tP D N e0 12 (iA D 6 (fun _ => 0))).set 1 (.inr (9, (tFl N 12).set 14 (.ref (N + 14)))) = tS D N e0 13 from rfl) ?_
  refine wp_iconst (q := 111) d_Tn_init_110 rfl ic_0 ?_
  refine wp_istore_n (q := 112) (L2 := [(1, _), (0, _)]) d_Tn_init_111 rfl (by decide) rfl ?_
  have h := lj 0 (Nat.zero_le _)
  rw [← cstz] at h
  exact h
theorem d_FG_init_0 : decode M_FG_init.2.1 0 = .ok (.aload_n 0, 1) := by decide +kernel
theorem d_FG_init_1 : decode M_FG_init.2.1 1 = .ok (.invokespecial 1, 3) := by decide +kernel
theorem d_FG_init_4 : decode M_FG_init.2.1 4 = .ok (.aload_n 0, 1) := by decide +kernel
theorem d_FG_init_5 : decode M_FG_init.2.1 5 = .ok (.new 7, 3) := by decide +kernel
theorem d_FG_init_8 : decode M_FG_init.2.1 8 = .ok (.dup, 1) := by decide +kernel
theorem d_FG_init_9 : decode M_FG_init.2.1 9 = .ok (.invokespecial 9, 3) := by decide +kernel
theorem d_FG_init_12 : decode M_FG_init.2.1 12 = .ok (.putfield 10, 3) := by decide +kernel
theorem d_FG_init_15 : decode M_FG_init.2.1 15 = .ok (.aload_n 0, 1) := by decide +kernel
theorem d_FG_init_16 : decode M_FG_init.2.1 16 = .ok (.new 16, 3) := by decide +kernel
theorem d_FG_init_19 : decode M_FG_init.2.1 19 = .ok (.dup, 1) := by decide +kernel
theorem d_FG_init_20 : decode M_FG_init.2.1 20 = .ok (.invokespecial 18, 3) := by decide +kernel
theorem d_FG_init_23 : decode M_FG_init.2.1 23 = .ok (.putfield 19, 3) := by decide +kernel
theorem d_FG_init_26 : decode M_FG_init.2.1 26 = .ok (.aload_n 0, 1) := by decide +kernel
theorem d_FG_init_27 : decode M_FG_init.2.1 27 = .ok (.new 16, 3) := by decide +kernel
theorem d_FG_init_30 : decode M_FG_init.2.1 30 = .ok (.dup, 1) := by decide +kernel
theorem d_FG_init_31 : decode M_FG_init.2.1 31 = .ok (.invokespecial 18, 3) := by decide +kernel
theorem d_FG_init_34 : decode M_FG_init.2.1 34 = .ok (.putfield 23, 3) := by decide +kernel
theorem d_FG_init_37 : decode M_FG_init.2.1 37 = .ok (.aload_n 0, 1) := by decide +kernel
theorem d_FG_init_38 : decode M_FG_init.2.1 38 = .ok (.new 16, 3) := by decide +kernel
theorem d_FG_init_41 : decode M_FG_init.2.1 41 = .ok (.dup, 1) := by decide +kernel
theorem d_FG_init_42 : decode M_FG_init.2.1 42 = .ok (.invokespecial 18, 3) := by decide +kernel
theorem d_FG_init_45 : decode M_FG_init.2.1 45 = .ok (.putfield 26, 3) := by decide +kernel
theorem d_FG_init_48 : decode M_FG_init.2.1 48 = .ok (.aload_n 0, 1) := by decide +kernel
theorem d_FG_init_49 : decode M_FG_init.2.1 49 = .ok (.new 29, 3) := by decide +kernel
theorem d_FG_init_52 : decode M_FG_init.2.1 52 = .ok (.dup, 1) := by decide +kernel
theorem d_FG_init_53 : decode M_FG_init.2.1 53 = .ok (.invokespecial 31, 3) := by decide +kernel
theorem d_FG_init_56 : decode M_FG_init.2.1 56 = .ok (.putfield 32, 3) := by decide +kernel
theorem d_FG_init_59 : decode M_FG_init.2.1 59 = .ok (.aload_n 0, 1) := by decide +kernel
theorem d_FG_init_60 : decode M_FG_init.2.1 60 = .ok (.bipush 6, 2) := by decide +kernel
theorem d_FG_init_62 : decode M_FG_init.2.1 62 = .ok (.iconst 4, 1) := by decide +kernel
theorem d_FG_init_63 : decode M_FG_init.2.1 63 = .ok (.multianewarray 36 2, 4) := by decide +kernel
theorem d_FG_init_67 : decode M_FG_init.2.1 67 = .ok (.putfield 38, 3) := by decide +kernel
theorem d_FG_init_70 : decode M_FG_init.2.1 70 = .ok (.aload_n 0, 1) := by decide +kernel
theorem d_FG_init_71 : decode M_FG_init.2.1 71 = .ok (.iconst 3, 1) := by decide +kernel
theorem d_FG_init_72 : decode M_FG_init.2.1 72 = .ok (.bipush 6, 2) := by decide +kernel
theorem d_FG_init_74 : decode M_FG_init.2.1 74 = .ok (.multianewarray 36 2, 4) := by decide +kernel
theorem d_FG_init_78 : decode M_FG_init.2.1 78 = .ok (.putfield 41, 3) := by decide +kernel
theorem d_FG_init_81 : decode M_FG_init.2.1 81 = .ok (.aload_n 0, 1) := by decide +kernel
theorem d_FG_init_82 : decode M_FG_init.2.1 82 = .ok (.bipush 30, 2) := by decide +kernel
theorem d_FG_init_84 : decode M_FG_init.2.1 84 = .ok (.bipush 6, 2) := by decide +kernel
theorem d_FG_init_86 : decode M_FG_init.2.1 86 = .ok (.multianewarray 36 2, 4) := by decide +kernel
theorem d_FG_init_90 : decode M_FG_init.2.1 90 = .ok (.putfield 44, 3) := by decide +kernel
theorem d_FG_init_93 : decode M_FG_init.2.1 93 = .ok (.aload_n 0, 1) := by decide +kernel
theorem d_FG_init_94 : decode M_FG_init.2.1 94 = .ok (.iconst 4, 1) := by decide +kernel
theorem d_FG_init_95 : decode M_FG_init.2.1 95 = .ok (.bipush 40, 2) := by decide +kernel
theorem d_FG_init_97 : decode M_FG_init.2.1 97 = .ok (.multianewarray 36 2, 4) := by decide +kernel
theorem d_FG_init_101 : decode M_FG_init.2.1 101 = .ok (.putfield 47, 3) := by decide +kernel
theorem d_FG_init_104 : decode M_FG_init.2.1 104 = .ok (.aload_n 0, 1) := by decide +kernel
theorem d_FG_init_105 : decode M_FG_init.2.1 105 = .ok (.iconst 4, 1) := by decide +kernel
theorem d_FG_init_106 : decode M_FG_init.2.1 106 = .ok (.newarray .int, 2) := by decide +kernel
theorem d_FG_init_108 : decode M_FG_init.2.1 108 = .ok (.putfield 50, 3) := by decide +kernel
theorem d_FG_init_111 : decode M_FG_init.2.1 111 = .ok (.aload_n 0, 1) := by decide +kernel
theorem d_FG_init_112 : decode M_FG_init.2.1 112 = .ok (.iconst 4, 1) := by decide +kernel
theorem d_FG_init_113 : decode M_FG_init.2.1 113 = .ok (.newarray .int, 2) := by decide +kernel
theorem d_FG_init_115 : decode M_FG_init.2.1 115 = .ok (.dup, 1) := by decide +kernel
theorem d_FG_init_116 : decode M_FG_init.2.1 116 = .ok (.iconst 0, 1) := by decide +kernel
theorem d_FG_init_117 : decode M_FG_init.2.1 117 = .ok (.iconst (-1), 1) := by decide +kernel
theorem d_FG_init_118 : decode M_FG_init.2.1 118 = .ok (.iastore, 1) := by decide +kernel
theorem d_FG_init_119 : decode M_FG_init.2.1 119 = .ok (.dup, 1) := by decide +kernel
theorem d_FG_init_120 : decode M_FG_init.2.1 120 = .ok (.iconst 1, 1) := by decide +kernel
theorem d_FG_init_121 : decode M_FG_init.2.1 121 = .ok (.iconst (-1), 1) := by decide +kernel
theorem d_FG_init_122 : decode M_FG_init.2.1 122 = .ok (.iastore, 1) := by decide +kernel
theorem d_FG_init_123 : decode M_FG_init.2.1 123 = .ok (.dup, 1) := by decide +kernel
theorem d_FG_init_124 : decode M_FG_init.2.1 124 = .ok (.iconst 2, 1) := by decide +kernel
theorem d_FG_init_125 : decode M_FG_init.2.1 125 = .ok (.iconst (-1), 1) := by decide +kernel
theorem d_FG_init_126 : decode M_FG_init.2.1 126 = .ok (.iastore, 1) := by decide +kernel
theorem d_FG_init_127 : decode M_FG_init.2.1 127 = .ok (.dup, 1) := by decide +kernel
theorem d_FG_init_128 : decode M_FG_init.2.1 128 = .ok (.iconst 3, 1) := by decide +kernel
theorem d_FG_init_129 : decode M_FG_init.2.1 129 = .ok (.iconst (-1), 1) := by decide +kernel
theorem d_FG_init_130 : decode M_FG_init.2.1 130 = .ok (.iastore, 1) := by decide +kernel
theorem d_FG_init_131 : decode M_FG_init.2.1 131 = .ok (.putfield 54, 3) := by decide +kernel
theorem d_FG_init_134 : decode M_FG_init.2.1 134 = .ok (.return_, 1) := by decide +kernel
def fF (N k : Nat) : List Value := [rv N 1 1 k, rv N 21 2 k, rv N 38 3 k, rv N 55 4 k, .int 0, rv N 72 5 k, .int 0, rv N 75 6 k, .int 0, .int 0, .int 0, .int 0, rv N 82 7 k, rv N 86 8 k, .int 0, rv N 117 9 k, rv N 122 10 k, rv N 123 11 k]
def fA (D : xD) (N k : Nat) : List va_E := tK D N (.inr (11, fF N k)) 6
def fB (D : xD) (N k : Nat) : List va_E := fA D N k ++ wcells D N 21 (fun _ => 0)
def fC (D : xD) (N k : Nat) : List va_E := fB D N k ++ wcells D N 38 (fun _ => 0)
def fD (D : xD) (N k : Nat) : List va_E := fC D N k ++ wcells D N 55 (fun _ => 0)
def fE (D : xD) (N k : Nat) : List va_E := fD D N k ++ [.inr (8, [.ref (N + 73), .int 0, .int 0, .ref (N + 74), .int 0]), bA D 160 (fun _ => 0), oA D 5 8 (fun _ => none)]
def fG (D : xD) (N k : Nat) : List va_E := fE D N k ++ (oA D 7 6 (rows N 76 6) :: List.replicate 6 (iA D 4 (fun _ => 0)))
def fH (D : xD) (N k : Nat) : List va_E := fG D N k ++ (oA D 7 3 (rows N 83 3) :: List.replicate 3 (iA D 6 (fun _ => 0)))
def fI (D : xD) (N k : Nat) : List va_E := fH D N k ++ (oA D 7 30 (rows N 87 30) :: List.replicate 30 (iA D 6 (fun _ => 0)))
def fJ (D : xD) (N k : Nat) : List va_E := fI D N k ++ (oA D 7 4 (rows N 118 4) :: List.replicate 4 (iA D 40 (fun _ => 0)))
def fK (D : xD) (N k : Nat) : List va_E := fJ D N k ++ [iA D 4 (fun _ => 0)]
def fL (D : xD) (N k : Nat) (f : FN) : List va_E := fK D N k ++ [iA D 4 f]
theorem w38 {D : xD} {N k : Nat} : (fB D N k).length = 38 := rfl
theorem w55 {D : xD} {N k : Nat} : (fC D N k).length = 55 := rfl
theorem w72 {D : xD} {N k : Nat} : (fD D N k).length = 72 := rfl
theorem w75 {D : xD} {N k : Nat} : (fE D N k).length = 75 := rfl
set_option maxHeartbeats 4000000 in
set_option maxRecDepth 100000 in
theorem ok_FG_init {D : xD} {N : Nat} {l : Launch} {d : Nat} {K : Option Value → List va_E → Prop} (hK : K none (fL D N 11 (cfl 4 (-1)))) : OkX D N l (d + 5) M_FG_init [.ref (N + 0)] [.inr (11, fF N 0)] 123 1616 K := by
  refine okX_of (L := [(0, _)]) (by decide) (Nat.le_of_ble_eq_true rfl) rfl ?_
  refine wp_aload_n (q := 1) d_FG_init_0 rfl rfl ?_
  refine wp_objInit (q := 4) ko_FG_1 ko_inst ko_code (RO0 ()) d_FG_init_1 rfl (Nat.le_of_ble_eq_true rfl) ?_
  refine wp_aload_n (q := 5) d_FG_init_4 rfl rfl ?_
  refine wp_new (q := 8) (ci := 9) (Cn := RX9) (T := TX9) (nf := 15) (fs := [.null, .null, .null, .null, .null, .null, .null, .null, .int 0, .null, .int 0, .null, .null, .null, .null]) (ty0 := tyX9) rfl inX9 tyX9_ok (gw 29 (by decide +kernel) (by decide +kernel)) (gw 30 (by decide +kernel) (by decide +kernel)) (gw 2 (by decide +kernel) (by decide +kernel)) d_FG_init_5 rfl (fun j hj => by rcases (show j = 0 ∨ j = 1 ∨ j = 2 ∨ j = 3 ∨ j = 4 ∨ j = 5 ∨ j = 6 ∨ j = 7 ∨ j = 8 ∨ j = 9 ∨ j = 10 ∨ j = 11 ∨ j = 12 ∨ j = 13 ∨ j = 14 by omega) with rfl | rfl | rfl | rfl | rfl | rfl | rfl | rfl | rfl | rfl | rfl | rfl | rfl | rfl | rfl <;> rfl) (Nat.le_of_ble_eq_true rfl) (Nat.le_of_ble_eq_true rfl) ?_
  refine wp_cast (v2 := .ref (N + 1)) (g2 := [.inr (11, fF N 0), .inr (9, [.null, .null, .null, .null, .null, .null, .null, .null, .int 0, .null, .int 0, .null, .null, .null, .null])]) rfl rfl ?_
  refine wp_dup (q := 9) d_FG_init_8 rfl rfl ?_
  refine wp_callIX (q := 12) (mc := 19) (ms := 230) [] (fun _ _ _ h => h.2) lk_FG_9 (ro _ _ _) d_FG_init_9 rfl rfl rfl (Nat.le_of_ble_eq_true rfl) (Nat.le_of_ble_eq_true rfl) (Nat.le_of_ble_eq_true rfl) ?_
  refine ok_Tn_init ?_
  refine wp_cast (g2 := fA D N 0) rfl rfl ?_
  refine wp_putF (q := 15) fl_FG_10 (fun _ _ _ h => h.1 rfl) rfl d_FG_init_12 rfl rfl (Nat.le_of_ble_eq_true rfl) rfl rfl (show (fA D N 0).set 0 (.inr (11, (fF N 0).set 0 (.ref (N + 1)))) = fA D N 1 from rfl) ?_
  refine wp_aload_n (q := 16) d_FG_init_15 rfl rfl ?_
  refine wp_new (q := 19) (ci := 10) (Cn := RX10) (T := TX10) (nf := 9) (fs := [.int 0, .int 0, .int 0, .int 0, .int 0, .null, .null, .null, .null]) (ty0 := tyX10) rfl inX10 tyX10_ok (gw 135 (by decide +kernel) (by decide +kernel)) (gw 136 (by decide +kernel) (by decide +kernel)) (gw 9 (by decide +kernel) (by decide +kernel)) d_FG_init_16 rfl (fun j hj => by rcases (show j = 0 ∨ j = 1 ∨ j = 2 ∨ j = 3 ∨ j = 4 ∨ j = 5 ∨ j = 6 ∨ j = 7 ∨ j = 8 by omega) with rfl | rfl | rfl | rfl | rfl | rfl | rfl | rfl | rfl <;> rfl) (Nat.le_of_ble_eq_true rfl) (Nat.le_of_ble_eq_true rfl) ?_
  refine wp_dup (q := 20) d_FG_init_19 rfl rfl ?_
  refine wp_callIX (q := 23) (mc := 16) (ms := 246) [] (fun _ _ _ h => h.2) lk_FG_18 (ro _ _ _) d_FG_init_20 rfl rfl rfl (Nat.le_of_ble_eq_true rfl) (Nat.le_of_ble_eq_true rfl) (Nat.le_of_ble_eq_true rfl) ?_
  refine ok_Wd_init ?_
  refine wp_cast (v2 := .ref (N + 21)) (g2 := fB D N 1) rfl rfl ?_
  refine wp_putF (q := 26) fl_FG_19 (fun _ _ _ h => h.1 rfl) rfl d_FG_init_23 rfl rfl (Nat.le_of_ble_eq_true rfl) rfl rfl (show (fB D N 1).set 0 (.inr (11, (fF N 1).set 1 (.ref (N + 21)))) = fB D N 2 from rfl) ?_
  refine wp_aload_n (q := 27) d_FG_init_26 rfl rfl ?_
  refine wp_new (q := 30) (ci := 10) (Cn := RX10) (T := TX10) (nf := 9) (fs := [.int 0, .int 0, .int 0, .int 0, .int 0, .null, .null, .null, .null]) (ty0 := tyX10) rfl inX10 tyX10_ok (gw 135 (by decide +kernel) (by decide +kernel)) (gw 136 (by decide +kernel) (by decide +kernel)) (gw 9 (by decide +kernel) (by decide +kernel)) d_FG_init_27 rfl (fun j hj => by rcases (show j = 0 ∨ j = 1 ∨ j = 2 ∨ j = 3 ∨ j = 4 ∨ j = 5 ∨ j = 6 ∨ j = 7 ∨ j = 8 by omega) with rfl | rfl | rfl | rfl | rfl | rfl | rfl | rfl | rfl <;> rfl) (Nat.le_of_ble_eq_true rfl) (Nat.le_of_ble_eq_true rfl) ?_
  refine wp_dup (q := 31) d_FG_init_30 rfl rfl ?_
  refine wp_callIX (q := 34) (mc := 16) (ms := 246) [] (fun _ _ _ h => h.2) lk_FG_18 (ro _ _ _) d_FG_init_31 rfl rfl rfl (Nat.le_of_ble_eq_true rfl) (Nat.le_of_ble_eq_true rfl) (Nat.le_of_ble_eq_true rfl) ?_
  refine ok_Wd_init ?_
  refine wp_cast (v2 := .ref (N + 38)) (g2 := fC D N 2) rfl rfl ?_
  refine wp_putF (q := 37) fl_FG_23 (fun _ _ _ h => h.1 rfl) rfl d_FG_init_34 rfl rfl (Nat.le_of_ble_eq_true rfl) rfl rfl (show (fC D N 2).set 0 (.inr (11, (fF N 2).set 2 (.ref (N + 38)))) = fC D N 3 from rfl) ?_
  refine wp_aload_n (q := 38) d_FG_init_37 rfl rfl ?_
  refine wp_new (q := 41) (ci := 10) (Cn := RX10) (T := TX10) (nf := 9) (fs := [.int 0, .int 0, .int 0, .int 0, .int 0, .null, .null, .null, .null]) (ty0 := tyX10) rfl inX10 tyX10_ok (gw 135 (by decide +kernel) (by decide +kernel)) (gw 136 (by decide +kernel) (by decide +kernel)) (gw 9 (by decide +kernel) (by decide +kernel)) d_FG_init_38 rfl (fun j hj => by rcases (show j = 0 ∨ j = 1 ∨ j = 2 ∨ j = 3 ∨ j = 4 ∨ j = 5 ∨ j = 6 ∨ j = 7 ∨ j = 8 by omega) with rfl | rfl | rfl | rfl | rfl | rfl | rfl | rfl | rfl <;> rfl) (Nat.le_of_ble_eq_true rfl) (Nat.le_of_ble_eq_true rfl) ?_
  refine wp_dup (q := 42) d_FG_init_41 rfl rfl ?_
  refine wp_callIX (q := 45) (mc := 16) (ms := 246) [] (fun _ _ _ h => h.2) lk_FG_18 (ro _ _ _) d_FG_init_42 rfl rfl rfl (Nat.le_of_ble_eq_true rfl) (Nat.le_of_ble_eq_true rfl) (Nat.le_of_ble_eq_true rfl) ?_
  refine ok_Wd_init ?_
  refine wp_cast (v2 := .ref (N + 55)) (g2 := fD D N 3) rfl rfl ?_
  refine wp_putF (q := 48) fl_FG_26 (fun _ _ _ h => h.1 rfl) rfl d_FG_init_45 rfl rfl (Nat.le_of_ble_eq_true rfl) rfl rfl (show (fD D N 3).set 0 (.inr (11, (fF N 3).set 3 (.ref (N + 55)))) = fD D N 4 from rfl) ?_
  refine wp_aload_n (q := 49) d_FG_init_48 rfl rfl ?_
  refine wp_new (q := 52) (ci := 8) (Cn := RX8) (T := TX8) (nf := 5) (fs := [.null, .int 0, .int 0, .null, .int 0]) (ty0 := tyX8) rfl inX8 tyX8_ok (gw 262 (by decide +kernel) (by decide +kernel)) (gw 263 (by decide +kernel) (by decide +kernel)) (gw 11 (by decide +kernel) (by decide +kernel)) d_FG_init_49 rfl (fun j hj => by rcases (show j = 0 ∨ j = 1 ∨ j = 2 ∨ j = 3 ∨ j = 4 by omega) with rfl | rfl | rfl | rfl | rfl <;> rfl) (Nat.le_of_ble_eq_true rfl) (Nat.le_of_ble_eq_true rfl) ?_
  refine wp_dup (q := 53) d_FG_init_52 rfl rfl ?_
  refine wp_callINX (q := 56) (mc := 2) (ms := 168) [] (fun _ _ _ h => h.2) lk_FG_31 (ro _ _ _) d_FG_init_53 rfl rfl rfl (Nat.le_of_ble_eq_true rfl) (Nat.le_of_ble_eq_true rfl) (Nat.le_of_ble_eq_true rfl) ?_
  refine ok_Tp_init ?_
  refine wp_cast (v2 := .ref (N + 72)) (g2 := fE D N 4) rfl rfl ?_
  refine wp_putF (q := 59) fl_FG_32 (fun _ _ _ h => h.1 rfl) rfl d_FG_init_56 rfl rfl (Nat.le_of_ble_eq_true rfl) rfl rfl (show (fE D N 4).set 0 (.inr (11, (fF N 4).set 5 (.ref (N + 72)))) = fE D N 5 from rfl) ?_
  refine wp_aload_n (q := 60) d_FG_init_59 rfl rfl ?_
  refine wp_bipush (q := 62) d_FG_init_60 rfl bp_6 ?_
  refine wp_iconst (q := 63) d_FG_init_62 rfl ic_4 ?_
  refine wp_multi (q := 67) (n := 6) (w := 4) (fun _ _ _ h => h.2.1) rfl d_FG_init_63 rfl (by decide) (by decide) (Nat.le_of_ble_eq_true rfl) (Nat.le_of_ble_eq_true rfl) ?_
  refine wp_cast (v2 := .ref (N + 75)) (g2 := fG D N 5) rfl rfl ?_
  refine wp_putF (q := 70) fl_FG_38 (fun _ _ _ h => h.1 rfl) rfl d_FG_init_67 rfl rfl (Nat.le_of_ble_eq_true rfl) rfl rfl (show (fG D N 5).set 0 (.inr (11, (fF N 5).set 7 (.ref (N + 75)))) = fG D N 6 from rfl) ?_
  refine wp_aload_n (q := 71) d_FG_init_70 rfl rfl ?_
  refine wp_iconst (q := 72) d_FG_init_71 rfl ic_3 ?_
  refine wp_bipush (q := 74) d_FG_init_72 rfl bp_6 ?_
  refine wp_multi (q := 78) (n := 3) (w := 6) (fun _ _ _ h => h.2.1) rfl d_FG_init_74 rfl (by decide) (by decide) (Nat.le_of_ble_eq_true rfl) (Nat.le_of_ble_eq_true rfl) ?_
  refine wp_cast (v2 := .ref (N + 82)) (g2 := fH D N 6) rfl rfl ?_
  refine wp_putF (q := 81) fl_FG_41 (fun _ _ _ h => h.1 rfl) rfl d_FG_init_78 rfl rfl (Nat.le_of_ble_eq_true rfl) rfl rfl (show (fH D N 6).set 0 (.inr (11, (fF N 6).set 12 (.ref (N + 82)))) = fH D N 7 from rfl) ?_
  refine wp_aload_n (q := 82) d_FG_init_81 rfl rfl ?_
  refine wp_bipush (q := 84) d_FG_init_82 rfl bp_30 ?_
  refine wp_bipush (q := 86) d_FG_init_84 rfl bp_6 ?_
  refine wp_multi (q := 90) (n := 30) (w := 6) (fun _ _ _ h => h.2.1) rfl d_FG_init_86 rfl (by decide) (by decide) (Nat.le_of_ble_eq_true rfl) (Nat.le_of_ble_eq_true rfl) ?_
  refine wp_cast (v2 := .ref (N + 86)) (g2 := fI D N 7) rfl rfl ?_
  refine wp_putF (q := 93) fl_FG_44 (fun _ _ _ h => h.1 rfl) rfl d_FG_init_90 rfl rfl (Nat.le_of_ble_eq_true rfl) rfl rfl (show (fI D N 7).set 0 (.inr (11, (fF N 7).set 13 (.ref (N + 86)))) = fI D N 8 from rfl) ?_
  refine wp_aload_n (q := 94) d_FG_init_93 rfl rfl ?_
  refine wp_iconst (q := 95) d_FG_init_94 rfl ic_4 ?_
  refine wp_bipush (q := 97) d_FG_init_95 rfl bp_40 ?_
  refine wp_multi (q := 101) (n := 4) (w := 40) (fun _ _ _ h => h.2.1) rfl d_FG_init_97 rfl (by decide) (by decide) (Nat.le_of_ble_eq_true rfl) (Nat.le_of_ble_eq_true rfl) ?_
  refine wp_cast (v2 := .ref (N + 117)) (g2 := fJ D N 8) rfl rfl ?_
  refine wp_putF (q := 104) fl_FG_47 (fun _ _ _ h => h.1 rfl) rfl d_FG_init_101 rfl rfl (Nat.le_of_ble_eq_true rfl) rfl rfl (show (fJ D N 8).set 0 (.inr (11, (fF N 8).set 15 (.ref (N + 117)))) = fJ D N 9 from rfl) ?_
  refine wp_aload_n (q := 105) d_FG_init_104 rfl rfl ?_
  refine wp_iconst (q := 106) d_FG_init_105 rfl ic_4 ?_
  refine wp_newa 0 (q := 108) (atype := .int) (ty := .int) (N' := 4) (a0 := (4, .inl (fun _ => 0))) rfl rfl rfl kw_ai d_FG_init_106 rfl (fun cA => rfl) (by decide) (by decide) (Nat.le_of_ble_eq_true rfl) (Nat.le_of_ble_eq_true rfl) ?_
  refine wp_cast (v2 := .ref (N + 122)) (g2 := fK D N 9) rfl rfl ?_
  refine wp_putF (q := 111) fl_FG_50 (fun _ _ _ h => h.1 rfl) rfl d_FG_init_108 rfl rfl (Nat.le_of_ble_eq_true rfl) rfl rfl (show (fK D N 9).set 0 (.inr (11, (fF N 9).set 16 (.ref (N + 122)))) = fK D N 10 from rfl) ?_
  refine wp_aload_n (q := 112) d_FG_init_111 rfl rfl ?_
  refine wp_iconst (q := 113) d_FG_init_112 rfl ic_4 ?_
  refine wp_newa 0 (q := 115) (atype := .int) (ty := .int) (N' := 4) (a0 := (4, .inl (fun _ => 0))) rfl rfl rfl kw_ai d_FG_init_113 rfl (fun cA => rfl) (by decide) (by decide) (Nat.le_of_ble_eq_true rfl) (Nat.le_of_ble_eq_true rfl) ?_
  refine wp_cast (v2 := .ref (N + 123)) (g2 := fL D N 10 (cfl 0 (-1))) rfl (by rw [← cstz]; rfl) ?_
  refine wp_dup (q := 116) d_FG_init_115 rfl rfl ?_
  refine wp_iconst (q := 117) d_FG_init_116 rfl ic_0 ?_
  refine wp_iconst (q := 118) d_FG_init_117 rfl ic_m1 ?_
  refine wp_iast (q := 119) d_FG_init_118 rfl (show (fL D N 10 (cfl 0 (-1)))[123]? = some (iA D 4 (cfl 0 (-1))) from rfl) (by omega) (by decide) (show (fL D N 10 (cfl 0 (-1))).set 123 (iA D 4 (upd (cfl 0 (-1)) 0 (-1))) = fL D N 10 (cfl 1 (-1)) from by rw [csts]; rfl) ?_
  refine wp_dup (q := 120) d_FG_init_119 rfl rfl ?_
  refine wp_iconst (q := 121) d_FG_init_120 rfl ic_1 ?_
  refine wp_iconst (q := 122) d_FG_init_121 rfl ic_m1 ?_
  refine wp_iast (q := 123) d_FG_init_122 rfl (show (fL D N 10 (cfl 1 (-1)))[123]? = some (iA D 4 (cfl 1 (-1))) from rfl) (by omega) (by decide) (show (fL D N 10 (cfl 1 (-1))).set 123 (iA D 4 (upd (cfl 1 (-1)) 1 (-1))) = fL D N 10 (cfl 2 (-1)) from by rw [csts]; rfl) ?_
  refine wp_dup (q := 124) d_FG_init_123 rfl rfl ?_
  refine wp_iconst (q := 125) d_FG_init_124 rfl ic_2 ?_
  refine wp_iconst (q := 126) d_FG_init_125 rfl ic_m1 ?_
  refine wp_iast (q := 127) d_FG_init_126 rfl (show (fL D N 10 (cfl 2 (-1)))[123]? = some (iA D 4 (cfl 2 (-1))) from rfl) (by omega) (by decide) (show (fL D N 10 (cfl 2 (-1))).set 123 (iA D 4 (upd (cfl 2 (-1)) 2 (-1))) = fL D N 10 (cfl 3 (-1)) from by rw [csts]; rfl) ?_
  refine wp_dup (q := 128) d_FG_init_127 rfl rfl ?_
  refine wp_iconst (q := 129) d_FG_init_128 rfl ic_3 ?_
  refine wp_iconst (q := 130) d_FG_init_129 rfl ic_m1 ?_
  refine wp_iast (q := 131) d_FG_init_130 rfl (show (fL D N 10 (cfl 3 (-1)))[123]? = some (iA D 4 (cfl 3 (-1))) from rfl) (by omega) (by decide) (show (fL D N 10 (cfl 3 (-1))).set 123 (iA D 4 (upd (cfl 3 (-1)) 3 (-1))) = fL D N 10 (cfl 4 (-1)) from by rw [csts]; rfl) ?_
  refine wp_putF (q := 134) fl_FG_54 (fun _ _ _ h => h.1 rfl) rfl d_FG_init_131 rfl rfl (Nat.le_of_ble_eq_true rfl) rfl rfl (show (fL D N 10 (cfl 4 (-1))).set 0 (.inr (11, (fF N 10).set 17 (.ref (N + 123)))) = fL D N 11 (cfl 4 (-1)) from rfl) ?_
  refine wp_vret d_FG_init_134 rfl (Nat.le_refl _) (Nat.le_refl _) ?_
  exact hK
def c0 : T2 := fun k => if k = 4 then cfl 24 (nI 10) else if k = 10 then cfl 6 (-1) else if k = 20 then cfl 30 (-1) else if k = 29 then cfl 4 (-1) else fun _ => 0
def z0 : T2 := fun _ _ => 0
theorem bk0 (k : Nat) : bookC c0 k = fun _ => 0 := by
  funext i
  unfold bookC
  rw [if_neg (show ¬ k < (c0 32 7).toNatClampNeg from fun h => absurd h (Nat.not_lt_zero _))]
  repeat' split
  all_goals rfl
theorem by0 : (fun i => (c0 21 i).toInt8.toInt32) = fun _ => 0 := by
  funext i
  show ((0 : Int32).toInt8.toInt32) = 0
  decide
set_option maxHeartbeats 4000000 in
set_option maxRecDepth 100000 in
theorem encC0 {D : xD} {N : Nat} : fL D N 11 (cfl 4 (-1)) = encC D N c0 z0 z0 (fun _ => none) (fun _ => none) := by
  unfold encC encB
  rw [by0, show c0 11 = fun _ => 0 from rfl, show c0 31 = fun _ => 0 from rfl]
  simp only [bk0, slz]
  rfl
