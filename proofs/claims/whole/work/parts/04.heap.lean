def FL (own : String) (idx ci kf : Nat) (ty : FieldType) (fin : Bool) : Prop := ∃ (C : String) (T : u_T) (n : Nat) (ty0 : Nat → FieldType), classes[ci]? = some (C, T, n) ∧ kf < n ∧ Cond.fieldLink own idx (T kf).1 (T kf).2.1 (T kf).2.2.1 ∈ lw_good ∧ (∀ w ∈ u_ws C T n, w ∈ lw_good) ∧ (∀ k, k < n → parseFieldDescriptor (T k).2.2.1 = some (ty0 k)) ∧ (∀ a, a < n → ∀ b, b < n → a ≠ b → (T a).2.1 ≠ (T b).2.1) ∧ parseFieldDescriptor (T kf).2.2.1 = some ty ∧ (T kf).2.2.2 = fin ∧ (T kf).1 = C
section WH
variable {D : xD} {N : Nat} {l : Launch} {E : EX} {M : MD} {R : Room} {Qf : QF} {k n pc : Nat} {L : List (Nat × Value)} {st : List Value} {g : List va_E}
theorem wp_get {q i ci kf idx : Nat} {ty : FieldType} {fin : Bool} {fs : List Value} {v : Value} (hF : FL M.1.cls idx ci kf ty fin) (hd : decode M.2.1 pc = .ok (.getfield idx, 3)) (hq : pc + 3 = q) (hr : g[i]? = some (.inr (ci, fs))) (hv : fs[kf]? = some v) (h : Wp D N l E M R Qf k n q L (v :: st) g) : Wp D N l E M R Qf k n pc L (.ref (N + i) :: st) g := by
  subst hq
  intro p e s m args below meth c C H locs ls hH hS hl
  obtain ⟨Cn, T, nf, ty0, hc, hk, hlk, hin, hty, hnm, -⟩ := hF
  exact va_get (ws := [(N + i, .inr (ci, fs))]) C.1 C.2.1 C.2.2.2.2.1 hin C.2.2.2.1 C.2.2.2.2.2.1.1 (hH.one hr) 0 rfl hc kf hk (C.2.2.2.2.1 _ hlk) (fun _ h => h) hv hd (h p e s m args below meth c C H locs ls hH hS hl)
theorem wp_put {q i ci kf idx : Nat} {ty : FieldType} {fs : List Value} {v : Value} {g2 : List va_E} (hF : FL M.1.cls idx ci kf ty false) (hd : decode M.2.1 pc = .ok (.putfield idx, 3)) (hq : pc + 3 = q) (hr : g[i]? = some (.inr (ci, fs))) (hlt : kf < fs.length) (hn : narrow ty v = v) (hfit : fits ty v = true) (hg : g.set i (.inr (ci, fs.set kf v)) = g2) (h : Wp D N l E M R Qf k n q L st g2) : Wp D N l E M R Qf k n pc L (v :: .ref (N + i) :: st) g := by
  subst hq
  subst hg
  intro p e s m args below meth c C H locs ls hH hS hl
  obtain ⟨Cn, T, nf, ty0, hc, hk, hlk, hin, hty, hnm, hd1, hfin, -⟩ := hF
  have hK := C.2.2.2.2.2.1.1
  have hts := C.2.2.2.2.1
  have hap := va_apart (own := M.1.cls) hts hin ty0 hty hnm hK hc
  obtain ⟨r, h1, cell, q1, q2, q3, q4⟩ := hH.2 i _ hr
  have hr2 : r = (Cn, T, nf) := Option.some.inj (h1.symm.trans hc)
  subst hr2
  obtain ⟨hS2, hfc, kC, hkC, hkind⟩ := hK.1 ci _ hc
  obtain ⟨cf, kf2, fi, f, hi, hsl⟩ := hS2 kf hk
  have hlay := hts _ (hin _ (u_in_lay hk))
  unfold u_lay at hlay
  rw [if_neg (by rw [hfin]; decide)] at hlay
  have hst := (u_facts hfc hkC (u_lays hts hin hk) hi).1
  have h6 := u_store hfc hkC hkind hlay hi hd1 hn hfit
  refine W.putK C.1 C.2.1 (f := f) ⟨C.2.2.2.1, hts _ hlk, ⟨_, _, _, hi⟩, hst⟩ (by rw [q2]; exact h6) q1 q3 (by rw [hsl]; exact k2_hasslot (q4 kf hk)) rfl rfl hd fun H1 e1 e2 e3 => ?_
  rw [hsl] at e1 ⊢
  exact h p e s m args below meth c C H1 _ ls (hH.set hr ⟨_, hc, t_OB.to (V := updV (vp_V fs) kf v) ⟨_, e1, q2, q3, t_set q4 hap hk v⟩ (fun j _ => vp_updV_set hlt v j)⟩ e2 e3) (hS.put e2 e3 (Nat.le_add_right N i)) hl
theorem wp_putF {q i ci kf idx : Nat} {ty : FieldType} {fs : List Value} {v : Value} {g2 : List va_E} (hF : FL M.1.cls idx ci kf ty true) (hE : ∀ s a meth, E s a meth → meth.name = "<init>") (hown : classes[ci]?.map (fun r => r.1) = some M.1.cls) (hd : decode M.2.1 pc = .ok (.putfield idx, 3)) (hq : pc + 3 = q) (hr : g[i]? = some (.inr (ci, fs))) (hlt : kf < fs.length) (hn : narrow ty v = v) (hfit : fits ty v = true) (hg : g.set i (.inr (ci, fs.set kf v)) = g2) (h : Wp D N l E M R Qf k n q L st g2) : Wp D N l E M R Qf k n pc L (v :: .ref (N + i) :: st) g := by
  subst hq
  subst hg
  intro p e s m args below meth c C H locs ls hH hS hl
  obtain ⟨Cn, T, nf, ty0, hc, hk, hlk, hin, hty, hnm, hd1, hfin, hdc⟩ := hF
  have hK := C.2.2.2.2.2.1.1
  have hts := C.2.2.2.2.1
  have hap := va_apart (own := M.1.cls) hts hin ty0 hty hnm hK hc
  obtain ⟨r, h1, cell, q1, q2, q3, q4⟩ := hH.2 i _ hr
  have hr2 : r = (Cn, T, nf) := Option.some.inj (h1.symm.trans hc)
  subst hr2
  have hdecl : (T kf).1 = M.1.cls := by
    rw [hdc]
    rw [hc] at hown
    exact Option.some.inj hown
  obtain ⟨hS2, hfc, kC, hkC, hkind⟩ := hK.1 ci _ hc
  obtain ⟨cf, kf2, fi, f, hi, hsl⟩ := hS2 kf hk
  have hlay := hts _ (hin _ (u_in_lay hk))
  unfold u_lay at hlay
  rw [if_pos hfin] at hlay
  have hst := (u_facts hfc hkC (u_lays hts hin hk) hi).1
  have hcf : m.cls = cf := by
    obtain ⟨_, _, c', _, _, _, -, -, hf', -, -, -, hown2, -⟩ := Cond.laysFinal_spec hlay
    have e1 : c' = cf := by have := hi.symm.trans hf'; simp at this; exact this.1.symm
    rw [hdecl] at hown2
    rw [← e1]; exact Option.some.inj (C.2.2.2.1.symm.trans hown2)
  have h6 := u_fits hfc hkC hkind (Or.inr hlay) hi hd1 hn hfit
  refine W.putFinK C.1 C.2.1 C.2.2.2.1 (hts _ hlk) hi hst hcf (hE _ _ _ C.2.2.2.2.2.2.2.2.2) (by rw [q2]; exact h6) q1 q3 (by rw [hsl]; exact k2_hasslot (q4 kf hk)) rfl rfl hd fun H1 e1 e2 e3 => ?_
  rw [hsl] at e1 ⊢
  exact h p e s m args below meth c C H1 _ ls (hH.set hr ⟨_, hc, t_OB.to (V := updV (vp_V fs) kf v) ⟨_, e1, q2, q3, t_set q4 hap hk v⟩ (fun j _ => vp_updV_set hlt v j)⟩ e2 e3) (hS.put e2 e3 (Nat.le_add_right N i)) hl
theorem nI_vp {j m : Nat} (hj : j < m) (hm : m < 2147483648) : vp_in (nI j) m := vp_in_nI hj hm
theorem nI_cl {j m : Nat} (hj : j < m) (hm : m < 2147483648) : (nI j).toNatClampNeg = j := nI_clamp (by omega)
theorem wp_iald {q i j m' : Nat} {f : Nat → Int32} (hd : decode M.2.1 pc = .ok (.iaload, 1)) (hq : pc + 1 = q) (hr : g[i]? = some (.inl (D.2.1 0, m', .inl f))) (hj : j < m') (hm : m' < 2147483648) (h : Wp D N l E M R Qf k n q L (.int (f j) :: st) g) : Wp D N l E M R Qf k n pc L (.int (nI j) :: .ref (N + i) :: st) g := by
  subst hq
  intro p e s m args below meth c C H locs ls hH hS hl
  refine va_iald (ws := [(N + i, .inl (D.2.1 0, m', .inl f))]) C.1 C.2.1 C.2.2.2.2.2.1.1 (hH.one hr) 0 0 rfl rfl (nI_vp hj hm) hd ?_
  rw [nI_cl hj hm]
  exact (h p e s m args below meth c C H locs ls hH hS hl)
theorem wp_bald {q i j m' : Nat} {f : Nat → Int32} (hd : decode M.2.1 pc = .ok (.baload, 1)) (hq : pc + 1 = q) (hr : g[i]? = some (.inl (D.2.1 1, m', .inl f))) (hj : j < m') (hm : m' < 2147483648) (h : Wp D N l E M R Qf k n q L (.int (f j) :: st) g) : Wp D N l E M R Qf k n pc L (.int (nI j) :: .ref (N + i) :: st) g := by
  subst hq
  intro p e s m args below meth c C H locs ls hH hS hl
  refine va_bald (ws := [(N + i, .inl (D.2.1 1, m', .inl f))]) C.1 C.2.1 C.2.2.2.2.2.1.1 (hH.one hr) 0 1 rfl rfl (nI_vp hj hm) hd ?_
  rw [nI_cl hj hm]
  exact (h p e s m args below meth c C H locs ls hH hS hl)
theorem wp_zald {q i j m' : Nat} {f : Nat → Int32} (hd : decode M.2.1 pc = .ok (.baload, 1)) (hq : pc + 1 = q) (hr : g[i]? = some (.inl (D.2.1 3, m', .inl f))) (hj : j < m') (hm : m' < 2147483648) (h : Wp D N l E M R Qf k n q L (.int (f j) :: st) g) : Wp D N l E M R Qf k n pc L (.int (nI j) :: .ref (N + i) :: st) g := by
  subst hq
  intro p e s m args below meth c C H locs ls hH hS hl
  refine va_zald (ws := [(N + i, .inl (D.2.1 3, m', .inl f))]) C.1 C.2.1 C.2.2.2.2.2.1.1 (hH.one hr) 0 3 rfl rfl (nI_vp hj hm) hd ?_
  rw [nI_cl hj hm]
  exact (h p e s m args below meth c C H locs ls hH hS hl)
theorem wp_lald {q i j m' : Nat} {f : Nat → Int64} (hd : decode M.2.1 pc = .ok (.laload, 1)) (hq : pc + 1 = q) (hr : g[i]? = some (.inl (D.2.1 2, m', .inr (.inl f)))) (hj : j < m') (hm : m' < 2147483648) (h : Wp D N l E M R Qf k n q L (.long (f j) :: st) g) : Wp D N l E M R Qf k n pc L (.int (nI j) :: .ref (N + i) :: st) g := by
  subst hq
  intro p e s m args below meth c C H locs ls hH hS hl
  refine va_lald (ws := [(N + i, .inl (D.2.1 2, m', .inr (.inl f)))]) C.1 C.2.1 C.2.2.2.2.2.1.1 (hH.one hr) 0 2 rfl rfl (nI_vp hj hm) hd ?_
  rw [nI_cl hj hm]
  exact (h p e s m args below meth c C H locs ls hH hS hl)
theorem wp_aaldR {q i j m' : Nat} {f : Nat → Option Nat} (hd : decode M.2.1 pc = .ok (.aaload, 1)) (hq : pc + 1 = q) (hr : g[i]? = some (.inl (D.2.1 4, m', .inr (.inr (.inr (.inr f)))))) (hj : j < m') (hm : m' < 2147483648) (h : Wp D N l E M R Qf k n q L (va_rf (f j) :: st) g) : Wp D N l E M R Qf k n pc L (.int (nI j) :: .ref (N + i) :: st) g := by
  subst hq
  intro p e s m args below meth c C H locs ls hH hS hl
  have hin := nI_vp hj hm
  refine W.aald (v := va_rf (f j)) (ty := .object "FillAndGo$Ride") C.1 C.2.1 (hH.2 i _ hr) ((C.2.2.2.2.2.1.1.2 4 _ rfl).1 m' (fun j => va_rf (f j))) rfl (fun q => by cases q) (by show ¬ (nI j < 0 ∨ (arrV _ _ _).slots.size ≤ _); rw [arrV_size]; exact hin) (by show (arrV _ _ _).slots[_]? = _; rw [nI_cl hj hm, arrV_read _ _ hj]) rfl rfl hd (h p e s m args below meth c C H locs ls hH hS hl)
theorem wp_aaldL {q i j m' : Nat} {f : Nat → Option Nat} (hd : decode M.2.1 pc = .ok (.aaload, 1)) (hq : pc + 1 = q) (hr : g[i]? = some (.inl (D.2.1 5, m', .inr (.inr (.inr (.inr f)))))) (hj : j < m') (hm : m' < 2147483648) (h : Wp D N l E M R Qf k n q L (va_rf (f j) :: st) g) : Wp D N l E M R Qf k n pc L (.int (nI j) :: .ref (N + i) :: st) g := by
  subst hq
  intro p e s m args below meth c C H locs ls hH hS hl
  have hin := nI_vp hj hm
  refine W.aald (v := va_rf (f j)) (ty := .object "FillAndGo$Line") C.1 C.2.1 (hH.2 i _ hr) ((C.2.2.2.2.2.1.1.2 5 _ rfl).1 m' (fun j => va_rf (f j))) rfl (fun q => by cases q) (by show ¬ (nI j < 0 ∨ (arrV _ _ _).slots.size ≤ _); rw [arrV_size]; exact hin) (by show (arrV _ _ _).slots[_]? = _; rw [nI_cl hj hm, arrV_read _ _ hj]) rfl rfl hd (h p e s m args below meth c C H locs ls hH hS hl)
theorem wp_aaldK {q i j m' : Nat} {f : Nat → Option Nat} (hd : decode M.2.1 pc = .ok (.aaload, 1)) (hq : pc + 1 = q) (hr : g[i]? = some (.inl (D.2.1 6, m', .inr (.inr (.inr (.inr f)))))) (hj : j < m') (hm : m' < 2147483648) (h : Wp D N l E M R Qf k n q L (va_rf (f j) :: st) g) : Wp D N l E M R Qf k n pc L (.int (nI j) :: .ref (N + i) :: st) g := by
  subst hq
  intro p e s m args below meth c C H locs ls hH hS hl
  have hin := nI_vp hj hm
  refine W.aald (v := va_rf (f j)) (ty := .object "FillAndGo$Run") C.1 C.2.1 (hH.2 i _ hr) ((C.2.2.2.2.2.1.1.2 6 _ rfl).1 m' (fun j => va_rf (f j))) rfl (fun q => by cases q) (by show ¬ (nI j < 0 ∨ (arrV _ _ _).slots.size ≤ _); rw [arrV_size]; exact hin) (by show (arrV _ _ _).slots[_]? = _; rw [nI_cl hj hm, arrV_read _ _ hj]) rfl rfl hd (h p e s m args below meth c C H locs ls hH hS hl)
theorem wp_aaldA {q i j m' : Nat} {f : Nat → Option Nat} (hd : decode M.2.1 pc = .ok (.aaload, 1)) (hq : pc + 1 = q) (hr : g[i]? = some (.inl (D.2.1 7, m', .inr (.inr (.inr (.inr f)))))) (hj : j < m') (hm : m' < 2147483648) (h : Wp D N l E M R Qf k n q L (va_rf (f j) :: st) g) : Wp D N l E M R Qf k n pc L (.int (nI j) :: .ref (N + i) :: st) g := by
  subst hq
  intro p e s m args below meth c C H locs ls hH hS hl
  have hin := nI_vp hj hm
  refine W.aald (v := va_rf (f j)) (ty := .array .int) C.1 C.2.1 (hH.2 i _ hr) ((C.2.2.2.2.2.1.1.2 7 _ rfl).1 m' (fun j => va_rf (f j))) rfl (fun q => by cases q) (by show ¬ (nI j < 0 ∨ (arrV _ _ _).slots.size ≤ _); rw [arrV_size]; exact hin) (by show (arrV _ _ _).slots[_]? = _; rw [nI_cl hj hm, arrV_read _ _ hj]) rfl rfl hd (h p e s m args below meth c C H locs ls hH hS hl)
theorem wp_iast {q i j m' : Nat} {f : Nat → Int32} {x : Int32} {g2 : List va_E} (hd : decode M.2.1 pc = .ok (.iastore, 1)) (hq : pc + 1 = q) (hr : g[i]? = some (.inl (D.2.1 0, m', .inl f))) (hj : j < m') (hm : m' < 2147483648) (hg : g.set i (.inl (D.2.1 0, m', .inl (upd f j x))) = g2) (h : Wp D N l E M R Qf k n q L st g2) : Wp D N l E M R Qf k n pc L (.int x :: .int (nI j) :: .ref (N + i) :: st) g := by
  subst hq
  subst hg
  intro p e s m args below meth c C H locs ls hH hS hl
  have hin := nI_vp hj hm
  refine W.iast C.1 C.2.1 (hH.2 i _ hr) ((C.2.2.2.2.2.1.1.2 0 _ rfl).1 m' (fun j => .int (f j))) (fun q => by cases q) (by show ¬ (nI j < 0 ∨ (arrV _ _ _).slots.size ≤ _); rw [arrV_size]; exact hin) rfl rfl hd fun H1 e1 z oq => ?_
  refine h p e s m args below meth c C H1 _ ls (hH.set hr ?_ z oq) (hS.put z oq (Nat.le_add_right N i)) hl
  show H1[N + i]? = some (vp_cell _ _)
  rw [e1]
  rw [vp_cell_i, vp_cell_i, arrV_store, nI_cl hj hm]
  congr 2
  funext q
  by_cases hq : q = j
  · subst hq
    simp [updV, upd]
  · simp [updV, upd, hq]
theorem wp_last {q i j m' : Nat} {f : Nat → Int64} {x : Int64} {g2 : List va_E} (hd : decode M.2.1 pc = .ok (.lastore, 1)) (hq : pc + 1 = q) (hr : g[i]? = some (.inl (D.2.1 2, m', .inr (.inl f)))) (hj : j < m') (hm : m' < 2147483648) (hg : g.set i (.inl (D.2.1 2, m', .inr (.inl (vp_updL f j x)))) = g2) (h : Wp D N l E M R Qf k n q L st g2) : Wp D N l E M R Qf k n pc L (.long x :: .int (nI j) :: .ref (N + i) :: st) g := by
  subst hq
  subst hg
  intro p e s m args below meth c C H locs ls hH hS hl
  have hin := nI_vp hj hm
  refine W.last C.1 C.2.1 (hH.2 i _ hr) ((C.2.2.2.2.2.1.1.2 2 _ rfl).1 m' (fun j => .long (f j))) (fun q => by cases q) (by show ¬ (nI j < 0 ∨ (arrV _ _ _).slots.size ≤ _); rw [arrV_size]; exact hin) rfl rfl hd fun H1 e1 z oq => ?_
  refine h p e s m args below meth c C H1 _ ls (hH.set hr ?_ z oq) (hS.put z oq (Nat.le_add_right N i)) hl
  show H1[N + i]? = some (vp_cell _ _)
  rw [e1]
  rw [vp_cell_l, vp_cell_l, arrV_store, nI_cl hj hm]
  congr 2
  funext q
  by_cases hq : q = j
  · subst hq
    simp [updV, vp_updL]
  · simp [updV, vp_updL, hq]
theorem wp_bast {q i j m' : Nat} {f : Nat → Int32} {x x2 : Int32} {g2 : List va_E} (hd : decode M.2.1 pc = .ok (.bastore, 1)) (hq : pc + 1 = q) (hr : g[i]? = some (.inl (D.2.1 1, m', .inl f))) (hj : j < m') (hm : m' < 2147483648) (hx : narrow .byte (.int x) = .int x2) (hg : g.set i (.inl (D.2.1 1, m', .inl (upd f j x2))) = g2) (h : Wp D N l E M R Qf k n q L st g2) : Wp D N l E M R Qf k n pc L (.int x :: .int (nI j) :: .ref (N + i) :: st) g := by
  subst hq
  subst hg
  intro p e s m args below meth c C H locs ls hH hS hl
  have hin := nI_vp hj hm
  refine W.bast C.1 C.2.1 (hH.2 i _ hr) ((C.2.2.2.2.2.1.1.2 1 _ rfl).1 m' (fun j => .int (f j))) (fun q => by cases q) (by show ¬ (nI j < 0 ∨ (arrV _ _ _).slots.size ≤ _); rw [arrV_size]; exact hin) rfl rfl hd fun H1 e1 z oq => ?_
  refine h p e s m args below meth c C H1 _ ls (hH.set hr ?_ z oq) (hS.put z oq (Nat.le_add_right N i)) hl
  show H1[N + i]? = some (vp_cell _ _)
  rw [e1, hx]
  rw [vp_cell_i, vp_cell_i, arrV_store, nI_cl hj hm]
  congr 2
  funext q
  by_cases hq : q = j
  · subst hq
    simp [updV, upd]
  · simp [updV, upd, hq]
theorem wp_zast {q i j m' : Nat} {f : Nat → Int32} {x x2 : Int32} {g2 : List va_E} (hd : decode M.2.1 pc = .ok (.bastore, 1)) (hq : pc + 1 = q) (hr : g[i]? = some (.inl (D.2.1 3, m', .inl f))) (hj : j < m') (hm : m' < 2147483648) (hx : narrow .boolean (.int x) = .int x2) (hg : g.set i (.inl (D.2.1 3, m', .inl (upd f j x2))) = g2) (h : Wp D N l E M R Qf k n q L st g2) : Wp D N l E M R Qf k n pc L (.int x :: .int (nI j) :: .ref (N + i) :: st) g := by
  subst hq
  subst hg
  intro p e s m args below meth c C H locs ls hH hS hl
  have hin := nI_vp hj hm
  refine W.zast C.1 C.2.1 (hH.2 i _ hr) ((C.2.2.2.2.2.1.1.2 3 _ rfl).1 m' (fun j => .int (f j))) (fun q => by cases q) (by show ¬ (nI j < 0 ∨ (arrV _ _ _).slots.size ≤ _); rw [arrV_size]; exact hin) rfl rfl hd fun H1 e1 z oq => ?_
  refine h p e s m args below meth c C H1 _ ls (hH.set hr ?_ z oq) (hS.put z oq (Nat.le_add_right N i)) hl
  show H1[N + i]? = some (vp_cell _ _)
  rw [e1, hx]
  rw [vp_cell_i, vp_cell_i, arrV_store, nI_cl hj hm]
  congr 2
  funext q
  by_cases hq : q = j
  · subst hq
    simp [updV, upd]
  · simp [updV, upd, hq]
theorem wp_aast (t0 : Nat) {q i j i2 ci m' : Nat} {r : vw_C} {vs : List Value} {f : Nat → Option Nat} {g2 : List va_E} (ht : (x_tys D.2.1)[t0]? = some (D.2.1 t0, .object r.1)) (hd : decode M.2.1 pc = .ok (.aastore, 1)) (hq : pc + 1 = q) (hr : g[i]? = some (.inl (D.2.1 t0, m', .inr (.inr (.inr (.inr f)))))) (hr2 : g[i2]? = some (.inr (ci, vs))) (hc : classes[ci]? = some r) (hj : j < m') (hm : m' < 2147483648) (hg : g.set i (.inl (D.2.1 t0, m', .inr (.inr (.inr (.inr (va_up f j (some (N + i2)))))))) = g2) (h : Wp D N l E M R Qf k n q L st g2) : Wp D N l E M R Qf k n pc L (.ref (N + i2) :: .int (nI j) :: .ref (N + i) :: st) g := by
  subst hq
  subst hg
  intro p e s m args below meth c C H locs ls hH hS hl
  obtain ⟨r', hr', cellV, g1, g2, g3, -⟩ := hH.2 i2 _ hr2
  have hK := C.2.2.2.2.2.1.1
  have hcls := (hK.1 ci r hc).2
  obtain ⟨kA, comp, k1, k2, k3, -⟩ := (hK.2 t0 _ ht).2
  have hcomp : comp = D.1.1 ci := Option.some.inj (k3.symm.trans hcls.1)
  subst hcomp
  obtain ⟨kC, hkC, -⟩ := hcls.2
  refine W.aast C.1 C.2.1 (hH.2 i _ hr) (fun q h => by cases h) (fun h => by cases h) k1 k2 rfl hkC ⟨nI_pos (by omega), by show _ < (arrV _ _ _).slots.size; rw [arrV_size, nI_cl hj hm]; exact hj⟩ g1 (fun q h => by rw [g3] at h; cases h) (by rw [g2]; exact hkC) (by rw [g2]; exact va_assign hcls) rfl rfl hd fun H1 e1 z oq => ?_
  refine h p e s m args below meth c C H1 _ ls (hH.set hr ?_ z oq) (hS.put z oq (Nat.le_add_right N i)) hl
  show H1[N + i]? = some (vp_cell _ _)
  rw [e1]
  rw [vp_cell_q, vp_cell_q, arrV_store, nI_cl hj hm]
  congr 2
  funext q
  by_cases hq : q = j
  · subst hq
    simp [updV, va_up, va_rf]
  · simp [updV, va_up, hq]
theorem wp_aastN (t0 : Nat) {q i j m' : Nat} {Cn : String} {f : Nat → Option Nat} {g2 : List va_E} (ht : (x_tys D.2.1)[t0]? = some (D.2.1 t0, .object Cn)) (hd : decode M.2.1 pc = .ok (.aastore, 1)) (hq : pc + 1 = q) (hr : g[i]? = some (.inl (D.2.1 t0, m', .inr (.inr (.inr (.inr f)))))) (hj : j < m') (hm : m' < 2147483648) (hg : g.set i (.inl (D.2.1 t0, m', .inr (.inr (.inr (.inr (va_up f j none)))))) = g2) (h : Wp D N l E M R Qf k n q L st g2) : Wp D N l E M R Qf k n pc L (.null :: .int (nI j) :: .ref (N + i) :: st) g := by
  subst hq
  subst hg
  intro p e s m args below meth c C H locs ls hH hS hl
  have hin := nI_vp hj hm
  refine va_WaastN (C := Cn) C.1 C.2.1 (hH.2 i _ hr) ((C.2.2.2.2.2.1.1.2 t0 _ ht).1 m' (fun j => va_rf (f j))) (fun h => by cases h) (by show ¬ (nI j < 0 ∨ (arrV _ _ _).slots.size ≤ _); rw [arrV_size]; exact hin) rfl rfl hd fun H1 e1 z oq => ?_
  refine h p e s m args below meth c C H1 _ ls (hH.set hr ?_ z oq) (hS.put z oq (Nat.le_add_right N i)) hl
  show H1[N + i]? = some (vp_cell _ _)
  rw [e1]
  rw [vp_cell_q, vp_cell_q, arrV_store, nI_cl hj hm]
  congr 2
  funext q
  by_cases hq : q = j
  · subst hq
    simp [updV, va_up, va_rf]
  · simp [updV, va_up, hq]
theorem wp_new {q ci idx nf : Nat} {Cn : String} {T : u_T} {fs : List Value} {ty0 : Nat → FieldType} (hc : classes[ci]? = some (Cn, T, nf)) (hin : ∀ w ∈ u_ws Cn T nf, w ∈ lw_good) (hty : ∀ k, k < nf → parseFieldDescriptor (T k).2.2.1 = some (ty0 k)) (hcl : Cond.classLink M.1.cls idx Cn ∈ lw_good) (hins : Cond.instantiable Cn nf ∈ lw_good) (hini : Cond.initialized Cn ∈ lw_good) (hd : decode M.2.1 pc = .ok (.new idx, 3)) (hq : pc + 3 = q) (hfs : ∀ j, j < nf → defaultValue (ty0 j) = vp_V fs j) (hcells : k + 1 ≤ R.cells) (hslots : n + nf ≤ R.slots) (h : Wp D N l E M R Qf (k + 1) (n + nf) q L (.ref (N + g.length) :: st) (g ++ [.inr (ci, fs)])) : Wp D N l E M R Qf k n pc L st g := by
  subst hq
  intro p e s m args below meth c C H locs ls hH hS hl
  have hK := C.2.2.2.2.2.1.1
  have hts := C.2.2.2.2.1
  have hKn := hK.1 ci _ hc
  refine W.newcK C.1 C.2.1 C.2.2.2.1 (hts _ hcl) (hts _ hins) (hts _ hini) rfl hd hcells hslots hKn.2.1 hH.1 fun H1 kC hkC e1 z1 o1 => ?_
  rw [← hH.1] at z1
  have o1 : ∀ q, q < H.size → H1[q]? = H[q]? := fun q hq => o1 q (by rw [← hH.1]; exact hq)
  refine h p e s m args below meth c C H1 locs ls (hH.push ?_ z1 o1) ⟨Nat.le_trans hS.1 (by omega), fun x h1 h2 => (o1 x (Nat.lt_of_lt_of_le h1 hS.1)).trans (hS.2.1 x h1 h2), hS.2.2⟩ hl
  exact ⟨_, hc, (u_born ty0 hts hin hKn hkC e1 hty).to hfs⟩
theorem wp_newa (t0 : Nat) {q N' : Nat} {atype : ArrayType} {ty : FieldType} {a0 : vp_A} {z : Int32} (hz : z = nI N') (hty : newarray.typeOf atype = ty) (ht : (x_tys D.2.1)[t0]? = some (D.2.1 t0, ty)) (hw : Cond.arrayClass ty ∈ lw_good) (hd : decode M.2.1 pc = .ok (.newarray atype, 2)) (hq : pc + 2 = q) (ha : ∀ cA : ClassId, vp_cell cA a0 = arrV cA N' (fun _ => defaultValue ty)) (hb : N' * componentBytes ty ≤ 536870912) (hb2 : N' < 2147483648) (hcells : k + 1 ≤ R.cells) (hslots : n + N' ≤ R.slots) (h : Wp D N l E M R Qf (k + 1) (n + N') q L (.ref (N + g.length) :: st) (g ++ [.inl (D.2.1 t0, a0)])) : Wp D N l E M R Qf k n pc L (.int z :: st) g := by
  subst hq
  subst hz
  subst hty
  intro p e s m args below meth c C H locs ls hH hS hl
  have hK := C.2.2.2.2.2.1.1
  have hts := C.2.2.2.2.1
  refine va_newaK C.1 C.2.1 (hts _ hw) rfl hd rfl (nI_pos hb2) (nI_clamp hb2) hb hcells hslots hH.1 fun H1 cA e1 z1 o1 hAr hNm => ?_
  have hcA : cA = D.2.1 t0 := by
    have h2 := (hK.2 t0 _ ht).2
    have h3 : s.vm.findClass ("[" ++ (newarray.typeOf atype).toString) = some (D.2.1 t0) := by cases atype <;> exact h2
    exact Option.some.inj (hNm.symm.trans h3)
  subst hcA
  rw [← hH.1] at z1
  have o1 : ∀ q, q < H.size → H1[q]? = H[q]? := fun q hq => o1 q (by rw [← hH.1]; exact hq)
  refine h p e s m args below meth c C H1 locs ls (hH.push ?_ z1 o1) ⟨Nat.le_trans hS.1 (by omega), fun x h1 h2 => (o1 x (Nat.lt_of_lt_of_le h1 hS.1)).trans (hS.2.1 x h1 h2), hS.2.2⟩ hl
  show H1[N + g.length]? = some (vp_cell _ _)
  rw [ha]
  exact e1
theorem wp_anew (t0 : Nat) {q idx N' : Nat} {Cn : String} {z : Int32} (hz : z = nI N') (ht : (x_tys D.2.1)[t0]? = some (D.2.1 t0, .object Cn)) (hw : Cond.classLink M.1.cls idx Cn ∈ lw_good) (hw2 : Cond.arrayOver (.object Cn) ∈ lw_good) (hd : decode M.2.1 pc = .ok (.anewarray idx, 3)) (hq : pc + 3 = q) (hb : N' * 4 ≤ 536870912) (hb2 : N' < 2147483648) (hcells : k + 1 ≤ R.cells) (hslots : n + N' ≤ R.slots) (h : Wp D N l E M R Qf (k + 1) (n + N') q L (.ref (N + g.length) :: st) (g ++ [.inl (D.2.1 t0, N', .inr (.inr (.inr (.inr (fun _ => none)))))])) : Wp D N l E M R Qf k n pc L (.int z :: st) g := by
  subst hq
  subst hz
  intro p e s m args below meth c C H locs ls hH hS hl
  have hK := C.2.2.2.2.2.1.1
  have hts := C.2.2.2.2.1
  have hcl : (nI N').toNatClampNeg = N' := nI_clamp hb2
  refine W.anew C.1 C.2.1 C.2.2.2.1 (hts _ hw) (hts _ hw2) rfl hd rfl (nI_pos hb2) (by rw [hcl]; exact hb) hcells (by rw [hcl]; exact hslots) fun cA kA comp f1 f2 f3 f4 => ?_
  have hcA : cA = D.2.1 t0 := by
    obtain ⟨_, _, _, _, _, h3⟩ := (hK.2 t0 _ ht).2
    exact Option.some.inj (f1.symm.trans h3)
  subst hcA
  rw [hcl]
  generalize hH1 : H.push ({ cls := D.2.1 t0, slots := Array.replicate N' .null, vm := .none } : Cell) = H1
  have z1 : H1.size = H.size + 1 := by rw [← hH1, Array.size_push]
  have e1 : H1[H.size]? = some (arrV (D.2.1 t0) N' (fun _ => .null)) := by rw [← hH1, Array.getElem?_push_size, ← arrV_new]
  have o1 : ∀ q : Nat, q < H.size → H1[q]? = H[q]? := fun q hq => by rw [← hH1, Array.getElem?_push, if_neg (Nat.ne_of_lt hq)]
  have hsz := hH.1
  refine W.eq (g2 := F0 m (pc + 3) ls (.ref (N + g.length) :: st)) (by rw [hsz]) ?_
  refine h p e s m args below meth c C H1 locs ls (hH.push ?_ z1 o1) ⟨Nat.le_trans hS.1 (by omega), fun x h1 h2 => (o1 x (Nat.lt_of_lt_of_le h1 hS.1)).trans (hS.2.1 x h1 h2), hS.2.2⟩ hl
  show H1[N + g.length]? = some (vp_cell _ _)
  rw [vp_cell_q, ← hsz]
  exact e1
end WH
