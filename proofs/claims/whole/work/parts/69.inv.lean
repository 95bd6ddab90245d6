def IV (c : T2) (P Q : FN) (q nb m mq nm tu e nk tp : Nat) : Prop :=
  (c 32 1 = nI nb ∧ nb ≤ 12 ∧ SE c ∧ ∀ b, nb ≤ b → b < 12 → c 5 b = nI 0) ∧ (WV c P nb m ∧ m ≤ 14400 ∧ St P q) ∧ (WV c Q nb mq ∧ mq ≤ 14400 ∧ St Q q) ∧ TI c ∧ CI c ∧ (∀ s, s < 4 → isN (c 30 s) 41) ∧ GI c ∧
  (c 32 4 = nI nm ∧ nm ≤ 6 ∧ c 32 6 = nI tu ∧ ((nm = 0 ∧ tu = 0) ∨ tu < nm) ∧ c 32 5 = nI e ∧ (nm = 0 ∨ 1 ≤ e) ∧ e < 1000 ∧ ∀ i, i < 6 → c 14 i = nI 0 ∨ c 14 i = nI 1) ∧
  (c 32 7 = nI nk ∧ nk ≤ 30 ∧ ∀ k, nk ≤ k → k < 30 → c 20 k = -1) ∧ (c 32 8 = nI tp ∧ tp ≤ 160 ∧ TBy c tp)
def IE (c : T2) (P Q : FN) (q : Nat) : Prop := ∃ nb m mq nm tu e nk tp, IV c P Q q nb m mq nm tu e nk tp
theorem isN_upd {f : FN} {k i b : Nat} {v : Int32} (h : isN (f i) b) (hv : isN v b) : isN (upd f k v i) b := by
  unfold upd
  split
  · exact hv
  · exact h
theorem inn_N {x : Int32} {b : Nat} (h : inn x b) (hb : b < 1000000000) : isN x (b + 1) := by
  obtain ⟨a, ha, rfl⟩ := nI_btw (by omega) h.1 h.2
  exact isN_of (by omega) (by omega)
theorem btw_N {x : Int32} {b : Nat} (h : btw (nI 1) x (nI b)) (hb : b < 1000000000) : isN x (b + 1) := by
  obtain ⟨a, h1, ha, rfl⟩ := nI_btw1 (by omega) h.1 h.2
  exact isN_of (by omega) (by omega)
theorem nn {p : Prop} (h : ¬ ¬ p) : p := Classical.byContradiction h
section IVS
variable {c : T2} {P Q : FN} {q nb m mq nm tu e nk tp : Nat}
theorem IE.mono {r : Nat} (h : IE c P Q q) (hq : q ≤ r) : IE c P Q r := by
  obtain ⟨nb, m, mq, nm, tu, e, nk, tp, h1, ⟨a, b, d⟩, ⟨a2, b2, d2⟩, h4⟩ := h
  exact ⟨nb, m, mq, nm, tu, e, nk, tp, h1, ⟨a, b, d.mono hq⟩, ⟨a2, b2, d2.mono hq⟩, h4⟩
theorem iv_same (h : IV c P Q q nb m mq nm tu e nk tp) : IE c P Q q := ⟨_, _, _, _, _, _, _, _, h⟩
theorem iv_road (h : IV c P Q q nb m mq nm tu e nk tp) (a b n : Int32) : IE (sp_road c a b n).2 P Q q := by
  unfold sp_road
  split
  · exact iv_same h
  · split
    · exact iv_same h
    · rename_i hn
      have hn2 : isN n 61 := inn_N (nn (fun g => hn (Or.inr g))) (by decide)
      obtain ⟨a1, a2, a3, a4, a5, a6, a7, a8, a9, a10⟩ := h
      exact ⟨_, _, _, _, _, _, _, _, a1, a2, a3, ⟨fun i hi => ⟨isN_upd (isN_upd (a4.1 i hi).1 hn2) hn2, (a4.1 i hi).2⟩, a4.2.1, a4.2.2⟩, a5, a6, a7, a8, a9, a10⟩
theorem iv_jam (h : IV c P Q q nb m mq nm tu e nk tp) (a b : Int32) : IE (sp_jam c a b).2 P Q q := by
  unfold sp_jam
  split
  · exact iv_same h
  · rename_i hn
    have hn2 : isN b 51 := btw_N (nn (fun g => hn (Or.inr g))) (by decide)
    obtain ⟨a1, a2, a3, a4, a5, a6, a7, a8, a9, a10⟩ := h
    exact ⟨_, _, _, _, _, _, _, _, a1, a2, a3, ⟨a4.1, fun i hi => isN_upd (a4.2.1 i hi) hn2, a4.2.2⟩, a5, a6, a7, a8, a9, a10⟩
theorem iv_people (h : IV c P Q q nb m mq nm tu e nk tp) (a b n : Int32) : IE (sp_people c a b n).2 P Q q := by
  unfold sp_people
  split
  · exact iv_same h
  · split
    · exact iv_same h
    · rename_i hn
      have hn2 : isN n 100 := inn_N (nn (fun g => hn (Or.inr g))) (by decide)
      obtain ⟨a1, a2, a3, a4, a5, a6, a7, a8, a9, a10⟩ := h
      exact ⟨_, _, _, _, _, _, _, _, a1, a2, a3, ⟨fun i hi => ⟨(a4.1 i hi).1, isN_upd (a4.1 i hi).2 hn2⟩, a4.2.1, a4.2.2⟩, a5, a6, a7, a8, a9, a10⟩
theorem iv_rain (h : IV c P Q q nb m mq nm tu e nk tp) (r : Int32) : IE c (sp_rain c P r).2 Q q := by
  unfold sp_rain
  split
  · exact iv_same h
  · obtain ⟨a1, ⟨b1, b2, b3⟩, a3⟩ := h
    exact ⟨_, _, _, _, _, _, _, _, a1, ⟨b1.put (by unfold crit; omega) (by unfold gcr; omega), b2, b3.put (by unfold scr; omega)⟩, a3⟩
theorem GV.cg {c2 : T2} {B w1 w2 w3 : Nat} (h : GV c P B w1 w2 w3) (h5 : ∀ b, b < 12 → tn (c 5 b) ≤ tn (c2 5 b)) : GV c2 P B w1 w2 w3 := ⟨h.1, h.2.1, fun b hb => (h.2.2.1 b hb).le (by have := h5 b hb; omega), h.2.2.2⟩
theorem WI.wk {nb2 : Nat} (h : WI P nb m) (hn : nb ≤ nb2) : WI P nb2 m := ⟨h.1, h.2.1, fun b h1 h2 => h.2.2 b (by omega) h2⟩
theorem iv_bus1 (h : IV c P Q q nb m mq nm tu e nk tp) (s w a f : Int32) : IV (sp_bus c nb s w a f).2 P Q q (if (sp_bus c nb s w a f).1 < 0 then nb else nb + 1) m mq nm tu e nk tp := by
  have e2 : (-2 : Int32) < 0 := by decide
  have e4 : (-4 : Int32) < 0 := by decide
  unfold sp_bus
  split
  · first | exact h | (rw [if_pos e2]; exact h) | (dsimp only; rw [if_pos e2]; exact h)
  · rename_i hx
    split
    · first | exact h | (rw [if_pos e4]; exact h) | (dsimp only; rw [if_pos e4]; exact h)
    · rename_i h12
      obtain ⟨⟨n1, n2, n3, n4⟩, ⟨b1, b2, b3⟩, ⟨d1, d2, d3⟩, a4, a5, a6, a7, a8, a9, a10⟩ := h
      dsimp only
      rw [if_neg (nI_pos (by omega))]
      have hs : isN s 41 := btw_N (nn (fun g => hx (Or.inl (Or.inl g)))) (by decide)
      have h5 : ∀ b, b < 12 → tn (c 5 b) ≤ tn (upd (c 5) nb s b) := fun b hb => by
        unfold upd
        split
        · rename_i eb; rw [eb, n4 nb (Nat.le_refl _) (by omega), show tn (nI 0) = 0 by decide]; exact Nat.zero_le _
        · exact Nat.le_refl _
      refine ⟨⟨by (try dsimp only); rw [tput_eq, upd_eq], by omega, fun b hb => isN_upd (n3 b hb) hs, fun b h1 h2 => ?_⟩, ⟨⟨b1.1.wk (Nat.le_succ _), b1.2.cg h5⟩, b2, b3⟩, ⟨⟨d1.1.wk (Nat.le_succ _), d1.2.cg h5⟩, d2, d3⟩, a4, a5, a6, a7, a8, a9, a10⟩
      show upd (c 5) nb s b = nI 0
      rw [upd_ne _ _ (by omega)]
      exact n4 b (by omega) h2
theorem iv_bus (h : IV c P Q q nb m mq nm tu e nk tp) (s w a f : Int32) : IE (sp_bus c nb s w a f).2 P Q q := iv_same (iv_bus1 h s w a f)
theorem iv_bsR (s : Nat) (fr : Int32) (sz : Nat) : ∀ (f k w : Nat) (c : T2) (nb : Nat), IV c P Q q nb m mq nm tu e nk tp → IE (bsR s fr sz f k w c nb).2 P Q q
  | 0, _, _, c, nb, h => iv_same h
  | f + 1, k, w, c, nb, h => by
    rw [bsR]
    split
    · exact iv_same h
    · exact iv_bsR s fr sz f (k + 1) _ _ _ (iv_bus1 h _ _ _ _)
theorem iv_buses (h : IV c P Q q nb m mq nm tu e nk tp) (s t fr n : Int32) : IE (sp_buses c nb s t fr n).2 P Q q := by
  unfold sp_buses
  split
  · exact iv_same h
  · split
    · exact iv_same h
    · split
      · exact iv_same h
      · exact iv_bsR _ _ _ _ _ _ _ _ h
theorem inb_ex (hnb : c 32 1 = nI nb) (h12 : nb ≤ 12) {b : Int32} (h : inb c b) : ∃ a, a < nb ∧ b = nI a := (inb_iff hnb (by omega)).mp h
theorem iv_queue (h : IV c P Q q nb m mq nm tu e nk tp) (hq : q < 800000000) (b s : Int32) : IE c (sp_queue c P b s).2 Q (q + 1) := by
  unfold sp_queue
  split
  · exact (iv_same h).mono (Nat.le_succ _)
  · rename_i hx
    split
    · exact (iv_same h).mono (Nat.le_succ _)
    · obtain ⟨⟨n1, n2, n3, n4⟩, ⟨b1, b2, b3⟩, ⟨d1, d2, d3⟩, a4⟩ := h
      obtain ⟨b, hb, rfl⟩ := inb_ex n1 n2 (nn (fun g => hx (Or.inl g)))
      have hs : inn s 5 := nn (fun g => hx (Or.inr g))
      obtain ⟨s, hs5, rfl⟩ := nI_btw (by decide) hs.1 hs.2
      rw [tnt (show b < 12 by omega), tnl hs5]
      exact ⟨_, _, _, _, _, _, _, _, ⟨n1, n2, n3, n4⟩, ⟨b1.line hb n2 (by omega) n3, b2, b3.line (by omega) (by omega) (by omega)⟩, ⟨d1, d2, d3.mono (Nat.le_succ _)⟩, a4⟩
theorem WV.st {b k : Nat} (h : WV c P nb m) (hb : b < nb) (h12 : nb ≤ 12) (hk5 : k < 5) (hk : k = 3 ∨ k = 4 → ∃ r, r < 2000 ∧ P (132 + b) = nI (r + 1)) : WV c (upd P (72 + b) (nI k)) nb m := by
  refine ⟨⟨by rw [upd_ne _ _ (by omega)]; exact h.1.1, fun b2 hb2 => ?_, fun b2 h1 h2 => by rw [upd_ne _ _ (by omega)]; exact h.1.2.2 b2 h1 h2⟩, h.2.put (by unfold gcr; omega)⟩
  obtain ⟨g1, g2, g3, g4⟩ := h.1.2.1 b2 hb2
  rw [upd_ne _ _ (show 84 + b2 ≠ 72 + b by omega), upd_ne _ _ (show 108 + b2 ≠ 72 + b by omega), upd_ne _ _ (show 156 + b2 ≠ 72 + b by omega), upd_ne _ _ (show 132 + b2 ≠ 72 + b by omega)]
  refine ⟨g1, g2, g3, ?_⟩
  by_cases eb : b2 = b
  · rw [eb, upd_eq]
    intro g
    refine hk ?_
    rcases g with g | g
    · exact Or.inl ((nI_eq (by omega) (by decide)).mp g)
    · exact Or.inr ((nI_eq (by omega) (by decide)).mp g)
  · rw [upd_ne _ _ (by omega)]; exact g4
theorem iv_rest (h : IV c P Q q nb m mq nm tu e nk tp) (b : Int32) : IE c (sp_rest c P b).2 Q q := by
  unfold sp_rest
  split
  · exact iv_same h
  · rename_i hx
    split
    · exact iv_same h
    · obtain ⟨⟨n1, n2, n3, n4⟩, ⟨b1, b2, b3⟩, a3⟩ := h
      obtain ⟨b, hb, rfl⟩ := inb_ex n1 n2 (nn hx)
      rw [tnt (show b < 12 by omega)]
      exact ⟨_, _, _, _, _, _, _, _, ⟨n1, n2, n3, n4⟩, ⟨b1.st hb n2 (by decide) (fun g => by omega), b2, b3.does (by omega) (by decide)⟩, a3⟩
theorem iv_hold (h : IV c P Q q nb m mq nm tu e nk tp) (b n : Int32) : IE c (sp_hold c P b n).2 Q q := by
  unfold sp_hold
  split
  · exact iv_same h
  · rename_i hx
    split
    · exact iv_same h
    · split
      · exact iv_same h
      · rename_i h3
        obtain ⟨⟨n1, n2, n3, n4⟩, ⟨b1, b2, b3⟩, a3⟩ := h
        obtain ⟨b, hb, rfl⟩ := inb_ex n1 n2 (nn hx)
        rw [tnt (show b < 12 by omega)] at h3 ⊢
        have hl := (b1.1.2.1 b (by omega)).2.2.2 (Or.inl (nn h3))
        exact ⟨_, _, _, _, _, _, _, _, ⟨n1, n2, n3, n4⟩, ⟨(b1.st hb n2 (by decide) (fun _ => hl)).put (by unfold crit; omega) (by unfold gcr; omega), b2, (b3.does (by omega) (by decide)).put (by unfold scr; omega)⟩, a3⟩
theorem iv_jump (h : IV c P Q q nb m mq nm tu e nk tp) (b t : Int32) : IE c (sp_jump c P nb b t).2 Q q := by
  unfold sp_jump
  split
  · exact iv_same h
  · rename_i hx
    split
    · exact iv_same h
    · split
      · exact iv_same h
      · split
        · exact iv_same h
        · split
          · exact iv_same h
          · obtain ⟨⟨n1, n2, n3, n4⟩, ⟨b1, b2, b3⟩, a3⟩ := h
            obtain ⟨b, hb, rfl⟩ := inb_ex n1 n2 (nn hx)
            rw [tnt (show b < 12 by omega)]
            exact ⟨_, _, _, _, _, _, _, _, ⟨n1, n2, n3, n4⟩, ⟨(b1.put (by unfold crit; omega) (by unfold gcr; omega)).put (by unfold crit; omega) (by unfold gcr; omega), b2, (b3.put (by unfold scr; omega)).put (by unfold scr; omega)⟩, a3⟩
theorem iv_wants (h : IV c P Q q nb m mq nm tu e nk tp) (b k : Int32) : IE (sp_wants c b k).2 P Q q := by
  unfold sp_wants
  split
  · exact iv_same h
  · split
    · exact iv_same h
    · rename_i hn
      have hn2 : isN k 6 := inn_N (nn hn) (by decide)
      obtain ⟨a1, a2, a3, a4, a5, a6, a7, a8, a9, a10⟩ := h
      exact ⟨_, _, _, _, _, _, _, _, a1, a2, a3, ⟨a4.1, a4.2.1, fun i hi => isN_upd (a4.2.2 i hi) hn2⟩, a5, a6, a7, a8, a9, a10⟩
theorem bv_N (w : Int64) (k : Nat) : isN (bv w k) 256 := by
  unfold bv
  have h : ∀ x : Int64, isN ((x &&& 255).toInt32) 256 := by
    intro x
    have hb : (x &&& 255).toInt.toNat < 256 ∧ 0 ≤ (x &&& 255).toInt := by
      have e : (x &&& 255).toBitVec = x.toBitVec &&& 255#64 := rfl
      have hn : (x.toBitVec &&& 255#64).toNat < 256 := by
        rw [BitVec.toNat_and]
        exact Nat.lt_of_le_of_lt Nat.and_le_right (by decide)
      have ht : (x &&& 255).toInt = ((x.toBitVec &&& 255#64).toNat : Int) := by
        show (x &&& 255).toBitVec.toInt = _
        rw [e, BitVec.toInt_eq_toNat_of_lt (by omega)]
      rw [ht]
      omega
    have e2 : (x &&& 255).toInt32 = nI (x &&& 255).toInt.toNat := by
      apply Int32.toInt_inj.mp
      rw [Int64.toInt_toInt32, nI_toInt (by omega)]
      rw [Int.bmod_eq_of_le (by omega) (by omega)]
      omega
    rw [e2]
    exact isN_nI hb.1
  exact h _
theorem ft_N {f : FN} {w : Int64} {t n : Nat} (h : ∀ i, i < t → isN (f i) 256) : ∀ j i, i < t + j → isN (ftN f w t n j i) 256
  | 0, i, hi => h i hi
  | j + 1, i, hi => by
    rw [ftN]
    by_cases e : i = t + j
    · rw [e, upd_eq]; exact bv_N _ _
    · rw [upd_ne _ _ e]; exact ft_N h j i (by omega)
theorem iv_feed (h : IV c P Q q nb m mq nm tu e nk tp) (w : Int64) (n : Int32) : IE (sp_feed c tp w n).2 P Q q := by
  unfold sp_feed
  split
  · exact iv_same h
  · rename_i hn
    split
    · exact iv_same h
    · rename_i hs
      obtain ⟨a1, a2, a3, a4, a5, a6, a7, a8, a9, t1, t2, t3⟩ := h
      have hb := nn hn
      obtain ⟨n, hn1, hn2, rfl⟩ := nI_btw1 (by decide) hb.1 hb.2
      have hs2 := nn hs
      rw [nI_add] at hs2
      have hs3 := (nI_leI (by omega) (by decide)).mp hs2
      rw [tnl hn2]
      exact ⟨_, _, _, _, _, _, _, _, a1, a2, a3, a4, a5, a6, a7, a8, a9, by dsimp only; rw [tput_eq, upd_eq], hs3, ft_N t3 n⟩
theorem iv_force (h : IV c P Q q nb m mq nm tu e nk tp) (s k : Int32) : IE (sp_force c s k).2 P Q q := by
  unfold sp_force
  split
  · exact iv_same h
  · split
    · exact iv_same h
    · rename_i hn
      obtain ⟨a1, a2, a3, a4, ⟨k1, k2, k3⟩, a6⟩ := h
      refine ⟨_, _, _, _, _, _, _, _, a1, a2, a3, a4, ⟨k1, fun i hi => ?_, k3⟩, a6⟩
      show upd (c 10) (tn s) k i = -1 ∨ isN (upd (c 10) (tn s) k i) (tn (c 32 9))
      unfold upd
      split
      · obtain ⟨g1, g2⟩ := nn hn
        by_cases e : k = -1
        · exact Or.inl e
        · right
          have h0 : nI 0 ≤ k := by
            rw [Int32.le_iff_toInt_le] at g1 ⊢
            have e1 : (-1 : Int32).toInt = -1 := by decide
            have e0 : (nI 0).toInt = 0 := by decide
            have n1 : k.toInt ≠ -1 := fun g => e (Int32.toInt_inj.mp (g.trans e1.symm))
            omega
          obtain ⟨a, ha, rfl⟩ := (inb_iff k1.1 (by have := k1.2; omega)).mp ((inb_sub k1.1 (by have := k1.2; omega)).mp ⟨h0, g2⟩)
          have := k1.2
          exact isN_of ha (by omega)
      · exact k2 i hi
theorem iv_minutes (h : IV c P Q q nb m mq nm tu e nk tp) (hq : q < 700000000) (n : Int32) : IE c (sp_minutes c P nb m n).2 Q (q + 2400) := by
  unfold sp_minutes
  split
  · exact (iv_same h).mono (by omega)
  · rename_i hn
    split
    · exact (iv_same h).mono (by omega)
    · rename_i hs
      obtain ⟨⟨n1, n2, n3, n4⟩, ⟨b1, b2, b3⟩, ⟨d1, d2, d3⟩, a4, a5⟩ := h
      have hb := nn hn
      obtain ⟨n, hn1, hn2, rfl⟩ := nI_btw1 (by decide) hb.1 hb.2
      have hs2 := nn hs
      rw [nI_add] at hs2
      have hs3 := (nI_leI (by omega) (by decide)).mp hs2
      rw [tnl hn2]
      have hst := b3.ps b1.1 a4 n2 hq (fun k hk => (b1.ps a4 n3 n2 k hk).1) n (by omega)
      exact ⟨_, _, _, _, _, _, _, _, ⟨n1, n2, n3, n4⟩, ⟨b1.ps a4 n3 n2 n (by omega), by omega, hst.mono (by omega)⟩, ⟨d1, d2, d3.mono (by omega)⟩, a4, a5⟩
theorem iv_plan (h : IV c P Q q nb m mq nm tu e nk tp) (s t n : Int32) : IE (sp_plan c P nb m s t n).2 P Q q := by
  by_cases hp : plOK c m s t n
  · rw [spp_y hp]; exact ⟨_, _, _, _, _, _, _, _, h⟩
  · rw [spp_n hp]; exact iv_same h
theorem iv_gain (h : IV c P Q q nb m mq nm tu e nk tp) (r s v : Int32) : IE (sp_gain c r s v).2 P Q q := by
  unfold sp_gain
  split
  · exact iv_same h
  · split
    · exact iv_same h
    · rename_i hn
      have hn2 : isN v 10000 := inn_N (nn hn) (by decide)
      obtain ⟨a1, a2, a3, a4, a5, a6, a7, a8⟩ := h
      exact ⟨_, _, _, _, _, _, _, _, a1, a2, a3, a4, a5, a6, ⟨fun i hi => isN_upd (a7.1 i hi) hn2, a7.2⟩, a8⟩
theorem iv_fights (h : IV c P Q q nb m mq nm tu e nk tp) (v : Int32) : IE (sp_fights c v).2 P Q q := by
  unfold sp_fights
  split
  · exact iv_same h
  · rename_i hn
    have hn2 : isN v 10000 := inn_N (nn hn) (by decide)
    obtain ⟨a1, a2, a3, a4, a5, a6, a7, a8⟩ := h
    exact ⟨_, _, _, _, _, _, _, _, a1, a2, a3, a4, a5, a6, ⟨a7.1, by show isN (tput c 32 (upd (c 32) 3 v) 32 3) 10000; rw [tput_eq, upd_eq]; exact hn2⟩, a8⟩
theorem iv_round (h : IV c P Q q nb m mq nm tu e nk tp) (a s : Int32) : IE (sp_round c a s).2 P Q q := by
  unfold sp_round
  split
  · exact iv_same h
  · rename_i hn
    split
    · exact iv_same h
    · rename_i h0
      obtain ⟨a1, a2, a3, a4, a5, a6, a7, ⟨s1, s2, s3, s4, s5, s6, s7, s8⟩, a9⟩ := h
      have hm0 : nm = 0 := by
        have := nn h0
        rw [s1] at this
        exact Nat.eq_zero_of_not_pos (fun g => nI_nle g (by omega) this)
      have hb : btw (nI 2) a (nI 6) := nn (fun g => hn (Or.inl g))
      have hs : btw (nI 1) s (nI 999) := nn (fun g => hn (Or.inr g))
      obtain ⟨s, hs1, hs2, rfl⟩ := nI_btw1 (by decide) hs.1 hs.2
      have h1a : nI 1 ≤ a := by
        have := hb.1
        rw [Int32.le_iff_toInt_le] at this ⊢
        have e1 : (nI 1).toInt = 1 := by decide
        have e2 : (nI 2).toInt = 2 := by decide
        omega
      obtain ⟨a, ha1, ha2, rfl⟩ := nI_btw1 (by decide) h1a hb.2
      refine ⟨nb, m, mq, a, tu, s, nk, tp, a1, a2, a3, a4, a5, a6, a7, ⟨?_, ha2, s3, Or.inr (by omega), ?_, Or.inr hs1, by omega, s8⟩, a9⟩
      · show tput c 32 (upd (upd (c 32) 4 (nI a)) 5 (nI s)) 32 4 = nI a
        rw [tput_eq, upd_ne _ _ (by decide), upd_eq]
      · show tput c 32 (upd (upd (c 32) 4 (nI a)) 5 (nI s)) 32 5 = nI s
        rw [tput_eq, upd_eq]
theorem iv_stops (h : IV c P Q q nb m mq nm tu e nk tp) (a : Int32) : IE (sp_stops c a).2 P Q q := by
  unfold sp_stops
  split
  · exact iv_same h
  · split
    · exact iv_same h
    · obtain ⟨a1, a2, a3, a4, a5, a6, a7, ⟨s1, s2, s3, s4, s5, s6, s7, s8⟩, a9⟩ := h
      refine ⟨nb, m, mq, nm, tu, e, nk, tp, a1, a2, a3, a4, a5, a6, a7, ⟨s1, s2, s3, s4, s5, s6, s7, fun i hi => ?_⟩, a9⟩
      show upd (c 14) (tn a) (nI 1) i = nI 0 ∨ upd (c 14) (tn a) (nI 1) i = nI 1
      unfold upd
      split
      · exact Or.inr rfl
      · exact s8 i hi
theorem iv_turns (h : IV c P Q q nb m mq nm tu e nk tp) : IE (sp_turns c nm tu).2 P Q q := by
  unfold sp_turns
  split
  · exact iv_same h
  · rename_i h0
    split
    · exact iv_same h
    · rename_i t _
      obtain ⟨a1, a2, a3, a4, a5, a6, a7, ⟨s1, s2, s3, s4, s5, s6, s7, s8⟩, a9⟩ := h
      refine ⟨nb, m, mq, nm, (t + 1) % nm, e, nk, tp, a1, a2, a3, a4, a5, a6, a7, ⟨s1, s2, ?_, Or.inr (Nat.mod_lt _ (by omega)), s5, s6, s7, s8⟩, a9⟩
      show tput (tput (tput c 12 (pdN c (c 32 5) nm)) 13 (upd (c 13) t (c 13 t + alN c (c 32 5) nm))) 32 (upd (c 32) 6 (nI ((t + 1) % nm))) 32 6 = _
      rw [tput_eq, upd_eq]
theorem iv_book (h : IV c P Q q nb m mq nm tu e nk tp) (b y s : Int32) : IE (sp_book c P nk b y s).2 P Q q := by
  unfold sp_book
  split
  · exact iv_same h
  · split
    · exact iv_same h
    · split
      · exact iv_same h
      · rename_i h30
        obtain ⟨a1, a2, a3, a4, a5, a6, a7, a8, ⟨k1, k2, k3⟩, a10⟩ := h
        refine ⟨nb, m, mq, nm, tu, e, nk + 1, tp, a1, a2, a3, a4, a5, a6, a7, a8, ⟨?_, by omega, fun k g1 g2 => k3 k (by omega) g2⟩, a10⟩
        dsimp only
        rw [tput_eq, upd_eq]
theorem iv_mend (h : IV c P Q q nb m mq nm tu e nk tp) (k s : Int32) : IE (sp_mend c P k s).2 P Q q := by
  unfold sp_mend
  split
  · exact iv_same h
  · rename_i hk
    split
    · exact iv_same h
    · split
      · exact iv_same h
      · obtain ⟨a1, a2, a3, a4, a5, a6, a7, a8, ⟨k1, k2, k3⟩, a10⟩ := h
        obtain ⟨j, hj, rfl⟩ := (inb_iff k1 (by omega)).mp ((inb_sub k1 (by omega)).mp (nn hk))
        refine ⟨nb, m, mq, nm, tu, e, nk, tp, a1, a2, a3, a4, a5, a6, a7, a8, ⟨k1, k2, fun i g1 g2 => ?_⟩, a10⟩
        dsimp only
        rw [tput_eq, tnt (show j < 30 by omega), upd_ne _ _ (by omega)]
        exact k3 i g1 g2
theorem iv_image (h : IV c P Q q nb m mq nm tu e nk tp) : IE (tput c 32 (upd (c 32) 0 (nI 1))) P P q := by
  obtain ⟨a1, a2, a3, a4⟩ := h
  exact ⟨nb, m, m, nm, tu, e, nk, tp, a1, a2, a2, a4⟩
theorem iv_back (h : IV c P Q q nb m mq nm tu e nk tp) : IE c Q Q q := by
  obtain ⟨a1, a2, a3, a4⟩ := h
  exact ⟨nb, mq, mq, nm, tu, e, nk, tp, a1, a3, a3, a4⟩
theorem iv_sheet (h : IV c P Q q nb m mq nm tu e nk tp) (s t n : Int32) : IE (sp_sheet c s t n).2 P Q q := by
  unfold sp_sheet
  split
  · exact iv_same h
  · split
    · exact iv_same h
    · rename_i h1
      split
      · exact iv_same h
      · rename_i h2
        obtain ⟨a1, a2, a3, a4, a5, a6, a7⟩ := h
        refine ⟨nb, m, mq, nm, tu, e, nk, tp, a1, a2, a3, a4, a5, fun i hi => ?_, a7⟩
        show isN (upd (c 30) (tn s) (if t = -1 then nI 0 else n) i) 41
        refine isN_upd (a6 i hi) ?_
        by_cases et : t = -1
        · rw [if_pos et]; exact isN_nI (by decide)
        · rw [if_neg et]
          exact inn_N ⟨by rw [nI_0]; exact nn (fun g => h2 ⟨et, g⟩), nn (fun g => h1 ⟨et, g⟩)⟩ (by decide)
theorem iv_cell (h : IV c P Q q nb m mq nm tu e nk tp) (s i v : Int32) : IE (sp_cell c s i v).2 P Q q := by
  unfold sp_cell
  split
  · exact iv_same h
  · split
    · exact iv_same h
    · split
      · exact iv_same h
      · exact ⟨nb, m, mq, nm, tu, e, nk, tp, h⟩
theorem iv_copy (h : IV c P Q q nb m mq nm tu e nk tp) (s i w j n : Int32) : IE (sp_copy c s i w j n).2 P Q q := by
  unfold sp_copy
  split
  · exact iv_same h
  · split
    · exact iv_same h
    · split
      · exact iv_same h
      · split
        · exact iv_same h
        · exact ⟨nb, m, mq, nm, tu, e, nk, tp, h⟩
end IVS
