/-! the reference's tellings: cell, pass, river, rain -/
theorem ixn {s x : Int32} {k m : Int} {K : Int32} (hK : K.toInt = k) (hk : 0 ≤ k ∧ k ≤ 100) (hs : rg s 0 1) (h0 : 0 ≤ x.toInt) (h1 : x.toInt < k) : (((K * s) + x).toNatClampNeg : Int) = k * s.toInt + x.toInt ∧ 0 ≤ ((K * s) + x).toInt ∧ ((K * s) + x).toInt < 2 * k := by
  have hi := in_side (K := K) (k := k) (m := k - 1) hK hk hs (⟨h0, by omega⟩ : rg x 0 (k - 1)) (by omega)
  have p1 := hs.1
  have p2 := hs.2
  have i0 := hi.1
  have i1 := hi.2
  have e : (K * s).toInt = k * s.toInt := by
    rw [Jvm.Kit.i32_mul (by
      rcases (show s.toInt = 0 ∨ s.toInt = 1 by omega) with q | q <;> rw [q, hK] <;> omega) (by
      rcases (show s.toInt = 0 ∨ s.toInt = 1 by omega) with q | q <;> rw [q, hK] <;> omega), hK]
  have b : 0 ≤ k * s.toInt ∧ k * s.toInt ≤ 100 := by
    rcases (show s.toInt = 0 ∨ s.toInt = 1 by omega) with q | q <;> rw [q] <;> omega
  have t : ((K * s) + x).toInt = k * s.toInt + x.toInt := by
    rw [Jvm.Kit.i32_add (by rw [e]; omega) (by rw [e]; omega), e]
  have c := cl_k i0
  exact ⟨by omega, i0, by omega⟩
theorem sd_eq {a y : Nat → Int32} {i : Nat} {v : Int32} (e : y = upd a i v) : y i = v := by rw [e, upd, if_pos rfl]
theorem sd_ne {a y : Nat → Int32} {i j : Nat} {v : Int32} (e : y = upd a i v) (h : j ≠ i) : y j = a j := by rw [e, upd, if_neg h]
/-- one more at the end of the side's row -/
theorem sd_in {s x : Int32} {k : Int} {K : Int32} {a y : Nat → Int32} {v : Int32} {Q : Int32 → Int32 → Prop} (hK : K.toInt = k) (hk : 0 ≤ k ∧ k ≤ 100) (hs : rg s 0 1) (h0 : 0 ≤ x.toInt) (h1 : x.toInt < k) (e : y = upd a ((K * s) + x).toNatClampNeg v) (h : ∀ c : Int32, 0 ≤ c.toInt → c.toInt < x.toInt → Q c (a ((K * s) + c).toNatClampNeg)) (hv : Q x v) : ∀ c : Int32, 0 ≤ c.toInt → c.toInt < x.toInt + 1 → Q c (y ((K * s) + c).toNatClampNeg) := by
  intro c c0 c1
  by_cases q : c = x
  · rw [q, sd_eq e]; exact hv
  · have qn : ¬ c.toInt = x.toInt := fun z => q (Int32.toInt_inj.mp z)
    have i1 := ixn (m := 0) hK hk hs h0 h1
    have i2 := ixn (x := c) (m := 0) hK hk hs c0 (by omega)
    rw [sd_ne e (by omega)]
    exact h c c0 (by omega)
theorem sd_off {s x : Int32} {k : Int} {K : Int32} {a y : Nat → Int32} {v : Int32} (hK : K.toInt = k) (hk : 0 ≤ k ∧ k ≤ 100) (hs : rg s 0 1) (h0 : 0 ≤ x.toInt) (h1 : x.toInt < k) (e : y = upd a ((K * s) + x).toNatClampNeg v) : OFF (k * s.toInt) (k * s.toInt + k) y a := by
  have i1 := ixn (m := 0) hK hk hs h0 h1
  exact OFF_up e (by omega) (by omega)
theorem ct_off {s : Int32} {a y : Nat → Int32} {v : Int32} (hs : rg s 0 1) (e : y = upd a s.toNatClampNeg v) : OFF (1 * s.toInt) (1 * s.toInt + 1) y a := by
  have c := cl_k hs.1
  exact OFF_up e (by omega) (by omega)
/-- tellCell -/
theorem s_X7_tellCell (s : Int32) (kind pl val : Nat → Int32) (tn : Nat → Int64) (t f fp w wp nm_ : Int32) (no : Nat → Int64) (na cells room water ways : Nat → Int32) (hs : rg s 0 1) (h : T4 t f) (hw : 0 ≤ w.toInt ∧ w.toInt ≤ 9) (hn : 0 ≤ nm_.toInt ∧ nm_.toInt ≤ 19) (hc0 : 0 ≤ nC s cells) (hc1 : nC s cells ≤ 11) (hN : NT nm_ na (nC s cells)) : ok (f_X7_tellCell s kind pl val tn t f fp w wp nm_ no na cells room water ways) (fun r => Adv 1 t f r.1 r.2.1 ∧ W9 w r.2.2.2.1 ∧ (∃ v1 v2 : Int32, r.2.2.2.2.2.2.2.2.2.1 = upd room (((12 : Int32) * s) + cells s.toNatClampNeg).toNatClampNeg v1 ∧ r.2.2.2.2.2.2.2.2.2.2.1 = upd water (((12 : Int32) * s) + cells s.toNatClampNeg).toNatClampNeg v2 ∧ r.2.2.2.2.2.2.2.2.2.2.2 = upd ways (((12 : Int32) * s) + cells s.toNatClampNeg).toNatClampNeg 0 ∧ (r.2.1.toInt = 0 → r.2.2.2.1.toInt = 0 → rg v1 1 9 ∧ rg v2 0 9999)) ∧ ((¬ r.2.1.toInt = 0 ∧ r.2.2.2.2.2.2.2.2.1 = cells) ∨ (r.2.2.2.2.2.2.2.2.1 = upd cells s.toNatClampNeg (cells s.toNatClampNeg + 1) ∧ r.2.2.2.2.2.1.toInt = nm_.toInt + 1 ∧ NT r.2.2.2.2.2.1 r.2.2.2.2.2.2.2.1 (nC s cells + 1)))) := by
  unfold f_X7_tellCell
  have p1 := hs.1
  have p2 := hs.2
  have is := inb_k (x := s) (n := 2) p1 (by omega)
  have ix := ixn (x := cells s.toNatClampNeg) (K := 12) (k := 12) (m := 0) rfl (by decide) hs hc0 (by unfold nC at hc1; omega)
  refine ok_ck is (ok_nm (fun e2 he2 => ?_))
  subst he2
  have ie := inb_k (n := 24) ix.2.1 (by have := ix.2.2; omega)
  refine ok_bd6 (s_X7_named nm_ kind pl tn no t f fp w wp h hw (by omega)) (fun n0 t1 f1 fp1 w1 wp1 hn1 => ?_)
  obtain ⟨a1, a2, a3⟩ := hn1
  change n0 = t at a1
  change Adv 1 t f t1 f1 at a2
  change W9 w w1 at a3
  refine ok_bd6 (s_X7_bounded kind pl val t1 f1 fp1 w1 wp1 1 9 a2.t4 a3.1) (fun v1 t2 f2 fp2 w2 wp2 hb => ?_)
  obtain ⟨b1, b2, b3⟩ := hb
  change Adv 1 t1 f1 t2 f2 at b1
  change W9 w1 w2 at b2
  change f2.toInt = 0 → w2.toInt = 0 → rg v1 (1 : Int32).toInt (9 : Int32).toInt at b3
  refine ok_ck ie (ok_nm (fun r6 er6 => ?_))
  refine ok_bd6 (s_X7_bounded kind pl val t2 f2 fp2 w2 wp2 0 9999 b1.t4 b2.1) (fun v2 t3 f3 fp3 w3 wp3 hd => ?_)
  obtain ⟨d1, d2, d3⟩ := hd
  change Adv 1 t2 f2 t3 f3 at d1
  change W9 w2 w3 at d2
  change f3.toInt = 0 → w3.toInt = 0 → rg v2 (0 : Int32).toInt (9999 : Int32).toInt at d3
  refine ok_ck ie (ok_nm (fun r9 er9 => ok_ck ie (ok_nm (fun r11 er11 => ?_))))
  refine ok_bd3 (s_X7_must kind pl t3 f3 fp3 4 d1.t4) (fun t4 f4 fp4 hm => ?_)
  change Adv 1 t3 f3 t4 f4 at hm
  have A := (((a2.tr b1 (m := 2) rfl).tr d1 (m := 3) rfl).tr hm (m := 4) rfl).w (l := 1) (by decide)
  have Wt := (a3.tr b2).tr d2
  have vals : f4.toInt = 0 → w3.toInt = 0 → rg v1 1 9 ∧ rg v2 0 9999 := by
    intro z1 z2
    have g3 := (hm.2.2.2 z1).1
    have g2 := (d1.2.2.2 g3).1
    exact ⟨b3 g2 (d2.2 z2), d3 g3 z2⟩
  refine ok_if (fun c => ?_) (fun c => ok_some ⟨A, Wt, ⟨v1, v2, er6, er9, er11, vals⟩, Or.inl ⟨?_, rfl⟩⟩)
  · have ht := h.1
    refine ok_ck is (ok_bd3 (s_X7_notes tn nm_ no na n0 (cells s.toNatClampNeg) hn (by rw [a1]; exact ht) (C := nC s cells + 1) (fun k hk => by have := hN k hk; omega) (by unfold nC at *; omega)) (fun n1 n2 n3 hnn => ?_))
    refine ok_ck is (ok_ck is (ok_nm (fun a18 e18 => ok_some ⟨A, Wt, ⟨v1, v2, er6, er9, er11, vals⟩, Or.inr ⟨e18, hnn⟩⟩)))
  · have c2 := nle_k (k := 0) rfl c
    show ¬ f4.toInt = 0
    omega
/-- what one way more does to the ways of the cells -/
theorem way_one {s q1 : Int32} {ways ways' : Nat → Int32} (hs : rg s 0 1) (h1 : 0 ≤ q1.toInt) (h2 : q1.toInt < 12) (e : ways' = upd ways (((12 : Int32) * s) + q1).toNatClampNeg (rO s ways q1 + 1)) (h8 : ¬ rO s ways q1 = 8) (c : Int32) (c0 : 0 ≤ c.toInt) (c1 : c.toInt < 12) (hb : 0 ≤ (rO s ways c).toInt ∧ (rO s ways c).toInt ≤ 8) : (rO s ways' c).toInt = (rO s ways c).toInt + (if q1 = c then 1 else 0) ∧ (rO s ways' c).toInt ≤ 8 := by
  by_cases q : q1 = c
  · subst q
    rw [if_pos rfl]
    have n8 := z_ne (k := 8) rfl h8
    have t := add_k (x := rO s ways q1) (v := 1) (k := 1) rfl (by omega) (by omega)
    have ev : rO s ways' q1 = rO s ways q1 + 1 := sd_eq e
    rw [ev]
    omega
  · rw [if_neg q]
    have qn : ¬ q1.toInt = c.toInt := fun z => q (Int32.toInt_inj.mp z)
    have i1 := ixn (x := q1) (K := 12) (k := 12) (m := 0) rfl (by decide) hs h1 h2
    have i2 := ixn (x := c) (K := 12) (k := 12) (m := 0) rfl (by decide) hs c0 c1
    have ev : rO s ways' c = rO s ways c := sd_ne e (by omega)
    rw [ev]
    omega
/-- tellPass -/
def PQ7 (s : Int32) (C : Int) (t f w : Int32) (ways passes one oth pw : Nat → Int32) (r : Int32 × Int32 × Int32 × Int32 × Int32 × (Nat → Int32) × (Nat → Int32) × (Nat → Int32) × (Nat → Int32) × (Nat → Int32)) : Prop := Adv 1 t f r.1 r.2.1 ∧ W9 w r.2.2.2.1 ∧ ((¬ r.2.1.toInt = 0 ∧ r.2.2.2.2.2.2.1 = passes) ∨ r.2.2.2.2.2.2.1 = upd passes s.toNatClampNeg (passes s.toNatClampNeg + 1)) ∧ (∃ a b v : Int32, r.2.2.2.2.2.2.2.1 = upd one (((20 : Int32) * s) + passes s.toNatClampNeg).toNatClampNeg a ∧ r.2.2.2.2.2.2.2.2.1 = upd oth (((20 : Int32) * s) + passes s.toNatClampNeg).toNatClampNeg b ∧ r.2.2.2.2.2.2.2.2.2 = upd pw (((20 : Int32) * s) + passes s.toNatClampNeg).toNatClampNeg v ∧ (r.2.1.toInt = 0 → r.2.2.2.1.toInt = 0 → (0 ≤ a.toInt ∧ a.toInt < C) ∧ (0 ≤ b.toInt ∧ b.toInt < C) ∧ ¬ a = b ∧ rg v 0 10 ∧ ∀ c : Int32, 0 ≤ c.toInt → c.toInt < 12 → 0 ≤ (rO s ways c).toInt → (rO s ways c).toInt ≤ 8 → (rO s r.2.2.2.2.2.1 c).toInt = (rO s ways c).toInt + (if a = c then 1 else 0) + (if b = c then 1 else 0) ∧ (rO s r.2.2.2.2.2.1 c).toInt ≤ 8))
theorem s_pa87 {s : Int32} {C : Int} {t0 f0 w0 : Int32} {ways0 : Nat → Int32} (kind pl val : Nat → Int32) (t f fp w wp : Int32) (ways passes one oth pw : Nat → Int32) (x2 a b : Int32) (hs : rg s 0 1) (hA : Adv 1 t0 f0 t f) (hW : W9 w0 w) (hx : x2 = ((20 : Int32) * s) + passes s.toNatClampNeg) (hp0 : 0 ≤ (passes s.toNatClampNeg).toInt) (hp1 : (passes s.toNatClampNeg).toInt ≤ 19) (hg : f.toInt = 0 → w.toInt = 0 → (0 ≤ a.toInt ∧ a.toInt < C) ∧ (0 ≤ b.toInt ∧ b.toInt < C) ∧ ¬ a = b ∧ ∀ c : Int32, 0 ≤ c.toInt → c.toInt < 12 → 0 ≤ (rO s ways0 c).toInt → (rO s ways0 c).toInt ≤ 8 → (rO s ways c).toInt = (rO s ways0 c).toInt + (if a = c then 1 else 0) + (if b = c then 1 else 0) ∧ (rO s ways c).toInt ≤ 8) : ok (f_X7_tellPass_b87 s kind pl val t f fp w wp ways passes one oth pw x2 a b) (PQ7 s C t0 f0 w0 ways0 passes one oth pw) := by
  unfold f_X7_tellPass_b87
  have p1 := hs.1
  have p2 := hs.2
  have is := inb_k (x := s) (n := 2) p1 (by omega)
  have ix := ixn (x := passes s.toNatClampNeg) (K := 20) (k := 20) (m := 0) rfl (by decide) hs hp0 (by omega)
  subst hx
  have ie := inb_k (n := 40) ix.2.1 (by have := ix.2.2; omega)
  refine ok_ck ie (ok_nm (fun a2 e2 => ok_ck ie (ok_nm (fun a4 e4 => ?_))))
  refine ok_bd6 (s_X7_bounded kind pl val t f fp w wp 1 10 hA.t4 hW.1) (fun v1 t2 f2 fp2 w2 wp2 hb => ?_)
  obtain ⟨b1, b2, b3⟩ := hb
  change Adv 1 t f t2 f2 at b1
  change W9 w w2 at b2
  change f2.toInt = 0 → w2.toInt = 0 → rg v1 (1 : Int32).toInt (10 : Int32).toInt at b3
  refine ok_ck ie (ok_nm (fun a7 e7 => ?_))
  refine ok_bd3 (s_X7_must kind pl t2 f2 fp2 4 b1.t4) (fun t4 f4 fp4 hm => ?_)
  change Adv 1 t2 f2 t4 f4 at hm
  have A := ((hA.tr b1 (m := 2) rfl).tr hm (m := 3) rfl).w (l := 1) (by decide)
  have fin : f4.toInt = 0 → w2.toInt = 0 → (0 ≤ a.toInt ∧ a.toInt < C) ∧ (0 ≤ b.toInt ∧ b.toInt < C) ∧ ¬ a = b ∧ rg v1 0 10 ∧ ∀ c : Int32, 0 ≤ c.toInt → c.toInt < 12 → 0 ≤ (rO s ways0 c).toInt → (rO s ways0 c).toInt ≤ 8 → (rO s ways c).toInt = (rO s ways0 c).toInt + (if a = c then 1 else 0) + (if b = c then 1 else 0) ∧ (rO s ways c).toInt ≤ 8 := by
    intro z1 z2
    have g2 := (hm.2.2.2 z1).1
    have g1 := (b1.2.2.2 g2).1
    have k := hg g1 (b2.2 z2)
    exact ⟨k.1, k.2.1, k.2.2.1, rg_w (b3 g2 z2) (by decide) (by decide), k.2.2.2⟩
  refine ok_if (fun c => ?_) (fun c => ok_some ⟨A, hW.tr b2, Or.inl ⟨z_ne (k := 0) rfl c, rfl⟩, a, b, v1, e2, e4, e7, fin⟩)
  exact ok_ck is (ok_ck is (ok_nm (fun a12 e12 => ok_some ⟨A, hW.tr b2, Or.inr e12, a, b, v1, e2, e4, e7, fin⟩)))
theorem s_X7_tellPass (s nm_ : Int32) (kind pl val : Nat → Int32) (tn no : Nat → Int64) (na : Nat → Int32) (t f fp w wp : Int32) (ways passes one oth pw : Nat → Int32) (q1 : Int32) {C : Int} (hs : rg s 0 1) (h : T4 t f) (hw : 0 ≤ w.toInt ∧ w.toInt ≤ 9) (hn : 0 ≤ nm_.toInt ∧ nm_.toInt ≤ 20) (hC0 : 0 ≤ C) (hC : C ≤ 12) (hN : NT nm_ na C) (hp0 : 0 ≤ (passes s.toNatClampNeg).toInt) (hp1 : (passes s.toNatClampNeg).toInt ≤ 19) (hq : 0 ≤ q1.toInt ∧ q1.toInt ≤ 400) : ok (f_X7_tellPass s nm_ kind pl val tn no na t f fp w wp ways passes one oth pw q1) (PQ7 s C t f w ways passes one oth pw) := by
  unfold f_X7_tellPass
  have p1 := hs.1
  have p2 := hs.2
  have is := inb_k (x := s) (n := 2) p1 (by omega)
  refine ok_ck is (ok_nm (fun e2 he2 => ?_))
  refine ok_bd6 (s_X7_cellAt nm_ kind pl tn no na t f fp w wp (C := C) h hw hn hC0 hN) (fun a t1 f1 fp1 w1 wp1 ha => ?_)
  obtain ⟨a1, a2, a3, a4⟩ := ha
  change Adv 1 t f t1 f1 at a1
  change W9 w w1 at a2
  change -1 ≤ a.toInt ∧ a.toInt < C at a3
  change f1.toInt = 0 → w1.toInt = 0 → 0 ≤ a.toInt at a4
  refine ok_bd6 (s_X7_cellAt nm_ kind pl tn no na t1 f1 fp1 w1 wp1 (C := C) a1.t4 a2.1 hn hC0 hN) (fun b t2 f2 fp2 w2 wp2 hb => ?_)
  obtain ⟨b1, b2, b3, b4⟩ := hb
  change Adv 1 t1 f1 t2 f2 at b1
  change W9 w1 w2 at b2
  change -1 ≤ b.toInt ∧ b.toInt < C at b3
  change f2.toInt = 0 → w2.toInt = 0 → 0 ≤ b.toInt at b4
  have A := (a1.tr b1 (m := 2) rfl).w (l := 1) (by decide)
  have W2 := a2.tr b2
  have f20 := b1.2.1
  -- the block behind, for any worst that is set where the two are one
  have b59 : ∀ (w3 wp3 : Int32), W9 w2 w3 → (f2.toInt = 0 → w3.toInt = 0 → 0 ≤ a.toInt → ¬ a = b) → ok (f_X7_tellPass_b59 s kind pl val t2 f2 fp2 w3 wp3 ways passes one oth pw q1 e2 a b) (PQ7 s C t f w ways passes one oth pw) := by
    intro w3 wp3 hw3 hne
    unfold f_X7_tellPass_b59
    have neg : (a.toInt < 0 ∨ b.toInt < 0 ∨ a = b) → ok (f_X7_tellPass_b87 s kind pl val t2 f2 fp2 w3 wp3 ways passes one oth pw e2 a b) (PQ7 s C t f w ways passes one oth pw) := by
      intro hz
      refine s_pa87 kind pl val t2 f2 fp2 w3 wp3 ways passes one oth pw e2 a b hs A (W2.tr hw3) he2 hp0 hp1 (fun z1 z2 => ?_)
      have g1 := (b1.2.2.2 z1).1
      have y2 := hw3.2 z2
      have k1 := a4 g1 (b2.2 y2)
      have k2 := b4 z1 y2
      rcases hz with q | q | q
      · omega
      · omega
      · exact absurd q (hne z1 z2 k1)
    refine ok_if (fun c => neg (Or.inl (lt_k (k := 0) rfl c))) (fun c => ok_if (fun d => neg (Or.inr (Or.inl (lt_k (k := 0) rfl d)))) (fun d => ok_if (fun e => neg (Or.inr (Or.inr e))) (fun e => ?_)))
    have c2 := nlt_k (k := 0) rfl c
    have d2 := nlt_k (k := 0) rfl d
    refine ok_bd3 (s_X7_makesWay s pl f2 fp2 ways a q1 hs f20 (by omega) hq) (fun f3 fp3 y3 h3 => ?_)
    obtain ⟨m1, m2, m3⟩ := h3
    change 0 ≤ f3.toInt ∧ f3.toInt ≤ 9 at m1
    change f3.toInt = 0 → f2.toInt = 0 ∧ (0 ≤ a.toInt → ¬ rO s ways a = 8) at m2
    refine ok_bd3 (s_X7_makesWay s pl f3 fp3 y3 b q1 hs m1 (by omega) hq) (fun f4 fp4 y4 h4 => ?_)
    obtain ⟨n1, n2, n3⟩ := h4
    change 0 ≤ f4.toInt ∧ f4.toInt ≤ 9 at n1
    change f4.toInt = 0 → f3.toInt = 0 ∧ (0 ≤ b.toInt → ¬ rO s y3 b = 8) at n2
    have A4 : Adv 1 t f t2 f4 := by
      refine ⟨A.1, n1, A.2.2.1, fun z => A.2.2.2 ?_⟩
      exact (m2 (n2 z).1).1
    refine s_pa87 kind pl val t2 f4 fp4 w3 wp3 y4 passes one oth pw e2 a b hs A4 (W2.tr hw3) he2 hp0 hp1 (fun z1 z2 => ⟨⟨c2, a3.2⟩, ⟨d2, b3.2⟩, e, fun c c0 c1 u0 u1 => ?_⟩)
    have g3 := n2 z1
    have g2 := m2 g3.1
    have e3 : y3 = upd ways (((12 : Int32) * s) + a).toNatClampNeg (rO s ways a + 1) := by
      rcases m3 with q | q
      · exact q.2
      · rcases q.1 with z | z
        · omega
        · exact absurd g2.1 z
    have e4 : y4 = upd y3 (((12 : Int32) * s) + b).toNatClampNeg (rO s y3 b + 1) := by
      rcases n3 with q | q
      · exact q.2
      · rcases q.1 with z | z
        · omega
        · exact absurd g3.1 z
    have k1 := way_one hs c2 (by omega) e3 (g2.2 c2) c c0 c1 ⟨u0, u1⟩
    have z0 : 0 ≤ (if a = c then (1 : Int) else 0) := if01.1
    have k2 := way_one hs d2 (by omega) e4 (g3.2 d2) c c0 c1 ⟨by omega, k1.2⟩
    exact ⟨by omega, k2.2⟩
  have b59' := b59 w2 wp2 ⟨W2.1, fun z => z⟩
  refine ok_if (fun c => ok_if (fun d => b59' (fun _ _ z => ?_)) (fun d => ok_if (fun e => ?_) (fun e => b59' (fun _ _ _ => e)))) (fun c => b59' (fun z => ?_))
  · have d2 := lt_k (k := 0) rfl d
    omega
  · have c2 := z_eq (k := 0) rfl c
    have ht1 := a1.1
    refine ok_bd2 (s_X7_wrong f2 pl w2 wp2 5 t1 f20 W2.1 (by decide) ht1) (fun w3 wp3 h3 => b59 w3 wp3 h3.1 (fun z1 z2 => absurd z2 (h3.2 z1)))
  · exact absurd z (z_ne (k := 0) rfl c)
