/-! a side that holds: out of a reading, and through a reading of the other -/
def LR (s : Int32) (villages lf lt_ : Nat → Int32) : Prop := ∀ x : Int32, 0 ≤ x.toInt → x.toInt < (villages s.toNatClampNeg).toInt → 420 * s.toInt ≤ (hA s lf x).toInt ∧ (hA s lt_ x).toInt ≤ 420 * s.toInt + 420
def SD (s : Int32) (cells room water passes one oth pw rivers rc rl rw rains rain villages home need lf lt_ code ci : Nat → Int32) : Prop := DY s cells room passes one oth rivers rc rl rw rains villages home lf lt_ code ci ∧ GX s passes pw rains rain ∧ WA s cells water ∧ NE s villages need ∧ LR s villages lf lt_
theorem SD_of {s : Int32} {cells room water ways passes one oth pw rivers rc rl rw rains rain villages home need lf lt_ code ci : Nat → Int32} {codes : Int} (hs : rg s 0 1) (gc : rg (cells s.toNatClampNeg) 0 12) (gp : rg (passes s.toNatClampNeg) 0 20) (gr : rg (rivers s.toNatClampNeg) 0 3) (gn : rg (rains s.toNatClampNeg) 0 14) (gv : rg (villages s.toNatClampNeg) 0 6) (hc : codes ≤ 420 * s.toInt + 420) (h : GD s cells room water ways passes one oth pw rivers rc rl rw rains rain villages home need lf lt_ code ci codes) : SD s cells room water passes one oth pw rivers rc rl rw rains rain villages home need lf lt_ code ci := by
  obtain ⟨d1, d2, d3, d4, d5, d6⟩ := h
  have pk := cl_e gp (by decide)
  have rk := cl_e gr (by decide)
  refine ⟨⟨⟨hs, gc, fun x h0 h1 => (d1 x h0 h1).1⟩, ⟨gp, gr, fun x h0 h1 => ?_, fun x h0 h1 => ?_, fun c => ?_⟩, gn, gv, fun x h0 h1 => ?_⟩, ⟨fun x h0 h1 => (d2 x h0 h1).2.2.2, d5⟩, fun x h0 h1 => (d1 x h0 h1).2, fun x h0 h1 => (d6 x h0 h1).2.1, fun x h0 h1 => ?_⟩
  · have k := d2 x h0 h1
    exact ⟨k.1.1, k.1.2, k.2.1.1, k.2.1.2, k.2.2.1⟩
  · have k := d3 x h0 h1
    exact ⟨k.1.1, k.1.2, k.2.1, k.2.2⟩
  · rcases (show (0 ≤ c.toInt ∧ c.toInt < nC s cells) ∨ (c.toInt < 0 ∨ nC s cells ≤ c.toInt) by omega) with q | q
    · have k := d4 c q.1 q.2
      omega
    · rw [d2.dg gp.2 q _ (by omega), d3.dg gr.2 q _ (by omega)]
      decide
  · have k := d6 x h0 h1
    exact ⟨k.1.1, k.1.2, k.2.2.2.2⟩
  · have k := d6 x h0 h1
    exact ⟨k.2.2.1, by have := k.2.2.2.1; omega⟩
theorem of_ct {live s : Int32} {a y : Nat → Int32} (hs : rg s 0 1) (hd : live.toInt = 1 - s.toInt) (h : OFF (1 * s.toInt) (1 * s.toInt + 1) y a) : y live.toNatClampNeg = a live.toNatClampNeg := by
  have p1 := hs.1
  have p2 := hs.2
  have c := cl_k (x := live) (by omega)
  exact h _ (by omega)
theorem of_sd {live s x : Int32} {k : Int} {K : Int32} {a y : Nat → Int32} (hK : K.toInt = k) (hk : 0 ≤ k ∧ k ≤ 100) (hs : rg s 0 1) (hd : live.toInt = 1 - s.toInt) (h0 : 0 ≤ x.toInt) (h1 : x.toInt < k) (h : OFF (k * s.toInt) (k * s.toInt + k) y a) : y ((K * live) + x).toNatClampNeg = a ((K * live) + x).toNatClampNeg := by
  have p1 := hs.1
  have p2 := hs.2
  have i := ixn (s := live) (m := 0) hK hk ⟨by omega, by omega⟩ h0 h1
  refine h _ ?_
  rw [i.1]
  rcases (show s.toInt = 0 ∧ live.toInt = 1 ∨ s.toInt = 1 ∧ live.toInt = 0 by omega) with q | q <;> rw [q.1, q.2] <;> omega
theorem RW_off {live s : Int32} {cells room cells' room' : Nat → Int32} {row : Nat → Int64} {M : Int} (hs : rg s 0 1) (hd : live.toInt = 1 - s.toInt) (hc : (cells live.toNatClampNeg).toInt ≤ 12) (oc : OFF (1 * s.toInt) (1 * s.toInt + 1) cells' cells) (or : OFF (12 * s.toInt) (12 * s.toInt + 12) room' room) (h : RW live cells room row M) : RW live cells' room' row M := by
  intro x h0 h1
  have ec := of_ct hs hd oc
  unfold nC at h1
  rw [ec] at h1
  have er : rO live room' x = rO live room x := of_sd (K := 12) (k := 12) rfl (by decide) hs hd h0 (by omega) or
  rw [er]
  exact h x h0 h1
theorem RD_off {live s : Int32} {cells room cells' room' : Nat → Int32} {row : Nat → Int64} {rd : Int32} {B : Int} (hs : rg s 0 1) (hd : live.toInt = 1 - s.toInt) (hc : (cells live.toNatClampNeg).toInt ≤ 12) (oc : OFF (1 * s.toInt) (1 * s.toInt + 1) cells' cells) (or : OFF (12 * s.toInt) (12 * s.toInt + 12) room' room) (h : RD live cells room row rd B) : RD live cells' room' row rd B := ⟨h.1, h.2.1, RW_off hs hd hc oc or h.2.2⟩
theorem TK_off {live s : Int32} {cells cells' tc : Nat → Int32} {k : Int32} (hs : rg s 0 1) (hd : live.toInt = 1 - s.toInt) (oc : OFF (1 * s.toInt) (1 * s.toInt + 1) cells' cells) (h : TK live cells tc k) : TK live cells' tc k := by
  intro x h0 h1
  have ec := of_ct hs hd oc
  unfold nC
  rw [ec]
  exact h x h0 h1
theorem SD_off {live s : Int32} {cells room water passes one oth pw rivers rc rl rw rains rain villages home need lf lt_ code ci cells' room' water' passes' one' oth' pw' rivers' rc' rl' rw' rains' rain' villages' home' need' lf' lt' code' ci' : Nat → Int32} (hs : rg s 0 1) (hd : live.toInt = 1 - s.toInt) (g : FM s cells' room' water' passes' one' oth' pw' rivers' rc' rl' rw' rains' rain' villages' home' need' lf' lt' code' ci' cells room water passes one oth pw rivers rc rl rw rains rain villages home need lf lt_ code ci) (h : SD live cells room water passes one oth pw rivers rc rl rw rains rain villages home need lf lt_ code ci) : SD live cells' room' water' passes' one' oth' pw' rivers' rc' rl' rw' rains' rain' villages' home' need' lf' lt' code' ci' := by
  obtain ⟨o1, o2, o3, o4, o5, o6, o7, o8, o9, o10, o11, o12, o13, o14, o15, o16, o17, o18, o19, o20⟩ := g
  obtain ⟨⟨⟨g1, g2, g3⟩, ⟨w1, w2, w3, w4, w5⟩, g5, g6, g7⟩, ⟨x1, x2⟩, y1, n1, l1⟩ := h
  have p1 := hs.1
  have p2 := hs.2
  have ec := of_ct hs hd o1
  have ep := of_ct hs hd o4
  have er := of_ct hs hd o8
  have ea := of_ct hs hd o12
  have ev := of_ct hs hd o14
  have en : nC live cells' = nC live cells := by unfold nC; rw [ec]
  have c12 := g2.2
  have c20 := w1.2
  have c3 := w2.2
  have c14 := g5.2
  have c6 := g6.2
  have f12 : ∀ {a y : Nat → Int32} {x : Int32}, OFF (12 * s.toInt) (12 * s.toInt + 12) y a → 0 ≤ x.toInt → x.toInt < nC live cells → y (((12 : Int32) * live) + x).toNatClampNeg = a (((12 : Int32) * live) + x).toNatClampNeg := fun o h0 h1 => of_sd (K := 12) (k := 12) rfl (by decide) hs hd h0 (by unfold nC at h1; omega) o
  have f20 : ∀ {a y : Nat → Int32} {x : Int32}, OFF (20 * s.toInt) (20 * s.toInt + 20) y a → 0 ≤ x.toInt → x.toInt < (passes live.toNatClampNeg).toInt → y (((20 : Int32) * live) + x).toNatClampNeg = a (((20 : Int32) * live) + x).toNatClampNeg := fun o h0 h1 => of_sd (K := 20) (k := 20) rfl (by decide) hs hd h0 (by omega) o
  have f3 : ∀ {a y : Nat → Int32} {x : Int32}, OFF (3 * s.toInt) (3 * s.toInt + 3) y a → 0 ≤ x.toInt → x.toInt < (rivers live.toNatClampNeg).toInt → y (((3 : Int32) * live) + x).toNatClampNeg = a (((3 : Int32) * live) + x).toNatClampNeg := fun o h0 h1 => of_sd (K := 3) (k := 3) rfl (by decide) hs hd h0 (by omega) o
  have f14 : ∀ {a y : Nat → Int32} {x : Int32}, OFF (14 * s.toInt) (14 * s.toInt + 14) y a → 0 ≤ x.toInt → x.toInt < (rains live.toNatClampNeg).toInt → y (((14 : Int32) * live) + x).toNatClampNeg = a (((14 : Int32) * live) + x).toNatClampNeg := fun o h0 h1 => of_sd (K := 14) (k := 14) rfl (by decide) hs hd h0 (by omega) o
  have f6 : ∀ {a y : Nat → Int32} {x : Int32}, OFF (6 * s.toInt) (6 * s.toInt + 6) y a → 0 ≤ x.toInt → x.toInt < (villages live.toNatClampNeg).toInt → y (((6 : Int32) * live) + x).toNatClampNeg = a (((6 : Int32) * live) + x).toNatClampNeg := fun o h0 h1 => of_sd (K := 6) (k := 6) rfl (by decide) hs hd h0 (by omega) o
  have fc : ∀ {a y : Nat → Int32}, OFF (420 * s.toInt) (420 * s.toInt + 420) y a → ∀ i : Nat, 420 * live.toInt ≤ (i : Int) → (i : Int) < 420 * live.toInt + 420 → y i = a i := fun o i h0 h1 => o i (by omega)
  have pk := cl_e w1 (by decide)
  have rk := cl_e w2 (by decide)
  refine ⟨⟨⟨g1, by rw [ec]; exact g2, fun x h0 h1 => ?_⟩, ⟨by rw [ep]; exact w1, by rw [er]; exact w2, fun x h0 h1 => ?_, fun x h0 h1 => ?_, fun c => ?_⟩, by rw [ea]; exact g5, by rw [ev]; exact g6, fun x h0 h1 => ?_⟩, ⟨fun x h0 h1 => ?_, fun x h0 h1 => ?_⟩, fun x h0 h1 => ?_, fun x h0 h1 => ?_, fun x h0 h1 => ?_⟩
  · rw [en] at h1
    have e : rO live room' x = rO live room x := f12 o2 h0 h1
    rw [e]; exact g3 x h0 h1
  · rw [ep] at h1
    have e1 : pA live one' x = pA live one x := f20 o5 h0 h1
    have e2 : pA live oth' x = pA live oth x := f20 o6 h0 h1
    rw [e1, e2, en]; exact w3 x h0 h1
  · rw [er] at h1
    have e1 : rA live rc' x = rA live rc x := f3 o9 h0 h1
    have e2 : rA live rl' x = rA live rl x := f3 o10 h0 h1
    have e3 : rA live rw' x = rA live rw x := f3 o11 h0 h1
    rw [e1, e2, e3, en]; exact w4 x h0 h1
  · rw [ep, er]
    have d1 : dgP live one' oth' c (passes live.toNatClampNeg).toNatClampNeg = dgP live one oth c (passes live.toNatClampNeg).toNatClampNeg := by
      refine dgP_cg _ (fun i hi => ?_)
      have ei := of_nat (n := i) (by omega)
      exact ⟨f20 o5 (by omega) (by omega), f20 o6 (by omega) (by omega)⟩
    have d2 : dgR live rc' c (rivers live.toNatClampNeg).toNatClampNeg = dgR live rc c (rivers live.toNatClampNeg).toNatClampNeg := by
      refine dgR_cg _ (fun i hi => ?_)
      have ei := of_nat (n := i) (by omega)
      exact f3 o9 (by omega) (by omega)
    rw [d1, d2]; exact w5 c
  · rw [ev] at h1
    have e1 : hA live home' x = hA live home x := f6 o15 h0 h1
    have e2 : hA live lf' x = hA live lf x := f6 o17 h0 h1
    have e3 : hA live lt' x = hA live lt_ x := f6 o18 h0 h1
    have k := g7 x h0 h1
    have l := l1 x h0 h1
    rw [e1, e2, e3, en]
    exact ⟨k.1, k.2.1, WF_cg k.2.2 (fun i i0 i1 => fc o19 i (by omega) (by omega)) (fun i i0 i1 => fc o20 i (by omega) (by omega))⟩
  · rw [ep] at h1
    have e : pA live pw' x = pA live pw x := f20 o7 h0 h1
    rw [e]; exact x1 x h0 h1
  · rw [ea] at h1
    have e : nA live rain' x = nA live rain x := f14 o13 h0 h1
    rw [e]; exact x2 x h0 h1
  · rw [en] at h1
    have e : rO live water' x = rO live water x := f12 o3 h0 h1
    rw [e]; exact y1 x h0 h1
  · rw [ev] at h1
    have e : hA live need' x = hA live need x := f6 o16 h0 h1
    rw [e]; exact n1 x h0 h1
  · rw [ev] at h1
    have e2 : hA live lf' x = hA live lf x := f6 o17 h0 h1
    have e3 : hA live lt' x = hA live lt_ x := f6 o18 h0 h1
    rw [e2, e3]; exact l1 x h0 h1
