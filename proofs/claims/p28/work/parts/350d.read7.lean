/-! the reference's unit and expression -/
/-- the codes off the side's own part are as they were -/
def FR (s : Int32) (code ci code0 ci0 : Nat → Int32) : Prop := OFF (420 * s.toInt) (420 * s.toInt + 420) code code0 ∧ OFF (420 * s.toInt) (420 * s.toInt + 420) ci ci0
theorem CO.fr {s : Int32} {code0 ci0 : Nat → Int32} {a codes : Int32} {code ci : Nat → Int32} {p : Nat} {e t : Int} (h : CO s code0 ci0 a codes code ci p e t) : FR s code ci code0 ci0 := ⟨OFF_w h.2.2.2.2.1 h.1 (Int.le_refl _), OFF_w h.2.2.2.2.2 h.1 (Int.le_refl _)⟩
theorem s_X7_unit {s : Int32} {code0 ci0 : Nat → Int32} {a : Int32} {p : Nat} {C : Int} (nm_ : Int32) (kind pl val : Nat → Int32) (tn no : Nat → Int64) (na : Nat → Int32) (t f fp w wp codes : Int32) (code ci : Nat → Int32) (hs : rg s 0 1) (h : T4 t f) (hw : 0 ≤ w.toInt ∧ w.toInt ≤ 9) (hn : 0 ≤ nm_.toInt ∧ nm_.toInt ≤ 20) (hC0 : 0 ≤ C) (hC : C ≤ 12) (hN : NT nm_ na C) (hp : p ≤ 100) (hF : FR s code ci code0 ci0) (hJ : f.toInt = 0 → CO s code0 ci0 a codes code ci p 0 t.toInt) : ok (f_X7_unit nm_ kind pl val tn no na t f fp w wp codes code ci) (fun r => Adv 1 t f r.1 r.2.1 ∧ W9 w r.2.2.2.1 ∧ FR s r.2.2.2.2.2.2.1 r.2.2.2.2.2.2.2 code0 ci0 ∧ (r.2.1.toInt = 0 → CO s code0 ci0 a r.2.2.2.2.2.1 r.2.2.2.2.2.2.1 r.2.2.2.2.2.2.2 p 1 r.1.toInt)) := by
  have h1 := h.1
  have h2 := h.2
  have s0 := hs.1
  have s1 := hs.2
  -- what one emit does
  have em : f.toInt = 0 → ∀ (k v : Int32), k.toInt = 0 ∨ (k.toInt = 1 ∧ rg v 0 16) → ok (f_X7_emit codes code ci k v) (fun r => CO s code0 ci0 a r.1 r.2.1 r.2.2 p 1 (t.toInt + 1)) := by
    intro hf k v hk
    have hc := hJ hf
    have g1 := hc.1
    have g2 := hc.2.1
    have g3 := hc.2.2.1
    refine ok_w (s_X7_emit codes code ci k v (by omega) (by omega)) (fun r hr => ?_)
    exact CO_emit hs hc (by omega) hr.1 hr.2.1 hr.2.2 (by omega) (fun _ => ⟨by omega, by omega, by omega, fun q => hk.elim (fun z => absurd (z_of rfl z) q) (fun z => z.2)⟩) (fun z => by omega) (by omega)
  have b88 : ok (f_X7_unit_b88 nm_ kind pl tn no na t f fp w wp codes code ci) (fun r => Adv 1 t f r.1 r.2.1 ∧ W9 w r.2.2.2.1 ∧ FR s r.2.2.2.2.2.2.1 r.2.2.2.2.2.2.2 code0 ci0 ∧ (r.2.1.toInt = 0 → CO s code0 ci0 a r.2.2.2.2.2.1 r.2.2.2.2.2.2.1 r.2.2.2.2.2.2.2 p 1 r.1.toInt)) := by
    unfold f_X7_unit_b88
    refine ok_bd (s_X7_is t f kind 25 h) (fun o1 ho => ok_if (fun c => ?_) (fun c => ?_))
    · refine ok_bd2 (s_X7_fail t pl f fp 1 h (by decide)) (fun x y hq => ok_some ⟨Adv_f h hq, ⟨hw, fun z => z⟩, hF, fun z => ?_⟩)
      change x.toInt = 0 at z
      change 1 ≤ x.toInt ∧ x.toInt ≤ 9 at hq
      omega
    · have hf := (ho.2.2 (z_ne (k := 0) rfl c)).1
      refine ok_bd3 (s_X7_goesOn pl t f fp h) (fun t1 f1 p1 hg => ?_)
      refine ok_bd6 (s_X7_cellAt nm_ kind pl tn no na t1 f1 p1 w wp (C := C) hg.1.t4 hw hn hC0 hN) (fun c0 t2 f2 p2 w2 wp2 hc => ?_)
      obtain ⟨c1, c2, c3, c4⟩ := hc
      change Adv 1 t1 f1 t2 f2 at c1
      change W9 w w2 at c2
      change -1 ≤ c0.toInt ∧ c0.toInt < C at c3
      have fin : ∀ v : Int32, rg v 0 16 → ok (f_X7_unit_b120 t2 f2 p2 w2 wp2 codes code ci 1 v) (fun r => Adv 1 t f r.1 r.2.1 ∧ W9 w r.2.2.2.1 ∧ FR s r.2.2.2.2.2.2.1 r.2.2.2.2.2.2.2 code0 ci0 ∧ (r.2.1.toInt = 0 → CO s code0 ci0 a r.2.2.2.2.2.1 r.2.2.2.2.2.2.1 r.2.2.2.2.2.2.2 p 1 r.1.toInt)) := by
        intro v hv
        unfold f_X7_unit_b120
        refine ok_bd3 (em hf 1 v (Or.inr ⟨rfl, hv⟩)) (fun x y z hr => ok_some ⟨(hg.1.tr c1 (m := 2) rfl).w (by decide), c2, hr.fr, fun q => ?_⟩)
        have a2 := (hg.1.tr c1 (m := 2) rfl).2.2.2 q
        exact CO_w hr rfl (by show t.toInt + 1 + (p : Int) ≤ t2.toInt + p; omega)
      refine ok_if (fun _ => fin 0 ⟨by decide, by decide⟩) (fun d => fin _ ?_)
      have d2 := z_ne (k := -1) (by decide) d
      exact rg_w (rg_add (x := 5) (y := c0) (a := 5) (b := 5) (c := 0) (d := 11) (e := 5) (f := 16) ⟨by decide, by decide⟩ ⟨by omega, by omega⟩ (by decide) (by decide) (by decide) (by decide)) (by decide) (by decide)
  unfold f_X7_unit
  refine ok_bd (s_X7_is t f kind 2 h) (fun o1 ho => ok_if (fun c => ?_) (fun c => ?_))
  · refine ok_if (fun d => ?_) (fun _ => b88)
    have hf := z_eq (k := 0) rfl d
    refine ok_ck (inb_k h1.1 (by omega)) (ok_if (fun _ => b88) (fun e1 => ok_ck (inb_k h1.1 (by omega)) (ok_if (fun _ => b88) (fun e2 => ok_ck (inb_k h1.1 (by omega)) ?_))))
    have k1 := nlt_k (k := 26) rfl e1
    have k2 := k_nlt (k := 30) rfl e2
    have tv := sub_k (x := kind t.toNatClampNeg) (v := 26) (k := 26) rfl (by omega) (by omega)
    refine ok_bd3 (em hf 1 (kind t.toNatClampNeg - 26) (Or.inr ⟨rfl, ⟨by omega, by omega⟩⟩)) (fun x y z hr => ?_)
    refine ok_bd3 (s_X7_goesOn pl t f fp h) (fun t1 f1 p1 hg => ?_)
    change Adv 1 t f t1 f1 ∧ t1.toInt ≤ t.toInt + 1 at hg
    refine ok_some ⟨hg.1, ⟨hw, fun z => z⟩, hr.fr, fun q => ?_⟩
    have a2 := hg.1.2.2.2 q
    exact CO_w hr rfl (by show t.toInt + 1 + (p : Int) ≤ t1.toInt + p; omega)
  · have hf := (ho.2.2 (z_ne (k := 0) rfl c)).1
    refine ok_ck (inb_k h1.1 (by omega)) (ok_bd3 (em hf 0 (val t.toNatClampNeg) (Or.inl rfl)) (fun x y z hr => ?_))
    refine ok_bd3 (s_X7_goesOn pl t f fp h) (fun t1 f1 p1 hg => ?_)
    change Adv 1 t f t1 f1 ∧ t1.toInt ≤ t.toInt + 1 at hg
    refine ok_some ⟨hg.1, ⟨hw, fun z => z⟩, hr.fr, fun q => ?_⟩
    have a2 := hg.1.2.2.2 q
    exact CO_w hr rfl (by show t.toInt + 1 + (p : Int) ≤ t1.toInt + p; omega)
/-- how it stands in a law: with e = 0 ahead of a unit, with e = 1 behind it -/
def JX (s : Int32) (code0 ci0 : Nat → Int32) (a : Int32) (t op codes waiting : Int32) (code ci waits : Nat → Int32) (e : Int) : Prop := ∃ w o p m : Nat, waiting.toInt = w ∧ op.toInt = o ∧ o ≤ 6 ∧ SH waits w o p m ∧ CO s code0 ci0 a codes code ci p e t.toInt
abbrev XT : Type := Int32 × Int32 × Int32 × Int32 × Int32 × Int32 × Int32 × Int32 × (Nat → Int32) × (Nat → Int32) × (Nat → Int32)
/-- what a law leaves -/
def XQ (s : Int32) (code0 ci0 : Nat → Int32) (a t0 f0 w0 : Int32) (r : XT) : Prop := Adv 1 t0 f0 r.1 r.2.2.1 ∧ W9 w0 r.2.2.2.2.1 ∧ FR s r.2.2.2.2.2.2.2.2.1 r.2.2.2.2.2.2.2.2.2.1 code0 ci0 ∧ (r.2.2.1.toInt = 0 → r.2.1.toInt = 0 ∧ CO s code0 ci0 a r.2.2.2.2.2.2.1 r.2.2.2.2.2.2.2.2.1 r.2.2.2.2.2.2.2.2.2.1 0 1 r.1.toInt)
abbrev X12 : Type := Int32 → Int32 → Int32 → Int32 → Int32 → Int32 → Int32 → Int32 → (Nat → Int32) → (Nat → Int32) → (Nat → Int32) → Int32 → Int32 → Option XT
theorem s_ex204 {s : Int32} {code0 ci0 : Nat → Int32} {a t0 f0 w0 : Int32} (k12 : X12) (t op f fp w wp codes waiting : Int32) (code ci waits : Nat → Int32) (hs : rg s 0 1) (hA : Adv 1 t0 f0 t f) (hW : W9 w0 w) (hJ : JX s code0 ci0 a t op codes waiting code ci waits 1) (h0 : f.toInt = 0 → op.toInt ≤ 0) : ok (f_X7_expression_b204 k12 t op f fp w wp codes waiting code ci waits) (XQ s code0 ci0 a t0 f0 w0) := by
  unfold f_X7_expression_b204
  obtain ⟨n, o, p, m, j1, j2, j3, j4, j5⟩ := hJ
  have tb := hA.1
  refine ok_bd4 (s_X7_comesOut waits codes waiting code ci 0 hs (by omega) tb.2 j1 j4 j5) (fun x0 x1 x2 x3 hr => ok_some ?_)
  obtain ⟨w', p', m', r1, r2, r3, r4, r5, r6⟩ := hr
  have m0 := r5 rfl
  refine ⟨hA, hW, CO.fr r6, fun z => ?_⟩
  have z2 := h0 z
  have o0 : o = 0 := by omega
  have hb := SH_n r2
  have p0 : p' = 0 := by omega
  refine ⟨by show op.toInt = 0; omega, ?_⟩
  rw [p0] at r6
  exact r6
theorem s_ex234 {s : Int32} {code0 ci0 : Nat → Int32} {a t0 f0 w0 : Int32} (k12 : X12) (nm_ : Int32) (kind pl val : Nat → Int32) (tn no : Nat → Int64) (na : Nat → Int32) (t op f fp w wp codes waiting : Int32) (code ci waits : Nat → Int32) (x1 x2 q : Int32) (hs : rg s 0 1) (hA : Adv 1 t0 f0 t f) (hW : W9 w0 w) (hJ : JX s code0 ci0 a t op codes waiting code ci waits 1) (hf : f.toInt = 0) (hq : (q = 0 ∧ (kind t.toNatClampNeg = 8 ∨ kind t.toNatClampNeg = 9)) ∨ (kind t.toNatClampNeg = 10 ∨ kind t.toNatClampNeg = 15)) (hx : x1.toInt = 0) (hk : ∀ t' f' fp' codes' waiting' code' ci' waits', Adv 1 t0 f0 t' f' → t.toInt ≤ t'.toInt → FR s code' ci' code0 ci0 → (f'.toInt = 0 → JX s code0 ci0 a t' op codes' waiting' code' ci' waits' 0) → ok (k12 t' op f' fp' w wp codes' waiting' code' ci' waits' x1 x2) (XQ s code0 ci0 a t0 f0 w0)) : ok (f_X7_expression_b234 k12 nm_ kind pl val tn no na t op f fp w wp codes waiting code ci waits x1 x2 q) (XQ s code0 ci0 a t0 f0 w0) := by
  unfold f_X7_expression_b234
  obtain ⟨n, o, p, m, j1, j2, j3, j4, j5⟩ := hJ
  have tb := hA.1
  refine ok_bd4 (s_X7_comesOut waits codes waiting code ci q hs (by omega) tb.2 j1 j4 j5) (fun y0 y1 y2 y3 hr => ?_)
  obtain ⟨w', p', m', r1, r2, r3, r4, r5, r6⟩ := hr
  change y1.toInt = w' at r1
  change CO s code0 ci0 a y0 y2 y3 p' 1 t.toInt at r6
  have hb := SH_n r2
  refine ok_ck (inb_k tb.1 (by omega)) (ok_ck (inb_k (by omega) (by omega)) (ok_nm (fun a4 e4 => ?_)))
  have cy := cl_k (x := y1) (by omega)
  have ey : y1.toNatClampNeg = w' := by omega
  rw [ey] at e4
  have c4 : ∀ i, i < w' → a4 i = waits i := fun i hi => by rw [e4, upd, if_neg (by omega)]
  have v4 : a4 w' = kind t.toNatClampNeg := by rw [e4, upd, if_pos rfl]
  have t1 := add_k (x := y1) (v := 1) (k := 1) rfl (by omega) (by omega)
  have hS : ∃ m2 : Nat, SH a4 (w' + 1) o (p' + 1) m2 := by
    rcases hq with ⟨q0, qk⟩ | qk
    · have m0 := r5 q0
      rw [m0] at r2
      exact ⟨1, Or.inr (Or.inl ⟨by rw [v4]; exact qk, rfl, p', rfl, SH_cg r2 c4⟩)⟩
    · exact ⟨2, Or.inr (Or.inr ⟨by rw [v4]; exact qk, rfl, p', m', rfl, r4, SH_cg r2 c4⟩)⟩
  obtain ⟨m2, hS2⟩ := hS
  refine ok_bd3 (s_X7_goesOn pl t f fp hA.t4) (fun t' f' fp' hg => ?_)
  change Adv 1 t f t' f' ∧ t'.toInt ≤ t.toInt + 1 at hg
  refine hk t' f' fp' y0 (y1 + 1) y2 y3 a4 ((hA.tr hg.1 (m := 2) rfl).w (by decide)) hg.1.2.2.1 r6.fr (fun z => ?_)
  have g2 := hg.1.2.2.2 z
  refine ⟨w' + 1, o, p' + 1, m2, by omega, j2, j3, hS2, ?_⟩
  exact CO_w r6 (by omega) (by omega)
theorem s_ex145 {s : Int32} {code0 ci0 : Nat → Int32} {a t0 f0 w0 : Int32} (k12 : X12) (nm_ : Int32) (kind pl val : Nat → Int32) (tn no : Nat → Int64) (na : Nat → Int32) (t op f fp w wp codes waiting : Int32) (code ci waits : Nat → Int32) (x1 : Int32) (hs : rg s 0 1) (hA : Adv 1 t0 f0 t f) (hW : W9 w0 w) (hJ : JX s code0 ci0 a t op codes waiting code ci waits 1) (hx : x1.toInt = 0) (hk : ∀ t' f' fp' codes' waiting' code' ci' waits', Adv 1 t0 f0 t' f' → t.toInt ≤ t'.toInt → FR s code' ci' code0 ci0 → (f'.toInt = 0 → JX s code0 ci0 a t' op codes' waiting' code' ci' waits' 0) → ok (k12 t' op f' fp' w wp codes' waiting' code' ci' waits' x1 1) (XQ s code0 ci0 a t0 f0 w0)) : ok (f_X7_expression_b145 k12 nm_ kind pl val tn no na t op f fp w wp codes waiting code ci waits x1) (XQ s code0 ci0 a t0 f0 w0) := by
  have h4 := hA.t4
  -- no sign
  have stop : ok (f_X7_expression_b186 k12 nm_ kind pl val tn no na t op f fp w wp codes waiting code ci waits x1 0) (XQ s code0 ci0 a t0 f0 w0) := by
    unfold f_X7_expression_b186
    rw [if_pos rfl]
    refine ok_if (fun c => ?_) (fun c => ?_)
    · have c2 := ti_le c
      exact s_ex204 k12 t op f fp w wp codes waiting code ci waits hs hA hW hJ (fun _ => by omega)
    · refine ok_bd2 (s_X7_fail t pl f fp 1 h4 (by decide)) (fun f' fp' hq => ?_)
      change 1 ≤ f'.toInt ∧ f'.toInt ≤ 9 at hq
      exact s_ex204 k12 t op f' fp' w wp codes waiting code ci waits hs (((hA.tr (Adv_f (k := 0) h4 hq) (m := 1) rfl))) hW hJ (fun z => by omega)
  have go : f.toInt = 0 → (kind t.toNatClampNeg = 8 ∨ kind t.toNatClampNeg = 9 ∨ kind t.toNatClampNeg = 10 ∨ kind t.toNatClampNeg = 15) → ok (f_X7_expression_b186 k12 nm_ kind pl val tn no na t op f fp w wp codes waiting code ci waits x1 1) (XQ s code0 ci0 a t0 f0 w0) := by
    intro hf hc
    unfold f_X7_expression_b186
    rw [if_neg (by decide)]
    refine ok_bd (s_X7_is t f kind 10 h4) (fun o2 h2 => ok_if (fun d => ?_) (fun d => ?_))
    · refine ok_bd (s_X7_is t f kind 15 h4) (fun o4 h5 => ok_if (fun e => ?_) (fun e => ?_))
      · have d2 := (h2.2.1 (z_eq (k := 0) rfl d)).resolve_left (fun q => q hf)
        have e2 := (h5.2.1 (z_eq (k := 0) rfl e)).resolve_left (fun q => q hf)
        refine s_ex234 k12 nm_ kind pl val tn no na t op f fp w wp codes waiting code ci waits x1 1 0 hs hA hW hJ hf (Or.inl ⟨rfl, ?_⟩) hx (fun t' f' fp' codes' waiting' code' ci' waits' => hk t' f' fp' codes' waiting' code' ci' waits')
        rcases hc with q | q | q | q
        · exact Or.inl q
        · exact Or.inr q
        · exact absurd q d2
        · exact absurd q e2
      · have e2 := (h5.2.2 (z_ne (k := 0) rfl e)).2
        exact s_ex234 k12 nm_ kind pl val tn no na t op f fp w wp codes waiting code ci waits x1 1 1 hs hA hW hJ hf (Or.inr (Or.inr e2)) hx (fun t' f' fp' codes' waiting' code' ci' waits' => hk t' f' fp' codes' waiting' code' ci' waits')
    · have d2 := (h2.2.2 (z_ne (k := 0) rfl d)).2
      exact s_ex234 k12 nm_ kind pl val tn no na t op f fp w wp codes waiting code ci waits x1 1 1 hs hA hW hJ hf (Or.inr (Or.inl d2)) hx (fun t' f' fp' codes' waiting' code' ci' waits' => hk t' f' fp' codes' waiting' code' ci' waits')
  unfold f_X7_expression_b145
  refine ok_bd (s_X7_is t f kind 8 h4) (fun o1 h1 => ok_if (fun _ => ?_) (fun d => ?_))
  · refine ok_bd (s_X7_is t f kind 9 h4) (fun o3 h3 => ok_if (fun _ => ?_) (fun d => ?_))
    · refine ok_bd (s_X7_is t f kind 10 h4) (fun o5 h5 => ok_if (fun _ => ?_) (fun d => ?_))
      · refine ok_bd (s_X7_is t f kind 15 h4) (fun o7 h7 => ok_if (fun _ => stop) (fun d => ?_))
        have d2 := h7.2.2 (z_ne (k := 0) rfl d)
        exact go d2.1 (Or.inr (Or.inr (Or.inr d2.2)))
      · have d2 := h5.2.2 (z_ne (k := 0) rfl d)
        exact go d2.1 (Or.inr (Or.inr (Or.inl d2.2)))
    · have d2 := h3.2.2 (z_ne (k := 0) rfl d)
      exact go d2.1 (Or.inr (Or.inl d2.2))
  · have d2 := h1.2.2 (z_ne (k := 0) rfl d)
    exact go d2.1 (Or.inl d2.2)
theorem s_ex96 {s : Int32} {code0 ci0 : Nat → Int32} {a t0 f0 w0 : Int32} (k12 : X12) (nm_ : Int32) (kind pl val : Nat → Int32) (tn no : Nat → Int64) (na : Nat → Int32) (tb w wp x1 : Int32) (waits : Nat → Int32) (hs : rg s 0 1) (hW : W9 w0 w) (hx : x1.toInt = 0) (hk : ∀ t' op' f' fp' codes' waiting' code' ci' waits', Adv 1 t0 f0 t' f' → tb.toInt ≤ t'.toInt → FR s code' ci' code0 ci0 → (f'.toInt = 0 → JX s code0 ci0 a t' op' codes' waiting' code' ci' waits' 0) → ok (k12 t' op' f' fp' w wp codes' waiting' code' ci' waits' x1 1) (XQ s code0 ci0 a t0 f0 w0)) : ∀ (n : Nat) (t op f fp codes waiting : Int32) (code ci : Nat → Int32), Adv 1 t0 f0 t f → tb.toInt ≤ t.toInt → JX s code0 ci0 a t op codes waiting code ci waits 1 → op.toInt < n → ok (f_X7_expression_b96 k12 nm_ kind pl val tn no na n t op f fp w wp codes waiting code ci waits x1) (XQ s code0 ci0 a t0 f0 w0) := by
  intro n
  induction n with
  | zero =>
    intro t op f fp codes waiting code ci _ _ hJ hn
    obtain ⟨w_, o, p, m, j1, j2, j3, j4, j5⟩ := hJ
    omega
  | succ n ih =>
    intro t op f fp codes waiting code ci hA htb hJ hn
    show ok (f_X7_expression_b96_st (f_X7_expression_b96 k12 nm_ kind pl val tn no na n) k12 nm_ kind pl val tn no na t op f fp w wp codes waiting code ci waits x1) _
    unfold f_X7_expression_b96_st
    have out := s_ex145 k12 nm_ kind pl val tn no na t op f fp w wp codes waiting code ci waits x1 hs hA hW hJ hx (fun t' f' fp' codes' waiting' code' ci' waits' b1 b2 => hk t' op f' fp' codes' waiting' code' ci' waits' b1 (by omega))
    refine ok_bd (s_X7_is t f kind 7 hA.t4) (fun o1 h1 => ok_if (fun _ => out) (fun d => ok_if (fun _ => out) (fun e => ?_)))
    have e2 := ti_nle e
    obtain ⟨w_, o, p, m, j1, j2, j3, j4, j5⟩ := hJ
    have tbn := hA.1
    refine ok_bd4 (s_X7_comesOut waits codes waiting code ci 0 hs (by omega) tbn.2 j1 j4 j5) (fun y0 y1 y2 y3 hr => ?_)
    obtain ⟨w', p', m', r1, r2, r3, r4, r5, r6⟩ := hr
    change y1.toInt = w' at r1
    change CO s code0 ci0 a y0 y2 y3 p' 1 t.toInt at r6
    have m0 := r5 rfl
    rw [m0] at r2
    have hb := SH_n r2
    refine ok_bd3 (s_X7_goesOn pl t f fp hA.t4) (fun t' f' fp' hg => ?_)
    change Adv 1 t f t' f' ∧ t'.toInt ≤ t.toInt + 1 at hg
    have g1 := hg.1.2.2.1
    have to := sub_k (x := op) (v := 1) (k := 1) rfl (by omega) (by omega)
    have ty := sub_k (x := y1) (v := 1) (k := 1) rfl (by omega) (by omega)
    obtain ⟨v, rfl⟩ : ∃ v, w' = v + 1 := ⟨w' - 1, by omega⟩
    rcases r2 with ⟨_, _, o', m2, eo, h⟩ | ⟨_, q, _⟩ | ⟨_, q, _⟩
    · exact ih t' (op - 1) f' fp' y0 (y1 - 1) y2 y3 ((hA.tr hg.1 (m := 2) rfl).w (by decide)) (by omega) ⟨v, o', p', m2, by omega, by omega, by omega, h, CO_w r6 rfl (by omega)⟩ (by omega)
    · omega
    · omega
theorem s_ex23 {s : Int32} {code0 ci0 : Nat → Int32} {a t0 f0 w0 : Int32} {C : Int} (k12 : X12) (nm_ : Int32) (kind pl val : Nat → Int32) (tn no : Nat → Int64) (na : Nat → Int32) (tb w wp x1 : Int32) (hs : rg s 0 1) (hW : W9 w0 w) (hx : x1.toInt = 0) (hn_ : 0 ≤ nm_.toInt ∧ nm_.toInt ≤ 20) (hC0 : 0 ≤ C) (hC : C ≤ 12) (hN : NT nm_ na C) (hk : ∀ t' op' f' fp' w' wp' codes' waiting' code' ci' waits', Adv 1 t0 f0 t' f' → W9 w0 w' → tb.toInt + 1 ≤ t'.toInt → FR s code' ci' code0 ci0 → (f'.toInt = 0 → JX s code0 ci0 a t' op' codes' waiting' code' ci' waits' 0) → ok (k12 t' op' f' fp' w' wp' codes' waiting' code' ci' waits' x1 1) (XQ s code0 ci0 a t0 f0 w0)) : ∀ (n : Nat) (t op f fp codes waiting : Int32) (code ci waits : Nat → Int32), Adv 0 t0 f0 t f → tb.toInt ≤ t.toInt → 0 ≤ op.toInt → op.toInt ≤ 7 → FR s code ci code0 ci0 → (f.toInt = 0 → JX s code0 ci0 a t op codes waiting code ci waits 0) → (8 - op.toInt).toNat < n → ok (f_X7_expression_b23 k12 nm_ kind pl val tn no na n t op f fp w wp codes waiting code ci waits x1) (XQ s code0 ci0 a t0 f0 w0) := by
  intro n
  induction n with
  | zero => intro t op f fp codes waiting code ci waits _ _ _ _ _ _ h; exact absurd h (Nat.not_lt_zero _)
  | succ n ih =>
    intro t op f fp codes waiting code ci waits hA htb o0 o7 hF hJ hn
    show ok (f_X7_expression_b23_st (f_X7_expression_b23 k12 nm_ kind pl val tn no na n) k12 nm_ kind pl val tn no na t op f fp w wp codes waiting code ci waits x1) _
    unfold f_X7_expression_b23_st
    have h4 := hA.t4
    have f4 := h4.2
    refine ok_bd (s_X7_is t f kind 6 h4) (fun o1 h1 => ok_if (fun d => ?_) (fun d => ?_))
    · -- the unit
      have big : ∃ w_ o p m : Nat, (f.toInt = 0 → waiting.toInt = w_ ∧ op.toInt = o ∧ o ≤ 6 ∧ SH waits w_ o p m ∧ CO s code0 ci0 a codes code ci p 0 t.toInt) ∧ p ≤ 100 := by
        rcases (show f.toInt = 0 ∨ ¬ f.toInt = 0 by omega) with z | z
        · obtain ⟨w_, o, p, m, j1, j2, j3, j4, j5⟩ := hJ z
          have hb := SH_n j4
          exact ⟨w_, o, p, m, fun _ => ⟨j1, j2, j3, j4, j5⟩, by omega⟩
        · exact ⟨0, 0, 0, 0, fun q => absurd q z, by omega⟩
      obtain ⟨w_, o, p, m, jj, pb⟩ := big
      refine ok_bd8 (s_X7_unit (s := s) (code0 := code0) (ci0 := ci0) (a := a) (p := p) (C := C) nm_ kind pl val tn no na t f fp w wp codes code ci hs h4 hW.1 hn_ hC0 hC hN pb hF (fun z => (jj z).2.2.2.2)) (fun u0 u1 u2 u3 u4 u5 u6 u7 hr => ?_)
      obtain ⟨r1, r2, r3, r4⟩ := hr
      change Adv 1 t f u0 u1 at r1
      change W9 w u3 at r2
      change FR s u6 u7 code0 ci0 at r3
      change u1.toInt = 0 → CO s code0 ci0 a u5 u6 u7 p 1 u0.toInt at r4
      have rA := hA.tr r1 (m := 1) rfl
      refine ok_if (fun e => ?_) (fun e => ok_some ⟨rA, hW.tr r2, r3, fun z => ?_⟩)
      · have e2 := le_k (k := 0) rfl e
        have u10 := r1.2.1
        have fz : u1.toInt = 0 := by omega
        have g := r1.2.2.2 fz
        obtain ⟨j1, j2, j3, j4, _⟩ := jj g.1
        refine s_ex96 k12 nm_ kind pl val tn no na u0 u3 u4 x1 waits hs (hW.tr r2) hx (fun t' op' f' fp' codes' waiting' code' ci' waits' b1 b2 => hk t' op' f' fp' u3 u4 codes' waiting' code' ci' waits' b1 (hW.tr r2) (by omega)) fuel u0 op u1 u2 u5 waiting u6 u7 rA (Int.le_refl _) ⟨w_, o, p, m, j1, j2, j3, j4, r4 fz⟩ (by unfold fuel; omega)
      · have e2 := nle_k (k := 0) rfl e
        change u1.toInt = 0 at z
        omega
    · -- an open
      have d2 := h1.2.2 (z_ne (k := 0) rfl d)
      obtain ⟨w_, o, p, m, j1, j2, j3, j4, j5⟩ := hJ d2.1
      have hb := SH_n j4
      have to := add_k (x := op) (v := 1) (k := 1) rfl (by omega) (by omega)
      have tw := add_k (x := waiting) (v := 1) (k := 1) rfl (by omega) (by omega)
      have cw := cl_k (x := waiting) (by omega)
      have ew : waiting.toNatClampNeg = w_ := by omega
      have b46 : ∀ (f1 fp1 : Int32), T4 t f1 → (f1.toInt = 0 → f.toInt = 0 ∧ op.toInt ≤ 5) → Adv 0 t0 f0 t f1 → ok (f_X7_expression_b46 k12 (f_X7_expression_b23 k12 nm_ kind pl val tn no na n) nm_ kind pl val tn no na t op f1 fp1 w wp codes waiting code ci waits x1) (XQ s code0 ci0 a t0 f0 w0) := by
        intro f1 fp1 h41 hf1 hA1
        unfold f_X7_expression_b46
        refine ok_bd3 (s_X7_goesOn pl t f1 fp1 h41) (fun t' f' fp' hg => ?_)
        change Adv 1 t f1 t' f' ∧ t'.toInt ≤ t.toInt + 1 at hg
        refine ok_ck (inb_k (by omega) (by omega)) (ok_nm (fun a3 e3 => ?_))
        rw [ew] at e3
        have g1 := hg.1.2.2.1
        refine ih t' (op + 1) f' fp' codes (waiting + 1) code ci a3 ((hA1.tr hg.1 (m := 1) rfl).w (by decide)) (by omega) (by omega) (by omega) hF (fun z => ?_) (by omega)
        have g2 := hg.1.2.2.2 z
        have g3 := hf1 g2.1
        refine ⟨w_ + 1, o + 1, p, 0, by omega, by omega, by omega, Or.inl ⟨by rw [e3, upd, if_pos rfl], rfl, o, m, rfl, SH_cg j4 (fun i hi => by rw [e3, upd, if_neg (by omega)])⟩, CO_w j5 rfl (by omega)⟩
      refine ok_if (fun e => ?_) (fun e => ?_)
      · refine ok_bd2 (s_X7_fail t pl f fp 2 h4 (by decide)) (fun f' fp' hq => ?_)
        change 1 ≤ f'.toInt ∧ f'.toInt ≤ 9 at hq
        exact b46 f' fp' ⟨h4.1, by omega⟩ (fun z => by omega) (hA.tr (Adv_f (k := 0) h4 hq) rfl)
      · have e2 := z_ne (k := 6) rfl e
        exact b46 f fp h4 (fun z => ⟨z, by omega⟩) hA
theorem s_ex12 {s : Int32} {code0 ci0 : Nat → Int32} {a t0 f0 w0 : Int32} {C : Int} (nm_ : Int32) (kind pl val : Nat → Int32) (tn no : Nat → Int64) (na : Nat → Int32) (x1 : Int32) (hs : rg s 0 1) (hx : x1.toInt = 0) (hn_ : 0 ≤ nm_.toInt ∧ nm_.toInt ≤ 20) (hC0 : 0 ≤ C) (hC : C ≤ 12) (hN : NT nm_ na C) : ∀ (n : Nat) (t op f fp w wp codes waiting : Int32) (code ci waits : Nat → Int32) (x2 : Int32), Adv 0 t0 f0 t f → W9 w0 w → FR s code ci code0 ci0 → (f.toInt = 0 → JX s code0 ci0 a t op codes waiting code ci waits 0) → (f.toInt = 0 → ¬ x2 = 0) → (¬ f.toInt = 0 → Adv 1 t0 f0 t f) → (401 - t.toInt).toNat < n → ok (f_X7_expression_b12 nm_ kind pl val tn no na n t op f fp w wp codes waiting code ci waits x1 x2) (XQ s code0 ci0 a t0 f0 w0) := by
  intro n
  induction n with
  | zero => intro t op f fp w wp codes waiting code ci waits x2 _ _ _ _ _ _ h; exact absurd h (Nat.not_lt_zero _)
  | succ n ih =>
    intro t op f fp w wp codes waiting code ci waits x2 hA hW hF hJ h2 hf1 hn
    show ok (f_X7_expression_b12_st (f_X7_expression_b12 nm_ kind pl val tn no na n) nm_ kind pl val tn no na t op f fp w wp codes waiting code ci waits x1 x2) _
    unfold f_X7_expression_b12_st
    have tb := hA.1
    have bad : ¬ f.toInt = 0 → ok (some (t, op, f, fp, w, wp, codes, waiting, code, ci, waits)) (XQ s code0 ci0 a t0 f0 w0) := fun z => ok_some ⟨hf1 z, hW, hF, fun q => absurd q z⟩
    refine ok_if (fun c => ?_) (fun c => ok_if (fun d => ?_) (fun d => bad (z_ne (k := 0) rfl d)))
    · exact bad (fun z => h2 z c)
    · have d2 := z_eq (k := 0) rfl d
      have J := hJ d2
      obtain ⟨w_, o, p, m, j1, j2, j3, j4, j5⟩ := J
      refine s_ex23 (C := C) _ nm_ kind pl val tn no na t w wp x1 hs hW hx hn_ hC0 hC hN (fun t' op' f' fp' w' wp' codes' waiting' code' ci' waits' b1 b2 b3 b4 b5 => ?_) fuel t op f fp codes waiting code ci waits hA (Int.le_refl _) (by omega) (by omega) hF hJ (by unfold fuel; omega)
      exact ih t' op' f' fp' w' wp' codes' waiting' code' ci' waits' 1 (b1.w (by decide)) b2 b4 b5 (fun _ => by decide) (fun _ => b1) (by have := b1.1; omega)
theorem s_X7_expression {s : Int32} {C : Int} (nm_ : Int32) (kind pl val : Nat → Int32) (tn no : Nat → Int64) (na : Nat → Int32) (t op f fp w wp codes waiting : Int32) (code ci waits : Nat → Int32) (hs : rg s 0 1) (h : T4 t f) (hf : f.toInt = 0) (hw : 0 ≤ w.toInt ∧ w.toInt ≤ 9) (ho : op.toInt = 0) (hn_ : 0 ≤ nm_.toInt ∧ nm_.toInt ≤ 20) (hC0 : 0 ≤ C) (hC : C ≤ 12) (hN : NT nm_ na C) (hc0 : 420 * s.toInt ≤ codes.toInt) (hc1 : codes.toInt ≤ 420 * s.toInt + t.toInt) : ok (f_X7_expression nm_ kind pl val tn no na t op f fp w wp codes waiting code ci waits) (XQ s code ci codes t f w) := by
  unfold f_X7_expression
  have e0 : (0 : Int32).toInt = 0 := rfl
  have tb := h.1
  have hCO : CO s code ci codes codes code ci 0 0 t.toInt := ⟨hc0, Int.le_refl _, by omega, CW_0 code ci _, OFF_rf _ _ _, OFF_rf _ _ _⟩
  exact s_ex12 (C := C) nm_ kind pl val tn no na op hs ho hn_ hC0 hC hN fuel t op f fp w wp codes 0 code ci waits 1 (Adv.rf h) ⟨hw, fun z => z⟩ hCO.fr (fun _ => ⟨0, 0, 0, 0, by omega, by omega, by omega, ⟨rfl, rfl, rfl⟩, hCO⟩) (fun _ => by decide) (fun z => absurd hf z) (by unfold fuel; omega)
