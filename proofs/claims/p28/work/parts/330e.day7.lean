/-- a law's code: what it takes off the pile is there -/
def WF (code ci : Nat → Int32) (a b : Int32) : Prop := rg a 0 840 ∧ rg b 0 840 ∧ ∃ D : Nat → Int, D a.toNatClampNeg = 0 ∧ ∀ i : Nat, a.toNatClampNeg ≤ i → (i : Int) < b.toInt → (code i).toInt ≤ 5 ∧ ((code i).toInt < 2 → 0 ≤ D i ∧ D i ≤ 399 ∧ D (i + 1) = D i + 1 ∧ (¬ code i = 0 → rg (ci i) 0 16)) ∧ (2 ≤ (code i).toInt → 2 ≤ D i ∧ D i ≤ 400 ∧ D (i + 1) = D i - 1)
theorem s_to10 {code ci vars : Nat → Int32} {a b : Int32} (hb : rg b 0 840) (ha : rg a 0 840) (D : Nat → Int) (hD : ∀ i : Nat, a.toNatClampNeg ≤ i → (i : Int) < b.toInt → (code i).toInt ≤ 5 ∧ ((code i).toInt < 2 → 0 ≤ D i ∧ D i ≤ 399 ∧ D (i + 1) = D i + 1 ∧ (¬ code i = 0 → rg (ci i) 0 16)) ∧ (2 ≤ (code i).toInt → 2 ≤ D i ∧ D i ≤ 400 ∧ D (i + 1) = D i - 1)) : ∀ (n : Nat) (ib : Int32) (pile : Nat → Int32) (x3 x4 : Int32), rg x4 0 840 → a.toInt ≤ x4.toInt → x3.toInt = D x4.toNatClampNeg → (840 - x4.toInt).toNat < n → ok (f_X7_termOf_b10 code ci vars n ib pile b x3 x4) (fun _ => True) := by
  intro n
  induction n with
  | zero => intro ib pile x3 x4 _ _ _ h; exact absurd h (Nat.not_lt_zero _)
  | succ n ih =>
    intro ib pile x3 x4 h4 ha4 h3 hn
    show ok (f_X7_termOf_b10_st (f_X7_termOf_b10 code ci vars n) code ci vars ib pile b x3 x4) _
    unfold f_X7_termOf_b10_st
    refine ok_if (fun c => ok_ck (by decide) (ok_some trivial)) (fun c => ?_)
    have c2 := ti_nle c
    have h4' : rg x4 0 839 := ⟨h4.1, by have := hb.2; omega⟩
    have s4 := x_suc h4' (by decide)
    have h4a := h4'.1
    have h4b := h4'.2
    have e4 := cl_e h4 (by decide)
    have ea := cl_e ha (by decide)
    obtain ⟨k0, k1, k2⟩ := hD x4.toNatClampNeg (by omega) (by omega)
    have e2 : (2 : Int32).toInt = 2 := rfl
    have e5 : (5 : Int32).toInt = 5 := rfl
    refine ok_ck (inb_rg h4' (by decide) (by decide)) (ok_if (fun d => ?_) (fun d => ?_))
    · have d2 := ti_le d
      obtain ⟨m1, m2, m3⟩ := k2 (by omega)
      have r3 : rg x3 2 400 := ⟨by omega, by omega⟩
      have rm : rg (-1 : Int32) (-1) (-1) := ⟨by decide, by decide⟩
      have t1 : (x3 + (-1 : Int32)).toInt = x3.toInt - 1 := by
        rw [ti_add r3 rm (by decide) (by decide), show (-1 : Int32).toInt = -1 from by decide]
        rfl
      generalize x3 + (-1 : Int32) = z at t1 ⊢
      have q1 : rg z 1 399 := ⟨by omega, by omega⟩
      have r1 : rg (1 : Int32) 1 1 := ⟨by decide, by decide⟩
      have q2 : rg (z - (1 : Int32)) 0 398 := rg_sub (e := 0) (f := 398) q1 r1 (by decide) (by decide) (by decide) (by decide)
      have hk : ∀ p', ok (f_X7_termOf_b10 code ci vars n ib p' b z (x4 + 1)) (fun _ => True) := fun p' => ih ib p' z (x4 + 1) ⟨by have := h4.1; omega, by omega⟩ (by omega) (by rw [s4.2]; omega) (by have := h4.1; omega)
      refine ok_ck (inb_rg q2 (by decide) (by decide)) (ok_nm (fun e6 _ => ok_ck (inb_rg q1 (by decide) (by decide)) ?_))
      have b109 : ∀ x7 : Int32, (code x4.toNatClampNeg = 5 → ¬ x7 = 0) → ok (f_X7_termOf_b109 (f_X7_termOf_b10 code ci vars n) code ci vars ib pile b z x4 (code x4.toNatClampNeg) e6 x7) (fun _ => True) := by
        intro x7 h7
        unfold f_X7_termOf_b109
        refine ok_if (fun _ => ok_ck (inb_rg q2 (by decide) (by decide)) (ok_nm (fun p' _ => hk p'))) (fun n2 => ?_)
        refine ok_if (fun _ => ok_ck (inb_rg q2 (by decide) (by decide)) (ok_nm (fun p' _ => hk p'))) (fun n3 => ?_)
        refine ok_if (fun _ => ok_ck (inb_rg q2 (by decide) (by decide)) (ok_nm (fun p' _ => hk p'))) (fun n4 => ?_)
        have g2 : (code x4.toNatClampNeg).toInt ≠ 2 := fun q => n2 (Int32.toInt_inj.mp q)
        have g3 : (code x4.toNatClampNeg).toInt ≠ 3 := fun q => n3 (Int32.toInt_inj.mp q)
        have g4 : (code x4.toNatClampNeg).toInt ≠ 4 := fun q => n4 (Int32.toInt_inj.mp q)
        have g5 : code x4.toNatClampNeg = 5 := Int32.toInt_inj.mp (show (code x4.toNatClampNeg).toInt = (5 : Int32).toInt by omega)
        exact ok_ck (nz_of (h7 g5)) (ok_ck (inb_rg q2 (by decide) (by decide)) (ok_nm (fun p' _ => hk p')))
      refine ok_if (fun c5 => ok_if (fun _ => ok_some trivial) (fun z => b109 _ (fun _ => z))) (fun c5 => b109 _ (fun q => absurd q c5))
    · have d2 := ti_nle d
      obtain ⟨m1, m2, m3, m4⟩ := k1 (by omega)
      have r3 : rg x3 0 399 := ⟨by omega, by omega⟩
      have s3 := x_suc r3 (by decide)
      have hk : ∀ p', ok (f_X7_termOf_b10 code ci vars n ib p' b (x3 + 1) (x4 + 1)) (fun _ => True) := fun p' => ih ib p' (x3 + 1) (x4 + 1) ⟨by have := h4.1; omega, by omega⟩ (by omega) (by rw [s4.2]; omega) (by have := h4.1; omega)
      refine ok_if (fun _ => ok_ck (inb_rg h4' (by decide) (by decide)) (ok_ck (inb_rg r3 (by decide) (by decide)) (ok_nm (fun p' _ => hk p')))) (fun z => ?_)
      exact ok_ck (inb_rg h4' (by decide) (by decide)) (ok_ck (inb_rg (m4 z) (by decide) (by decide)) (ok_ck (inb_rg r3 (by decide) (by decide)) (ok_nm (fun p' _ => hk p'))))
theorem s_X7_termOf (code ci vars : Nat → Int32) (ib : Int32) (pile : Nat → Int32) (a b : Int32) (h : WF code ci a b) : ok (f_X7_termOf code ci vars ib pile a b) (fun _ => True) := by
  obtain ⟨ha, hb, D, h0, hD⟩ := h
  unfold f_X7_termOf
  exact s_to10 hb ha D hD _ _ _ _ _ ha (Int.le_refl _) h0.symm (by have := ha.1; unfold fuel; omega)
theorem s_wa95 {live : Int32} {lf lt_ code ci : Nat → Int32} {row : Nat → Int64} {x1 : Int32} (hl : rg live 0 1) (hx1 : rg x1 0 5) (hw : WF code ci (hA live lf x1) (hA live lt_ x1)) : ∀ (n : Nat) (ib : Int32) (vars pile : Nat → Int32) (x2 : Int32), rg x2 0 12 → (12 - x2.toInt).toNat < n → ok (f_X7_wantOf_b95 live lf lt_ code ci row n ib vars pile x1 x2) (fun o => rg o.1 0 9999) := by
  intro n
  induction n with
  | zero => intro ib vars pile x2 _ h; exact absurd h (Nat.not_lt_zero _)
  | succ n ih =>
    intro ib vars pile x2 hx hn
    show ok (f_X7_wantOf_b95_st (f_X7_wantOf_b95 live lf lt_ code ci row n) live lf lt_ code ci row ib vars pile x1 x2) _
    unfold f_X7_wantOf_b95_st
    have hi := in_side (K := 6) (k := 6) rfl (by decide) hl hx1 (by decide)
    refine ok_if (fun c => ?_) (fun c => ?_)
    · refine ok_ck (inb_rg hi (by decide) (by decide)) (ok_ck (inb_rg hi (by decide) (by decide)) (ok_bd3 (s_X7_termOf code ci vars ib pile _ _ hw) (fun o0 o1 o2 _ => ?_)))
      refine ok_if (fun d => ok_if (fun e => ok_some ?_) (fun e => ok_some (show rg (999 : Int32) 0 9999 from ⟨by decide, by decide⟩))) (fun d => ok_some (show rg (0 : Int32) 0 9999 from ⟨by decide, by decide⟩))
      have d2 := ti_le d
      have e2 := ti_le e
      have e0 : (0 : Int32).toInt = 0 := rfl
      have e9 : (999 : Int32).toInt = 999 := rfl
      show rg o0 0 9999
      exact ⟨by omega, by omega⟩
    · have c2 := ti_nle c
      have e12 : (12 : Int32).toInt = 12 := rfl
      have hx' : rg x2 0 11 := ⟨hx.1, by omega⟩
      have s1 := x_suc hx' (by decide)
      have hxa := hx'.1
      have hxb := hx'.2
      have h24 : rg ((24 : Int32) + x2) 24 35 := rg_add (e := 24) (f := 35) (show rg (24 : Int32) 24 24 from ⟨by decide, by decide⟩) hx' (by decide) (by decide) (by decide) (by decide)
      have h5 : rg ((5 : Int32) + x2) 5 16 := rg_add (e := 5) (f := 16) (show rg (5 : Int32) 5 5 from ⟨by decide, by decide⟩) hx' (by decide) (by decide) (by decide) (by decide)
      exact ok_ck (inb_rg h24 (by decide) (by decide)) (ok_ck (inb_rg h5 (by decide) (by decide)) (ok_nm (fun a9 _ => ih ib a9 pile (x2 + 1) ⟨by have := hx.1; omega, by omega⟩ (by have := hx.1; omega))))
theorem s_X7_wantOf (live rd : Int32) (rains home lf lt_ code ci : Nat → Int32) (row : Nat → Int64) (wants rain : Nat → Int32) (ib : Int32) (vars pile : Nat → Int32) (q1 : Int32) (hl : rg live 0 1) (hq : rg q1 0 5) (hh : rg (hA live home q1) 0 11) (hw : WF code ci (hA live lf q1) (hA live lt_ q1)) (hwa : rg (wants q1.toNatClampNeg) (-1) 9999) (hn : rg (rains live.toNatClampNeg) 0 14) (hd : 0 ≤ rd.toInt) (hv : ∀ x : Int32, 0 ≤ x.toInt → x.toInt < (rains live.toNatClampNeg).toInt → rg (rain x.toNatClampNeg) 0 99) : ok (f_X7_wantOf live rd rains home lf lt_ code ci row wants rain ib vars pile q1) (fun o => rg o.1 0 9999) := by
  unfold f_X7_wantOf
  refine ok_ck (inb_rg hq (by decide) (by decide)) (ok_if (fun c => ?_) (fun c => ?_))
  · refine ok_bd (s_X7_homeOf live home q1 hl hq) (fun o3 e3 => ?_)
    subst e3
    have h24 : rg ((24 : Int32) + hA live home q1) 24 35 := rg_add (e := 24) (f := 35) (show rg (24 : Int32) 24 24 from ⟨by decide, by decide⟩) hh (by decide) (by decide) (by decide) (by decide)
    have h36 := in60 hq (K := 36) rfl (by decide)
    have h42 := in60 hq (K := 42) rfl (by decide)
    refine ok_ck (inb_rg h24 (by decide) (by decide)) (ok_ck (by decide) (ok_nm (fun a6 _ => ok_ck (by decide) (ok_nm (fun a8 _ => ?_)))))
    refine ok_bd (s_X7_rainOf live rains rain rd hl hn hd hv) (fun o9 _ => ok_ck (by decide) (ok_nm (fun a11 _ => ?_)))
    refine ok_ck (inb_rg h36.1 (by decide) (by decide)) (ok_ck (by decide) (ok_nm (fun a14 _ => ?_)))
    refine ok_ck (inb_rg h42.1 (by decide) (by decide)) (ok_ck (by decide) (ok_nm (fun a17 _ => ?_)))
    exact s_wa95 hl hq hw _ _ _ _ _ ⟨by decide, by decide⟩ (fu_up (show rg (0 : Int32) 0 12 from ⟨by decide, by decide⟩) (by decide))
  · refine ok_ck (inb_rg hq (by decide) (by decide)) (ok_some ?_)
    exact rg_nel 0 c hwa (show rg (-1 : Int32) (-1) (-1) from ⟨by decide, by decide⟩) (by decide)
/-- the live side, as a read without a FAULT leaves it -/
def DY (live : Int32) (cells room passes one oth rivers rc rl rw rains villages home lf lt_ code ci : Nat → Int32) : Prop :=
  GC live cells room ∧ GW live cells passes one oth rivers rc rl rw ∧ rg (rains live.toNatClampNeg) 0 14 ∧ rg (villages live.toNatClampNeg) 0 6 ∧
  ∀ x : Int32, 0 ≤ x.toInt → x.toInt < (villages live.toNatClampNeg).toInt → 0 ≤ (hA live home x).toInt ∧ (hA live home x).toInt < nC live cells ∧ WF code ci (hA live lf x) (hA live lt_ x)
/-- what a run goes by -/
def PN (live : Int32) (cells passes rains wants wide rain : Nat → Int32) (pc pm : Int32) : Prop :=
  (∀ x : Int32, 0 ≤ x.toInt → x.toInt < (passes live.toNatClampNeg).toInt → rg (wide x.toNatClampNeg) 0 10) ∧
  (∀ x : Int32, 0 ≤ x.toInt → x.toInt < (rains live.toNatClampNeg).toInt → rg (rain x.toNatClampNeg) 0 99) ∧
  (∀ x : Int32, rg x 0 5 → rg (wants x.toNatClampNeg) (-1) 9999) ∧ pc.toInt < nC live cells ∧ (0 ≤ pc.toInt → 0 ≤ pm.toInt)
theorem s_X7_goesBy (live ch ca_ pc pm pf pt : Int32) (cells room passes one oth rivers rc rl rw rs rains villages home need lf lt_ code ci wants off wide rain : Nat → Int32) (ib rd : Int32) (ta ra : Int64) (vars pile : Nat → Int32) (row tk : Nat → Int64) (di wl : Nat → Int32) (more ms : Nat → Int64) {M : Int} (y : DY live cells room passes one oth rivers rc rl rw rains villages home lf lt_ code ci) (p : PN live cells passes rains wants wide rain pc pm) (hr : RW live cells room row M) (hM0 : 999 ≤ M) (hM : M ≤ 999999900) (hd : 0 ≤ rd.toInt) : ok (f_X7_goesBy live ch ca_ pc pm pf pt cells room passes one oth rivers rc rl rw rs rains villages home need lf lt_ code ci wants off wide rain ib rd ta ra vars pile row tk di wl more ms) (fun o => o.2.1 = rd + 1 ∧ RW live cells room o.2.2.2.2.2.2.1 (M + 99)) := by
  obtain ⟨g, w, hn, hv, hh⟩ := y
  obtain ⟨p1, p2, p3, p4, p5⟩ := p
  unfold f_X7_goesBy
  refine ok_bd (s_X7_sees live rd cells room rains rain row g (by omega) hr hn hd p2) (fun o1 h1 => ?_)
  refine ok_bd8 (s_X7_takes live rd ch ca_ pc pm pf pt cells room rains villages home need lf lt_ code ci wants off rain ib ta vars pile o1 tk di wl g (by omega) h1 hv (fun x h0 h1 => ⟨(hh x h0 h1).1, (hh x h0 h1).2.1⟩) (fun x row ib va pi h0 h1 => ?_) p4 p5) (fun a0 a1 a2 a3 a4 a5 a6 a7 h2 => ?_)
  · have hx : rg x 0 5 := ⟨h0, by have := hv.2; omega⟩
    have k := hh x h0 h1
    exact s_X7_wantOf live rd rains home lf lt_ code ci row wants rain ib va pi x g.1 hx (g.lt k.1 k.2.1) k.2.2 (p3 x hx) hn hd p2
  · exact ok_bd4 (s_X7_flows live ch ca_ cells room passes one oth rivers rc rl rw rs wide ra a4 more ms g w h2 (by omega) (by omega) p1) (fun b0 b1 b2 b3 h3 => ok_some ⟨rfl, h3⟩)
