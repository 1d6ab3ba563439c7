/-! the number of a law, on both sides -/
/-- what a law may name: the reference's row of numbers against the class's days -/
def VR (own : Int32) (v : Nat) (day today : Int32) (seen took dry vars : Nat → Int32) : Prop := vars 0 = seen own.toNatClampNeg ∧ vars 1 = day ∧ vars 2 = today ∧ vars 3 = took v ∧ vars 4 = dry v ∧ ∀ c : Nat, c < 12 → vars (5 + c) = seen c
theorem m20 : (-20 : Int32).toInt = -20 := by decide
theorem v_lev {q c : Int32} (h : 0 ≤ c.toInt ∧ c.toInt < 12) (e : q = -20 - c) : q.toInt = -20 - c.toInt ∧ (-20 : Int32) - q = c := by
  have t : q.toInt = -20 - c.toInt := by
    rw [e, Jvm.Kit.i32_sub (by rw [m20]; omega) (by rw [m20]; omega), m20]
  refine ⟨t, Int32.toInt_inj.mp ?_⟩
  rw [Jvm.Kit.i32_sub (by rw [m20]; omega) (by rw [m20]; omega), m20]
  omega
theorem c_level {today day q c q3 : Int32} {seen took dry : Nat → Int32} (h : 0 ≤ c.toInt ∧ c.toInt < 12) (e : q = -20 - c) : pa (f_X0_valueOf today day seen took dry q q3) (fun o => o = seen c.toNatClampNeg) := by
  obtain ⟨t, e2⟩ := v_lev h e
  unfold f_X0_valueOf
  have z8 : (-8 : Int32).toInt = -8 := by decide
  have z7 : (-7 : Int32).toInt = -7 := by decide
  have z6 : (-6 : Int32).toInt = -6 := by decide
  have z5 : (-5 : Int32).toInt = -5 := by decide
  refine pa_if (fun z => ?_) (fun _ => pa_if (fun z => ?_) (fun _ => pa_if (fun z => ?_) (fun _ => pa_if (fun z => ?_) (fun _ => ?_))))
  · have := z_eq z8 z
    omega
  · have := z_eq z7 z
    omega
  · have := z_eq z6 z
    omega
  · have := z_eq z5 z
    omega
  rw [e2]
  refine pa_if (fun z => ?_) (fun _ => pa_if (fun _ => pa_ck (fun _ => pa_some rfl)) (fun z => ?_))
  · have := lt_k (k := 0) rfl z
    omega
  · have := nlt_k (k := 12) rfl z
    omega
/-- a code that stands for a number, but no INT -/
theorem c_value {today day own c5 i7 q3 : Int32} {seen took dry vars : Nat → Int32} {v : Nat} (hv : VR own v day today seen took dry vars) (ho : 0 ≤ own.toInt ∧ own.toInt < 12) (h3 : q3.toNatClampNeg = v) (h : (i7 = 0 ∧ c5 = -20 - own) ∨ (i7 = 1 ∧ c5 = -5) ∨ (i7 = 2 ∧ c5 = -6) ∨ (i7 = 3 ∧ c5 = -7) ∨ (i7 = 4 ∧ c5 = -8) ∨ ∃ c : Int32, 0 ≤ c.toInt ∧ c.toInt < 12 ∧ i7 = 5 + c ∧ c5 = -20 - c) : pa (f_X0_valueOf today day seen took dry c5 q3) (fun o => o = vars i7.toNatClampNeg) ∧ c5.toInt ≤ -5 := by
  obtain ⟨v0, v1, v2, v3, v4, v5⟩ := hv
  rcases h with ⟨rfl, e⟩ | ⟨rfl, rfl⟩ | ⟨rfl, rfl⟩ | ⟨rfl, rfl⟩ | ⟨rfl, rfl⟩ | ⟨c, c0, c1, e1, e⟩
  · exact ⟨pa_w (c_level ho e) (fun o ho => ho.trans v0.symm), by have := (v_lev ho e).1; omega⟩
  · refine ⟨?_, by decide⟩
    unfold f_X0_valueOf
    exact pa_if (fun z => absurd z (by decide)) (fun _ => pa_if (fun z => absurd z (by decide)) (fun _ => pa_if (fun z => absurd z (by decide)) (fun _ => pa_if (fun _ => pa_some v1.symm) (fun z => absurd rfl z))))
  · refine ⟨?_, by decide⟩
    unfold f_X0_valueOf
    exact pa_if (fun z => absurd z (by decide)) (fun _ => pa_if (fun z => absurd z (by decide)) (fun _ => pa_if (fun _ => pa_some v2.symm) (fun z => absurd rfl z)))
  · refine ⟨?_, by decide⟩
    unfold f_X0_valueOf
    exact pa_if (fun z => absurd z (by decide)) (fun _ => pa_if (fun _ => pa_ck (fun _ => pa_some (by rw [h3]; exact v3.symm))) (fun z => absurd rfl z))
  · refine ⟨?_, by decide⟩
    unfold f_X0_valueOf
    exact pa_if (fun _ => pa_ck (fun _ => pa_some (by rw [h3]; exact v4.symm))) (fun z => absurd rfl z)
  · have ec : (c.toNatClampNeg : Int) = c.toInt := cl_k c0
    have t5 : ((5 : Int32) + c).toInt = 5 + c.toInt := by
      have e5 : (5 : Int32).toInt = 5 := rfl
      rw [Jvm.Kit.i32_add (by rw [e5]; omega) (by rw [e5]; omega), e5]
    have e5 : (5 + c).toNatClampNeg = 5 + c.toNatClampNeg := by
      have : ((5 + c).toNatClampNeg : Int) = (5 + c).toInt := cl_k (by omega)
      omega
    refine ⟨pa_w (c_level ⟨c0, c1⟩ e) (fun o ho => ho.trans ?_), by have := (v_lev ⟨c0, c1⟩ e).1; omega⟩
    rw [e1, e5]
    exact (v5 c.toNatClampNeg (by omega)).symm
/-- 0 at least, 999 at most -/
def cl9 (x : Int32) : Int32 := if (0 : Int32) < (if x < (999 : Int32) then x else (999 : Int32)) then (if x < (999 : Int32) then x else (999 : Int32)) else (0 : Int32)
theorem cl9_0 : (0 : Int32) = cl9 0 := by decide
theorem c_join (c a b : Int32) : pa (f_X0_joined c a b) (fun o => (c = -3 → o = a * b) ∧ (c = -2 → o = a - b) ∧ (c = -1 → o = a + b) ∧ (c = -4 → ¬ b = 0 → o = a / b)) := by
  unfold f_X0_joined
  refine pa_if (fun z => pa_some ⟨fun _ => rfl, fun y => absurd (z.symm.trans y) (by decide), fun y => absurd (z.symm.trans y) (by decide), fun y => absurd (z.symm.trans y) (by decide)⟩) (fun z3 => pa_if (fun z => pa_some ⟨fun y => absurd y z3, fun _ => rfl, fun y => absurd (z.symm.trans y) (by decide), fun y => absurd (z.symm.trans y) (by decide)⟩) (fun z2 => pa_if (fun z => pa_some ⟨fun y => absurd y z3, fun y => absurd y z2, fun _ => rfl, fun y => absurd (z.symm.trans y) (by decide)⟩) (fun z1 => pa_if (fun w => pa_some ⟨fun y => absurd y z3, fun y => absurd y z2, fun y => absurd y z1, fun _ y => absurd w y⟩) (fun w => pa_ck (fun _ => pa_some ⟨fun y => absurd y z3, fun y => absurd y z2, fun y => absurd y z1, fun _ _ => rfl⟩)))))
set_option maxHeartbeats 4000000 in
theorem j_term {today day own q3 x4 b : Int32} {code5 seen took dry code7 ci vars : Nat → Int32} {v B a e : Nat} (hv : VR own v day today seen took dry vars) (ho : 0 ≤ own.toInt ∧ own.toInt < 12) (h3 : q3.toNatClampNeg = v) (hB : B ≤ 420) (he : x4.toInt = (e : Int)) (hb : b.toInt = ((B + e : Nat) : Int)) (he4 : e ≤ 400) (D : Nat → Int) (hDe : D (B + e) = 1) (hD : ∀ i, B + a ≤ i → i < B + e → ((code7 i).toInt < 2 → 0 ≤ D i ∧ D i ≤ 14 ∧ D (i + 1) = D i + 1) ∧ (2 ≤ (code7 i).toInt → 2 ≤ D i ∧ D i ≤ 400 ∧ D (i + 1) = D i - 1)) (hC : ∀ i, a ≤ i → i < e → CP own (code5 i) (code7 (B + i)) (ci (B + i))) :
    ∀ (n m : Nat) (stack pile : Nat → Int32) (ib x3 x5 c4 : Int32) (i : Nat), x5.toInt = (i : Int) → c4.toInt = ((B + i : Nat) : Int) → a ≤ i → i ≤ e → x3.toInt = D (B + i) → (∀ j : Nat, (j : Int) < x3.toInt → stack j = pile j) → pj (f_X0_wantOf_b56 today code5 day seen took dry n stack q3 x3 x4 x5) (f_X7_termOf_b10 code7 ci vars m ib pile b x3 c4) (fun a b => a.1 = cl9 b.1) := by
  intro n
  induction n with
  | zero => intro m stack pile ib x3 x5 c4 i _ _ _ _ _ _; exact pj_nl
  | succ n ih =>
    intro m stack pile ib x3 x5 c4 i h5 h4 hai hie hx hs
    cases m with
    | zero => exact pj_nr
    | succ m =>
    show pj (f_X0_wantOf_b56_st (f_X0_wantOf_b56 today code5 day seen took dry n) today code5 day seen took dry stack q3 x3 x4 x5) (f_X7_termOf_b10_st (f_X7_termOf_b10 code7 ci vars m) code7 ci vars ib pile b x3 c4) _
    unfold f_X0_wantOf_b56_st f_X7_termOf_b10_st
    by_cases hi : i = e
    · rw [hi, hDe] at hx
      have t := sub_k (x := x3) (v := 1) (k := 1) rfl (by omega) (by omega)
      have e0 : (x3 - 1).toNatClampNeg = 0 := by have : ((x3 - 1).toNatClampNeg : Int) = (x3 - 1).toInt := cl_k (by omega); omega
      refine pj_ifl (fun _ => pj_ifl (fun _ => pj_ckl (fun _ => pj_ifr (fun _ => pj_ckr (fun _ => pj_ss ?_)) (fun z => ?_))) (fun z => ?_)) (fun z => ?_)
      · rw [e0, hs 0 (by omega)]
        rfl
      · have := ti_nle z
        omega
      · have := k_nle (k := 1) rfl z
        omega
      · have := ti_nle z
        omega
    · have e5 : x5.toNatClampNeg = i := by have : (x5.toNatClampNeg : Int) = x5.toInt := cl_k (by omega); omega
      have e4 : c4.toNatClampNeg = B + i := by have : (c4.toNatClampNeg : Int) = c4.toInt := cl_k (by omega); omega
      have t5 := add_k (x := x5) (v := 1) (k := 1) rfl (by omega) (by omega)
      have t4 := add_k (x := c4) (v := 1) (k := 1) rfl (by omega) (by omega)
      obtain ⟨d1, d2⟩ := hD (B + i) (by omega) (by omega)
      refine pj_ifl (fun z => ?_) (fun _ => pj_ckl (fun _ => pj_ifr (fun z => ?_) (fun _ => pj_ckr (fun _ => ?_))))
      · have := ti_le z
        omega
      · have := ti_le z
        omega
      rw [e5, e4]
      -- a number is put on top
      have push : ∀ w u : Int32, w = u → (code7 (B + i)).toInt < 2 → pj (f_X0_wantOf_b56 today code5 day seen took dry n (upd stack x3.toNatClampNeg w) q3 (x3 + 1) x4 (x5 + 1)) (f_X7_termOf_b10 code7 ci vars m ib (upd pile x3.toNatClampNeg u) b (x3 + 1) (c4 + 1)) (fun a b => a.1 = cl9 b.1) := by
        intro w u ew hk
        obtain ⟨m1, m2, m3⟩ := d1 hk
        have t3 := add_k (x := x3) (v := 1) (k := 1) rfl (by omega) (by omega)
        have e3 : (x3.toNatClampNeg : Int) = x3.toInt := cl_k (by omega)
        refine ih m _ _ ib (x3 + 1) (x5 + 1) (c4 + 1) (i + 1) (by omega) (by omega) (by omega) (by omega) (by rw [show B + (i + 1) = B + i + 1 by omega]; omega) (fun j hj => ?_)
        unfold upd
        by_cases q : j = x3.toNatClampNeg
        · rw [if_pos q, if_pos q]; exact ew
        · rw [if_neg q, if_neg q]; exact hs j (by omega)
      -- two numbers become one
      have pop : ∀ z : Int32, z.toInt = x3.toInt - 1 → 2 ≤ (code7 (B + i)).toInt → ∀ w u : Int32, w = u → pj (f_X0_wantOf_b56 today code5 day seen took dry n (upd stack (z - 1).toNatClampNeg w) q3 z x4 (x5 + 1)) (f_X7_termOf_b10 code7 ci vars m ib (upd pile (z - 1).toNatClampNeg u) b z (c4 + 1)) (fun a b => a.1 = cl9 b.1) := by
        intro z hz hk w u ew
        obtain ⟨m1, m2, m3⟩ := d2 hk
        refine ih m _ _ ib z (x5 + 1) (c4 + 1) (i + 1) (by omega) (by omega) (by omega) (by omega) (by rw [show B + (i + 1) = B + i + 1 by omega]; omega) (fun j hj => ?_)
        unfold upd
        by_cases q : j = (z - 1).toNatClampNeg
        · rw [if_pos q, if_pos q]; exact ew
        · rw [if_neg q, if_neg q]; exact hs j (by omega)
      have tz : (x3 + (-1 : Int32)).toInt = x3.toInt - 1 ∨ ¬ 2 ≤ (code7 (B + i)).toInt := by
        by_cases hk : 2 ≤ (code7 (B + i)).toInt
        · obtain ⟨m1, m2, m3⟩ := d2 hk
          have em : (-1 : Int32).toInt = -1 := by decide
          left
          rw [Jvm.Kit.i32_add (by rw [em]; omega) (by rw [em]; omega), em]
          omega
        · exact Or.inr hk
      obtain ⟨z, ez⟩ : ∃ z, z = x3 + (-1 : Int32) := ⟨_, rfl⟩
      rw [← ez] at tz
      have C := hC i hai (by omega)
      rcases C with ⟨k7, k5, l0, l1⟩ | ⟨k7, k5⟩ | ⟨k7, k5⟩ | ⟨k7, k5⟩ | ⟨k7, k5⟩ | ⟨k7, hval⟩
      · have v7 : (code7 (B + i)).toInt = 0 := by rw [k7]; rfl
        obtain ⟨m1, m2, m3⟩ := d1 (by omega)
        have cm : (-1 : Int32).toInt = -1 := by decide
        refine pj_ifl (fun _ => ?_) (fun y => ?_)
        · unfold f_X0_wantOf_b88
          refine pj_ifl (fun _ => pj_ifl (fun y => ?_) (fun _ => pj_ckl (fun _ => pj_nml ?_))) (fun y => ?_)
          · have := le_k cm y
            rw [k5] at this
            omega
          · refine pj_ifr (fun y => ?_) (fun _ => pj_ifr (fun _ => pj_ckr (fun _ => pj_ckr (fun _ => pj_nmr (push _ _ k5 (by omega))))) (fun y => absurd k7 y))
            have := k_le (k := 2) rfl y
            omega
          · have := nlt_k (k := 16) rfl y
            omega
        · have g := ti_nlt y
          rw [k5] at g
          omega
      · have v7 : (code7 (B + i)).toInt = 2 := by rw [k7]; rfl
        have hk : 2 ≤ (code7 (B + i)).toInt := by omega
        obtain ⟨m1, m2, m3⟩ := d2 hk
        have hz : z.toInt = x3.toInt - 1 := tz.elim (fun y => y) (fun y => absurd hk y)
        have tz1 := sub_k (x := z) (v := 1) (k := 1) rfl (by omega) (by omega)
        have e1 : (z.toNatClampNeg : Int) = z.toInt := cl_k (by omega)
        have e2 : ((z - 1).toNatClampNeg : Int) = (z - 1).toInt := cl_k (by omega)
        refine pj_ifl (fun y => absurd y (by rw [k5]; decide)) (fun _ => pj_ifl (fun _ => pj_ifl (fun y => ?_) (fun _ => pj_ifl (fun y => absurd (k5.symm.trans y) (by decide)) (fun _ => ?_))) (fun y => absurd (by rw [k5]; decide) y))
        · have := lt_k (k := 2) rfl y
          omega
        · unfold f_X0_wantOf_b155
          rw [← ez]
          refine pj_ckl (fun _ => pj_ckl (fun _ => pj_bl (c_join _ _ _) (fun o hj => pj_ckl (fun _ => pj_nml (pj_ifr (fun _ => pj_ckr (fun _ => pj_nmr (pj_ckr (fun _ => pj_ifr (fun y => absurd (k7.symm.trans y) (by decide)) (fun _ => ?_))))) (fun y => ?_))))))
          · unfold f_X7_termOf_b109
            refine pj_ifr (fun _ => pj_ckr (fun _ => pj_nmr (pop z hz hk _ _ ?_))) (fun y => absurd k7 y)
            rw [hj.2.2.1 k5, hs _ (by omega), hs _ (by omega)]
          · have := k_nle (k := 2) rfl y
            omega
      · have v7 : (code7 (B + i)).toInt = 3 := by rw [k7]; rfl
        have hk : 2 ≤ (code7 (B + i)).toInt := by omega
        obtain ⟨m1, m2, m3⟩ := d2 hk
        have hz : z.toInt = x3.toInt - 1 := tz.elim (fun y => y) (fun y => absurd hk y)
        have tz1 := sub_k (x := z) (v := 1) (k := 1) rfl (by omega) (by omega)
        have e1 : (z.toNatClampNeg : Int) = z.toInt := cl_k (by omega)
        have e2 : ((z - 1).toNatClampNeg : Int) = (z - 1).toInt := cl_k (by omega)
        refine pj_ifl (fun y => absurd y (by rw [k5]; decide)) (fun _ => pj_ifl (fun _ => pj_ifl (fun y => ?_) (fun _ => pj_ifl (fun y => absurd (k5.symm.trans y) (by decide)) (fun _ => ?_))) (fun y => absurd (by rw [k5]; decide) y))
        · have := lt_k (k := 2) rfl y
          omega
        · unfold f_X0_wantOf_b155
          rw [← ez]
          refine pj_ckl (fun _ => pj_ckl (fun _ => pj_bl (c_join _ _ _) (fun o hj => pj_ckl (fun _ => pj_nml (pj_ifr (fun _ => pj_ckr (fun _ => pj_nmr (pj_ckr (fun _ => pj_ifr (fun y => absurd (k7.symm.trans y) (by decide)) (fun _ => ?_))))) (fun y => ?_))))))
          · unfold f_X7_termOf_b109
            refine pj_ifr (fun y => absurd (k7.symm.trans y) (by decide)) (fun _ => pj_ifr (fun _ => pj_ckr (fun _ => pj_nmr (pop z hz hk _ _ ?_))) (fun y => absurd k7 y))
            rw [hj.2.1 k5, hs _ (by omega), hs _ (by omega)]
          · have := k_nle (k := 2) rfl y
            omega
      · have v7 : (code7 (B + i)).toInt = 4 := by rw [k7]; rfl
        have hk : 2 ≤ (code7 (B + i)).toInt := by omega
        obtain ⟨m1, m2, m3⟩ := d2 hk
        have hz : z.toInt = x3.toInt - 1 := tz.elim (fun y => y) (fun y => absurd hk y)
        have tz1 := sub_k (x := z) (v := 1) (k := 1) rfl (by omega) (by omega)
        have e1 : (z.toNatClampNeg : Int) = z.toInt := cl_k (by omega)
        have e2 : ((z - 1).toNatClampNeg : Int) = (z - 1).toInt := cl_k (by omega)
        refine pj_ifl (fun y => absurd y (by rw [k5]; decide)) (fun _ => pj_ifl (fun _ => pj_ifl (fun y => ?_) (fun _ => pj_ifl (fun y => absurd (k5.symm.trans y) (by decide)) (fun _ => ?_))) (fun y => absurd (by rw [k5]; decide) y))
        · have := lt_k (k := 2) rfl y
          omega
        · unfold f_X0_wantOf_b155
          rw [← ez]
          refine pj_ckl (fun _ => pj_ckl (fun _ => pj_bl (c_join _ _ _) (fun o hj => pj_ckl (fun _ => pj_nml (pj_ifr (fun _ => pj_ckr (fun _ => pj_nmr (pj_ckr (fun _ => pj_ifr (fun y => absurd (k7.symm.trans y) (by decide)) (fun _ => ?_))))) (fun y => ?_))))))
          · unfold f_X7_termOf_b109
            refine pj_ifr (fun y => absurd (k7.symm.trans y) (by decide)) (fun _ => pj_ifr (fun y => absurd (k7.symm.trans y) (by decide)) (fun _ => pj_ifr (fun _ => pj_ckr (fun _ => pj_nmr (pop z hz hk _ _ ?_))) (fun y => absurd k7 y)))
            rw [hj.1 k5, hs _ (by omega), hs _ (by omega)]
          · have := k_nle (k := 2) rfl y
            omega
      · have v7 : (code7 (B + i)).toInt = 5 := by rw [k7]; rfl
        have hk : 2 ≤ (code7 (B + i)).toInt := by omega
        obtain ⟨m1, m2, m3⟩ := d2 hk
        have hz : z.toInt = x3.toInt - 1 := tz.elim (fun y => y) (fun y => absurd hk y)
        have tz1 := sub_k (x := z) (v := 1) (k := 1) rfl (by omega) (by omega)
        have tx1 := sub_k (x := x3) (v := 1) (k := 1) rfl (by omega) (by omega)
        have e1 : (z.toNatClampNeg : Int) = z.toInt := cl_k (by omega)
        have e2 : ((z - 1).toNatClampNeg : Int) = (z - 1).toInt := cl_k (by omega)
        have e3 : x3 - 1 = z := Int32.toInt_inj.mp (by omega)
        rw [e3]
        refine pj_ifl (fun y => absurd y (by rw [k5]; decide)) (fun _ => pj_ifl (fun _ => pj_ifl (fun y => ?_) (fun _ => pj_ifl (fun _ => pj_ckl (fun _ => ?_)) (fun y => absurd k5 y))) (fun y => absurd (by rw [k5]; decide) y))
        · have := lt_k (k := 2) rfl y
          omega
        rw [← ez, hs z.toNatClampNeg (by omega)]
        refine pj_ifr (fun _ => pj_ckr (fun _ => pj_nmr (pj_ckr (fun _ => pj_ifr (fun _ => ?_) (fun y => absurd k7 y))))) (fun y => ?_)
        · refine pj_ifl (fun y0 => pj_ifr (fun _ => pj_ss cl9_0) (fun y => absurd y0 y)) (fun y0 => pj_ifr (fun y => absurd y y0) (fun _ => ?_))
          unfold f_X0_wantOf_b155 f_X7_termOf_b109
          rw [← ez]
          refine pj_ckl (fun _ => pj_ckl (fun _ => pj_bl (c_join _ _ _) (fun o hj => pj_ckl (fun _ => pj_nml ?_))))
          refine pj_ifr (fun y => absurd (k7.symm.trans y) (by decide)) (fun _ => pj_ifr (fun y => absurd (k7.symm.trans y) (by decide)) (fun _ => pj_ifr (fun y => absurd (k7.symm.trans y) (by decide)) (fun _ => pj_ckr (fun _ => pj_ckr (fun _ => pj_nmr (pop z hz hk _ _ ?_))))))
          rw [hj.2.2.2 k5 (by rw [hs z.toNatClampNeg (by omega)]; exact y0), hs _ (by omega), hs _ (by omega)]
        · have := k_nle (k := 2) rfl y
          omega
      · have v7 : (code7 (B + i)).toInt = 1 := by rw [k7]; rfl
        obtain ⟨m1, m2, m3⟩ := d1 (by omega)
        obtain ⟨cv, c5l⟩ := c_value hv ho h3 hval
        have cm : (-1 : Int32).toInt = -1 := by decide
        have c4' : (-4 : Int32).toInt = -4 := by decide
        refine pj_ifl (fun y => ?_) (fun _ => pj_ifl (fun y => ?_) (fun _ => ?_))
        · have := ti_lt y
          omega
        · have := k_le c4' y
          omega
        unfold f_X0_wantOf_b88
        refine pj_ifl (fun _ => pj_ifl (fun _ => pj_bl cv (fun o ho => pj_ckl (fun _ => pj_nml ?_))) (fun y => ?_)) (fun y => ?_)
        · refine pj_ifr (fun y => ?_) (fun _ => pj_ifr (fun y => absurd (k7.symm.trans y) (by decide)) (fun _ => pj_ckr (fun _ => pj_ckr (fun _ => pj_ckr (fun _ => pj_nmr (push _ _ ho (by omega)))))))
          have := k_le (k := 2) rfl y
          omega
        · have := nle_k cm y
          omega
        · have := nlt_k (k := 16) rfl y
          omega
