/-! the reference's day: WATER stays 0 or more, a LEVEL grows by 99 a day at most -/
theorem uL_eq (f : Nat → Int64) (k : Nat) (x : Int64) : vp_updL f k x k = x := if_pos rfl
theorem uL_ne {f : Nat → Int64} {k j : Nat} {x : Int64} (h : j ≠ k) : vp_updL f k x j = f j := if_neg h
theorem cl_inj {x y : Int32} (hx : 0 ≤ x.toInt) (hy : 0 ≤ y.toInt) (h : x.toNatClampNeg = y.toNatClampNeg) : x = y := by
  apply Int32.toInt_inj.mp
  have e1 := cl_e (x := x) (a := 0) (b := 2147483647) ⟨hx, (rg_any x).2⟩ (by decide)
  have e2 := cl_e (x := y) (a := 0) (b := 2147483647) ⟨hy, (rg_any y).2⟩ (by decide)
  omega
theorem cl_12 {x : Int32} (h : rg x 0 11) : ((12 : Int32) + x).toNatClampNeg = 12 + x.toNatClampNeg := by
  have t := ti_add (x := 12) (y := x) (show rg (12 : Int32) 12 12 from ⟨by decide, by decide⟩) h (by decide) (by decide)
  have e : (12 : Int32).toInt = 12 := rfl
  have e1 := cl_e h (by decide)
  have e2 := cl_e (x := 12 + x) (a := 12) (b := 23) ⟨by have := h.1; omega, by have := h.2; omega⟩ (by decide)
  omega
theorem cl_24 {x : Int32} (h : rg x 0 11) : ((24 : Int32) + x).toNatClampNeg = 24 + x.toNatClampNeg := by
  have t := ti_add (x := 24) (y := x) (show rg (24 : Int32) 24 24 from ⟨by decide, by decide⟩) h (by decide) (by decide)
  have e : (24 : Int32).toInt = 24 := rfl
  have e1 := cl_e h (by decide)
  have e2 := cl_e (x := 24 + x) (a := 24) (b := 35) ⟨by have := h.1; omega, by have := h.2; omega⟩ (by decide)
  omega
theorem nzl_of {x : Int64} (h : ¬ x.toInt = 0) : nzl x = true := by
  refine decide_eq_true ?_
  rintro rfl
  exact h rfl
/-- how many cells the live side has -/
abbrev nC (live : Int32) (cells : Nat → Int32) : Int := (cells live.toNatClampNeg).toInt
/-- a cell's room -/
abbrev rO (live : Int32) (room : Nat → Int32) (x : Int32) : Int32 := room (((12 : Int32) * live) + x).toNatClampNeg
/-- WATER of the cells: 0 or more, LEVEL at most M -/
def RW (live : Int32) (cells room : Nat → Int32) (row : Nat → Int64) (M : Int) : Prop := ∀ x : Int32, 0 ≤ x.toInt → x.toInt < nC live cells → 0 ≤ (row x.toNatClampNeg).toInt ∧ (row x.toNatClampNeg).toInt < (M + 1) * (rO live room x).toInt
/-- the cells of the live side -/
def GC (live : Int32) (cells room : Nat → Int32) : Prop := rg live 0 1 ∧ rg (cells live.toNatClampNeg) 0 12 ∧ ∀ x : Int32, 0 ≤ x.toInt → x.toInt < nC live cells → rg (rO live room x) 1 9
theorem GC.lt {live : Int32} {cells room : Nat → Int32} (h : GC live cells room) {x : Int32} (h0 : 0 ≤ x.toInt) (h1 : x.toInt < nC live cells) : rg x 0 11 := ⟨h0, by have := h.2.1.2; unfold nC at h1; omega⟩
theorem in_side {live x : Int32} {k m : Int} {K : Int32} (hK : K.toInt = k) (hk : 0 ≤ k ∧ k ≤ 100) (hl : rg live 0 1) (hx : rg x 0 m) (hm : m < k) : rg ((K * live) + x) 0 (k + m) := by
  have hKr : rg K k k := ⟨by omega, by omega⟩
  have h1 : rg (K * live) 0 k := by
    obtain ⟨p1, p2⟩ := hl
    have e : (K * live).toInt = K.toInt * live.toInt := Jvm.Kit.i32_mul (by
      rcases (show live.toInt = 0 ∨ live.toInt = 1 by omega) with q | q <;> rw [q, hK] <;> omega) (by
      rcases (show live.toInt = 0 ∨ live.toInt = 1 by omega) with q | q <;> rw [q, hK] <;> omega)
    unfold rg
    rw [e, hK]
    rcases (show live.toInt = 0 ∨ live.toInt = 1 by omega) with q | q <;> rw [q] <;> omega
  have t := ti_add h1 hx (by omega) (by omega)
  obtain ⟨a1, a2⟩ := h1
  obtain ⟨b1, b2⟩ := hx
  exact ⟨by omega, by omega⟩
theorem s_X7_n (live : Int32) (cells : Nat → Int32) (h : rg live 0 1) : ok (f_X7_n live cells) (fun o => o = cells live.toNatClampNeg) := by
  unfold f_X7_n
  exact ok_ck (inb_rg h (by decide) (by decide)) (ok_some rfl)
theorem s_X7_roomOf (live : Int32) (room : Nat → Int32) (q1 : Int32) (h : rg live 0 1) (hq : rg q1 0 11) : ok (f_X7_roomOf live room q1) (fun o => o = rO live room q1) := by
  unfold f_X7_roomOf
  exact ok_ck (inb_rg (in_side (k := 12) rfl (by decide) h hq (by decide)) (by decide) (by decide)) (ok_some rfl)
/-- LEVEL -/
theorem s_X7_level (live : Int32) (room : Nat → Int32) (row : Nat → Int64) (q1 : Int32) (h : rg live 0 1) (hq : rg q1 0 11) (hr : rg (rO live room q1) 1 9) (h0 : 0 ≤ (row q1.toNatClampNeg).toInt) : ok (f_X7_level live room row q1) (fun o => o.toInt = (row q1.toNatClampNeg).toInt / (rO live room q1).toInt) := by
  unfold f_X7_level
  refine ok_ck (inb_rg hq (by decide) (by decide)) (ok_bd (s_X7_roomOf live room q1 h hq) (fun o ho => ?_))
  subst ho
  refine ok_ck (nzl_rg hr (by decide)) (ok_some ?_)
  have e := Jvm.Kit.i64_of_i32 (rO live room q1)
  have := hr.1
  show ((row q1.toNatClampNeg) / (rO live room q1).toInt64).toInt = _
  rw [Jvm.Kit.i64_div (by omega), e, Int.tdiv_eq_ediv_of_nonneg h0]
theorem lev_le {M w r : Int} (hr : 1 ≤ r) (h0 : 0 ≤ w) (h : w < (M + 1) * r) : 0 ≤ w / r ∧ w / r ≤ M ∧ w / r * r ≤ w ∧ w < (w / r + 1) * r := by
  have h1 : 0 ≤ w / r := Int.ediv_nonneg h0 (by omega)
  have h2 : w / r < M + 1 := Int.ediv_lt_of_lt_mul (by omega) h
  have h3 := Int.ediv_mul_le w (show r ≠ 0 by omega)
  have h4 := Int.lt_ediv_add_one_mul_self w (show 0 < r by omega)
  exact ⟨h1, by omega, h3, h4⟩
abbrev Lv (live : Int32) (room : Nat → Int32) (row : Nat → Int64) (c : Int32) : Int := (row c.toNatClampNeg).toInt / (rO live room c).toInt
abbrev pA (live : Int32) (a : Nat → Int32) (x : Int32) : Int32 := a (((20 : Int32) * live) + x).toNatClampNeg
abbrev rA (live : Int32) (a : Nat → Int32) (x : Int32) : Int32 := a (((3 : Int32) * live) + x).toNatClampNeg
/-- a hundredth of a difference times a width: a tenth of the difference at most -/
theorem tenth {d w : Int} (h0 : 0 ≤ w) (h1 : w ≤ 10) : (0 ≤ d → 0 ≤ (d * w).tdiv 100 ∧ 10 * (d * w).tdiv 100 ≤ d) ∧ (d < 0 → (d * w).tdiv 100 ≤ 0 ∧ 10 * (-(d * w).tdiv 100) ≤ -d) := by
  refine ⟨fun h => ?_, fun h => ?_⟩
  · have a1 : 0 ≤ d * w := Int.mul_nonneg h h0
    have a2 : d * w ≤ d * 10 := Int.mul_le_mul_of_nonneg_left h1 h
    rw [Int.tdiv_eq_ediv_of_nonneg a1]
    omega
  · have e : d * w = -((-d) * w) := by rw [Int.neg_mul, Int.neg_neg]
    have a1 : 0 ≤ (-d) * w := Int.mul_nonneg (by omega) h0
    have a2 : (-d) * w ≤ (-d) * 10 := Int.mul_le_mul_of_nonneg_left h1 (by omega)
    rw [e, Int.neg_tdiv, Int.tdiv_eq_ediv_of_nonneg a1]
    omega
theorem mul_sm {d w : Int} (hd : -2000000000 ≤ d ∧ d ≤ 2000000000) (hw : 0 ≤ w ∧ w ≤ 10) : -20000000000 ≤ d * w ∧ d * w ≤ 20000000000 := by
  rcases Int.le_total 0 d with h | h
  · have a1 : 0 ≤ d * w := Int.mul_nonneg h hw.1
    have a2 : d * w ≤ d * 10 := Int.mul_le_mul_of_nonneg_left hw.2 h
    omega
  · have e : d * w = -((-d) * w) := by rw [Int.neg_mul, Int.neg_neg]
    have a1 : 0 ≤ (-d) * w := Int.mul_nonneg (by omega) hw.1
    have a2 : (-d) * w ≤ (-d) * 10 := Int.mul_le_mul_of_nonneg_left hw.2 (by omega)
    omega
/-- what flows by a difference of LEVELS -/
def FL (a b : Int) (o : Int64) : Prop := (0 < o.toInt → 10 * o.toInt ≤ a - b) ∧ (o.toInt < 0 → 10 * (-o.toInt) ≤ b - a) ∧ -2000000000 ≤ o.toInt ∧ o.toInt ≤ 2000000000
theorem FL_of {x y : Int64} {w : Int32} (hx : 0 ≤ x.toInt ∧ x.toInt ≤ 1000000000) (hy : 0 ≤ y.toInt ∧ y.toInt ≤ 1000000000) (hw : rg w 0 10) : FL x.toInt y.toInt (((x - y) * w.toInt64) / (100 : Int64)) := by
  have t1 : (x - y).toInt = x.toInt - y.toInt := Jvm.Kit.i64_sub (by omega) (by omega)
  have e := Jvm.Kit.i64_of_i32 w
  have hm := mul_sm (d := x.toInt - y.toInt) (w := w.toInt) (by omega) hw
  have t2 : ((x - y) * w.toInt64).toInt = (x.toInt - y.toInt) * w.toInt := by
    rw [Jvm.Kit.i64_mul (by rw [t1, e]; omega) (by rw [t1, e]; omega), t1, e]
  have h100 : (100 : Int64).toInt = 100 := rfl
  have t3 : (((x - y) * w.toInt64) / (100 : Int64)).toInt = ((x.toInt - y.toInt) * w.toInt).tdiv 100 := by
    rw [Jvm.Kit.i64_div (by rw [h100]; omega), t2, h100]
  have k := tenth (d := x.toInt - y.toInt) hw.1 hw.2
  unfold FL
  rw [t3]
  generalize ((x.toInt - y.toInt) * w.toInt).tdiv 100 = q at k
  rcases Int.lt_or_le (x.toInt - y.toInt) 0 with h | h
  · have := k.2 h
    omega
  · have := k.1 h
    omega
theorem FL_0 {a b : Int} : FL a b 0 := by
  have e : (0 : Int64).toInt = 0 := rfl
  unfold FL
  rw [e]
  omega
theorem RW.lv {live : Int32} {cells room : Nat → Int32} {row : Nat → Int64} {M : Int} (g : GC live cells room) (h : RW live cells room row M) {x : Int32} (h0 : 0 ≤ x.toInt) (h1 : x.toInt < nC live cells) : 0 ≤ Lv live room row x ∧ Lv live room row x ≤ M ∧ Lv live room row x ≤ (row x.toNatClampNeg).toInt := by
  have r := g.2.2 x h0 h1
  have w := h x h0 h1
  have l := lev_le r.1 w.1 w.2
  refine ⟨l.1, l.2.1, ?_⟩
  have : Lv live room row x * 1 ≤ Lv live room row x * (rO live room x).toInt := Int.mul_le_mul_of_nonneg_left r.1 l.1
  have l3 := l.2.2.1
  unfold Lv at *
  omega
theorem s_X7_overPass (live changed changedAt : Int32) (cells room one oth : Nat → Int32) (row : Nat → Int64) (wide : Nat → Int32) (q1 : Int32) {M : Int} (g : GC live cells room) (hr : RW live cells room row M) (hM : M ≤ 1000000000) (hq : rg q1 0 19) (ha : 0 ≤ (pA live one q1).toInt ∧ (pA live one q1).toInt < nC live cells) (hb : 0 ≤ (pA live oth q1).toInt ∧ (pA live oth q1).toInt < nC live cells) (hw : rg (wide q1.toNatClampNeg) 0 10) : ok (f_X7_overPass live changed changedAt room one oth row wide q1) (fun o => FL (Lv live room row (pA live one q1)) (Lv live room row (pA live oth q1)) o) := by
  have hi := in_side (K := 20) (k := 20) rfl (by decide) g.1 hq (by decide)
  have b18 : ok (f_X7_overPass_b18 live room one oth row wide q1) (fun o => FL (Lv live room row (pA live one q1)) (Lv live room row (pA live oth q1)) o) := by
    unfold f_X7_overPass_b18
    have wa := hr _ ha.1 ha.2
    have wb := hr _ hb.1 hb.2
    have la := hr.lv g ha.1 ha.2
    have lb := hr.lv g hb.1 hb.2
    refine ok_ck (inb_rg hi (by decide) (by decide)) (ok_bd (s_X7_level live room row _ g.1 (g.lt ha.1 ha.2) (g.2.2 _ ha.1 ha.2) wa.1) (fun o1 h1 => ?_))
    refine ok_ck (inb_rg hi (by decide) (by decide)) (ok_bd (s_X7_level live room row _ g.1 (g.lt hb.1 hb.2) (g.2.2 _ hb.1 hb.2) wb.1) (fun o2 h2 => ?_))
    refine ok_ck (inb_rg hq (by decide) (by decide)) (ok_some ?_)
    have k := FL_of (x := o1) (y := o2) (by rw [h1]; exact ⟨la.1, Int.le_trans la.2.1 hM⟩) (by rw [h2]; exact ⟨lb.1, Int.le_trans lb.2.1 hM⟩) hw
    rw [h1, h2] at k
    exact k
  unfold f_X7_overPass
  refine ok_if (fun c1 => ok_if (fun c2 => ok_some FL_0) (fun c2 => b18)) (fun c1 => b18)
theorem s_X7_byRiver (live changed changedAt : Int32) (cells room rc rl rw : Nat → Int32) (row : Nat → Int64) (q1 : Int32) {M : Int} (g : GC live cells room) (hr : RW live cells room row M) (hM : M ≤ 1000000000) (hq : rg q1 0 2) (ha : 0 ≤ (rA live rc q1).toInt ∧ (rA live rc q1).toInt < nC live cells) (hl : rg (rA live rl q1) 0 999) (hw : rg (rA live rw q1) 0 10) : ok (f_X7_byRiver live changed changedAt room rc rl rw row q1) (fun o => FL (rA live rl q1).toInt (Lv live room row (rA live rc q1)) o) := by
  have hi := in_side (K := 3) (k := 3) rfl (by decide) g.1 hq (by decide)
  have b18 : ok (f_X7_byRiver_b18 live room rc rl rw row q1) (fun o => FL (rA live rl q1).toInt (Lv live room row (rA live rc q1)) o) := by
    unfold f_X7_byRiver_b18
    have wa := hr _ ha.1 ha.2
    have la := hr.lv g ha.1 ha.2
    refine ok_ck (inb_rg hi (by decide) (by decide)) (ok_ck (inb_rg hi (by decide) (by decide)) (ok_bd (s_X7_level live room row _ g.1 (g.lt ha.1 ha.2) (g.2.2 _ ha.1 ha.2) wa.1) (fun o1 h1 => ?_)))
    refine ok_ck (inb_rg hi (by decide) (by decide)) (ok_some ?_)
    have e := Jvm.Kit.i64_of_i32 (rA live rl q1)
    have k := FL_of (x := (rA live rl q1).toInt64) (y := o1) (by rw [e]; have := hl.1; have := hl.2; omega) (by rw [h1]; exact ⟨la.1, Int.le_trans la.2.1 hM⟩) hw
    rw [e, h1] at k
    exact k
  unfold f_X7_byRiver
  refine ok_if (fun c1 => ok_if (fun c2 => ok_some FL_0) (fun c2 => b18)) (fun c1 => b18)
theorem s_X7_leaves (row more ms : Nat → Int64) (q1 : Int32) (q2 : Int64) (hq : rg q1 0 11) (hn : ¬ q2.toInt = 0 → ¬ (row q1.toNatClampNeg).toInt = 0) : ok (f_X7_leaves row more ms q1 q2) (fun o => ∀ j, o.2.1 j = if j = q1.toNatClampNeg then more j - q2 else more j) := by
  unfold f_X7_leaves
  have h12 : rg ((12 : Int32) + q1) 12 23 := rg_add (e := 12) (f := 23) (show rg (12 : Int32) 12 12 from ⟨by decide, by decide⟩) hq (by decide) (by decide) (by decide) (by decide)
  refine ok_if (fun c => ok_some (fun j => ?_)) (fun c => ?_)
  · have e := (lg_cmp_eq _ _).mp c
    show more j = _
    by_cases w : j = q1.toNatClampNeg
    · rw [if_pos w, e]
      exact (Int64.sub_zero _).symm
    · rw [if_neg w]
  · have c2 : ¬ q2.toInt = 0 := fun q => c ((lg_cmp_eq _ _).mpr (Int64.toInt_inj.mp q))
    refine ok_ck (inb_rg h12 (by decide) (by decide)) (ok_ck (inb_rg hq (by decide) (by decide)) (ok_ck (nzl_of (hn c2)) (ok_nm (fun e5 _ => ?_))))
    refine ok_ck (inb_rg hq (by decide) (by decide)) (ok_ck (inb_rg hq (by decide) (by decide)) (ok_nm (fun a8 e8 => ?_)))
    refine ok_ck (inb_rg hq (by decide) (by decide)) (ok_ck (inb_rg hq (by decide) (by decide)) (ok_nm (fun a11 _ => ok_some (fun j => ?_))))
    show a8 j = _
    rw [e8, vp_updL]
    by_cases w : j = q1.toNatClampNeg
    · rw [if_pos w, if_pos w, w]
    · rw [if_neg w, if_neg w]
