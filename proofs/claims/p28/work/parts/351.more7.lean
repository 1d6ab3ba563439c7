/-! the reference's calls that leave something behind -/
theorem ok_and {α : Type} {f : Option α} {P Q : α → Prop} (h : ok f P) (g : ok f Q) : ok f (fun o => P o ∧ Q o) := by
  obtain ⟨o, e, p⟩ := h
  obtain ⟨o', e', q⟩ := g
  have : o = o' := Option.some.inj (e.symm.trans e')
  subst this
  exact ⟨o, e, p, q⟩
theorem t_X7_pour (live : Int32) (cells : Nat → Int32) (now : Nat → Int64) (q1 q2 : Int32) {room : Nat → Int32} {day : Int32} {B : Int} (g : GC live cells room) (h : RD live cells room now day B) : ok (f_X7_pour live cells now q1 q2) (fun o => RD live cells room o.2 day B) := by
  unfold f_X7_pour
  refine ok_bd (s_X7_isCell live cells q1 g.1 g.2.1) (fun o1 p1 => ok_if (fun _ => ok_some h) (fun c => ?_))
  obtain ⟨_, p2, _⟩ := p1
  obtain ⟨i1, i2⟩ := p2.resolve_left c
  refine ok_bd (s_X7_in q2 0 9999) (fun o3 p3 => ok_if (fun _ => ok_some h) (fun d => ?_))
  obtain ⟨_, p4, _⟩ := p3
  obtain ⟨j1, j2⟩ := p4.resolve_left d
  have i0 := i1.1
  have hq := g.lt i0 i2
  refine ok_ck (inb_rg hq (by decide) (by decide)) (ok_nm (fun a ea => ok_some ?_))
  refine ⟨h.1, h.2.1, fun x h0 h1 => ?_⟩
  have r := g.2.2 x h0 h1
  have r1 := r.1
  have k := h.2.2 x h0 h1
  have d0 := h.1
  show 0 ≤ (a x.toNatClampNeg).toInt ∧ (a x.toNatClampNeg).toInt < (10000 + 99 * day.toInt + 1) * (rO live room x).toInt
  by_cases z : x = q1
  · subst z
    rw [ea, uL_eq]
    have e := Jvm.Kit.i64_of_i32 q2
    have e0 : (0 : Int32).toInt = 0 := rfl
    have e9 : (9999 : Int32).toInt = 9999 := rfl
    rw [e]
    have m : (10000 + 99 * day.toInt + 1) * 1 ≤ (10000 + 99 * day.toInt + 1) * (rO live room x).toInt := Int.mul_le_mul_of_nonneg_left r1 (by omega)
    omega
  · rw [ea, uL_ne (fun q => z (cl_inj h0 i0 q))]
    exact k
theorem t_X7_tell_ (live : Int32) (cells : Nat → Int32) (told : Int32) (td tc tl : Nat → Int32) (q1 q2 q3 : Int32) (hl : rg live 0 1) (hc : rg (cells live.toNatClampNeg) 0 12) (ht : rg told 0 20) (h : TK live cells tc told) (ha : al td 0 199) : ok (f_X7_tell_ live cells told td tc tl q1 q2 q3) (fun o => rg o.2.1 0 20 ∧ TK live cells o.2.2.2.1 o.2.1 ∧ al o.2.2.1 0 199) := by
  unfold f_X7_tell_
  have same : ok (some ((-1 : Int32), told, td, tc, tl)) (fun o => rg o.2.1 0 20 ∧ TK live cells o.2.2.2.1 o.2.1 ∧ al o.2.2.1 0 199) := ok_some ⟨ht, h, ha⟩
  refine ok_if (fun _ => same) (fun c => ?_)
  have c2 := z_ne (k := 20) rfl c
  have t0 := ht.1
  have t1 := ht.2
  refine ok_bd (s_X7_in q1 0 199) (fun o2 p2 => ok_if (fun _ => same) (fun d => ?_))
  obtain ⟨_, p3, _⟩ := p2
  obtain ⟨j1, j2⟩ := p3.resolve_left d
  refine ok_bd (s_X7_isCell live cells q2 hl hc) (fun o4 p4 => ok_if (fun _ => same) (fun e => ?_))
  obtain ⟨_, p5, _⟩ := p4
  obtain ⟨i1, i2⟩ := p5.resolve_left e
  refine ok_bd (s_X7_in q3 0 9999) (fun o6 _ => ok_if (fun _ => same) (fun _ => ?_))
  have it := inb_k (n := 20) t0 (by omega)
  have ta := add_k (x := told) (v := 1) (k := 1) rfl (by omega) (by omega)
  refine ok_ck it (ok_nm (fun a9 e9 => ok_ck it (ok_nm (fun a11 e11 => ok_ck it (ok_nm (fun a13 _ => ok_some ⟨(⟨by rw [ta]; omega, by rw [ta]; omega⟩ : rg (told + 1) 0 20), ?_, ?_⟩))))))
  · intro x x0 x1
    replace x1 : x.toInt < (told + 1).toInt := x1
    exact up_in (Q := fun _ v => 0 ≤ v.toInt ∧ v.toInt < nC live cells) e11 t0 h ⟨i1.1, i2⟩ x x0 (by omega)
  · have e0 : (0 : Int32).toInt = 0 := rfl
    have e199 : (199 : Int32).toInt = 199 := rfl
    exact al_upd e9 ha ⟨by omega, by omega⟩
/-- the row that a slot holds -/
def hrow (held : Nat → Int64) (x : Int32) : Nat → Int64 := fun j => held (((60 : Int32) * x) + Int32.ofNat j).toNatClampNeg
def HD (live : Int32) (cells room : Nat → Int32) (held : Nat → Int64) (hd ih : Nat → Int32) (B : Int) : Prop := ∀ x : Int32, 0 ≤ x.toInt → x.toInt < 3 → ¬ ih x.toNatClampNeg = 0 → RD live cells room (hrow held x) (hd x.toNatClampNeg) B
theorem ix60 {x c : Int32} (x0 : 0 ≤ x.toInt) (x1 : x.toInt < 3) (c0 : 0 ≤ c.toInt) (c1 : c.toInt < 60) : (((60 : Int32) * x) + c).toInt = 60 * x.toInt + c.toInt ∧ ((((60 : Int32) * x) + c).toNatClampNeg : Int) = 60 * x.toInt + c.toInt := by
  have e60 : (60 : Int32).toInt = 60 := rfl
  have e : ((60 : Int32) * x).toInt = 60 * x.toInt := by
    rw [Jvm.Kit.i32_mul (by rw [e60]; omega) (by rw [e60]; omega), e60]
  have t : (((60 : Int32) * x) + c).toInt = 60 * x.toInt + c.toInt := by
    rw [Jvm.Kit.i32_add (by rw [e]; omega) (by rw [e]; omega), e]
  exact ⟨t, by rw [cl_k (by omega), t]⟩
theorem RW_row {live : Int32} {cells room : Nat → Int32} {row row' : Nat → Int64} {M : Int} (g : GC live cells room) (e : ∀ c : Int32, 0 ≤ c.toInt → c.toInt < 60 → row' c.toNatClampNeg = row c.toNatClampNeg) (h : RW live cells room row M) : RW live cells room row' M := by
  intro x h0 h1
  have l := (g.lt h0 h1).2
  rw [e x h0 (by omega)]
  exact h x h0 h1
theorem s_ho30 {now : Nat → Int64} {x1 : Int32} {held0 : Nat → Int64} (a0 : 0 ≤ x1.toInt) (a1 : x1.toInt < 3) : ∀ (n : Nat) (held : Nat → Int64) (hd ih : Nat → Int32) (x2 : Int32), 0 ≤ x2.toInt → x2.toInt ≤ 60 → (∀ c : Int32, 0 ≤ c.toInt → c.toInt < x2.toInt → held (((60 : Int32) * x1) + c).toNatClampNeg = now c.toNatClampNeg) → (∀ i : Nat, ((i : Int) < 60 * x1.toInt ∨ 60 * x1.toInt + 60 ≤ i) → held i = held0 i) → (60 - x2.toInt).toNat < n → ok (f_X7_hold_b30 now n held hd ih x1 x2) (fun o => o.2.2.1 = hd ∧ o.2.2.2 = ih ∧ (∀ c : Int32, 0 ≤ c.toInt → c.toInt < 60 → o.2.1 (((60 : Int32) * x1) + c).toNatClampNeg = now c.toNatClampNeg) ∧ (∀ i : Nat, ((i : Int) < 60 * x1.toInt ∨ 60 * x1.toInt + 60 ≤ i) → o.2.1 i = held0 i)) := by
  intro n
  induction n with
  | zero => intro held hd ih x2 _ _ _ _ h; exact absurd h (Nat.not_lt_zero _)
  | succ n ih' =>
    intro held hd ih x2 h0 h1 hI hO hn
    show ok (f_X7_hold_b30_st (f_X7_hold_b30 now n) now held hd ih x1 x2) _
    unfold f_X7_hold_b30_st
    refine ok_if (fun c => ok_some ⟨rfl, rfl, fun c' c0 c1 => ?_, hO⟩) (fun c => ?_)
    · have c2 := k_le (k := 60) rfl c
      exact hI c' c0 (by omega)
    · have c2 := k_nle (k := 60) rfl c
      have t1 := add_k (x := x2) (v := 1) (k := 1) rfl (by omega) (by omega)
      have i2 := ix60 a0 a1 h0 c2
      refine ok_ck (inb_k h0 (by omega)) (ok_ck (inb_k (by omega) (by omega)) (ok_nm (fun a4 e4 => ?_)))
      refine ih' a4 hd ih (x2 + 1) (by omega) (by omega) (fun c' c0 c1 => ?_) (fun i hi => ?_) (by omega)
      · by_cases q : c' = x2
        · rw [q, e4, uL_eq]
        · have qn : ¬ c'.toInt = x2.toInt := fun z => q (Int32.toInt_inj.mp z)
          have i3 := ix60 (c := c') a0 a1 c0 (by omega)
          rw [e4, uL_ne (by omega)]
          exact hI c' c0 (by omega)
      · rw [e4, uL_ne (by omega)]
        exact hO i hi
theorem t_X7_hold (day : Int32) (now : Nat → Int64) (held : Nat → Int64) (hd ih : Nat → Int32) (q1 : Int32) {live : Int32} {cells room : Nat → Int32} {B : Int} (g : GC live cells room) (h : RD live cells room now day B) (H : HD live cells room held hd ih B) : ok (f_X7_hold day now held hd ih q1) (fun o => HD live cells room o.2.1 o.2.2.1 o.2.2.2 B) := by
  unfold f_X7_hold
  refine ok_bd (s_X7_in q1 0 2) (fun o1 p1 => ok_if (fun _ => ok_some H) (fun c => ?_))
  obtain ⟨_, p2, _⟩ := p1
  obtain ⟨j1, j2⟩ := p2.resolve_left c
  have e0 : (0 : Int32).toInt = 0 := rfl
  have e2 : (2 : Int32).toInt = 2 := rfl
  have iq := inb_k (x := q1) (n := 3) (by omega) (by omega)
  refine ok_ck iq (ok_nm (fun a4 e4 => ok_ck iq (ok_nm (fun a6 e6 => ?_))))
  refine ok_w (s_ho30 (held0 := held) (by omega) (by omega) fuel held a6 a4 0 (by omega) (by omega) (fun c c0 c1 => absurd c1 (by omega)) (fun _ _ => rfl) (by unfold fuel; omega)) (fun o ho => ?_)
  obtain ⟨q1_, q2_, q3, q4⟩ := ho
  intro x x0 x1 hx
  rw [q2_] at hx
  rw [q1_]
  have cx := cl_k x0
  have cq := cl_k (x := q1) (by omega)
  by_cases z : x = q1
  · subst z
    have ed : a6 x.toNatClampNeg = day := sd_eq e6
    rw [ed]
    refine ⟨h.1, h.2.1, RW_row g (fun c c0 c1 => ?_) h.2.2⟩
    unfold hrow
    rw [x_nat (a := 0) (b := 59) ⟨c0, by omega⟩ (by decide)]
    exact q3 c c0 c1
  · have zn : ¬ x.toInt = q1.toInt := fun q => z (Int32.toInt_inj.mp q)
    have eh : a4 x.toNatClampNeg = ih x.toNatClampNeg := sd_ne e4 (by omega)
    have ed : a6 x.toNatClampNeg = hd x.toNatClampNeg := sd_ne e6 (by omega)
    rw [eh] at hx
    rw [ed]
    have k := H x x0 x1 hx
    refine ⟨k.1, k.2.1, RW_row g (fun c c0 c1 => ?_) k.2.2⟩
    unfold hrow
    rw [x_nat (a := 0) (b := 59) ⟨c0, by omega⟩ (by decide)]
    have i3 := ix60 (x := x) (c := c) x0 x1 c0 c1
    exact q4 _ (by omega)
theorem s_rs32 {held : Nat → Int64} {x1 : Int32} (a0 : 0 ≤ x1.toInt) (a1 : x1.toInt < 3) : ∀ (n : Nat) (day : Int32) (now : Nat → Int64) (x2 : Int32), 0 ≤ x2.toInt → x2.toInt ≤ 60 → (∀ c : Int32, 0 ≤ c.toInt → c.toInt < x2.toInt → now c.toNatClampNeg = held (((60 : Int32) * x1) + c).toNatClampNeg) → (60 - x2.toInt).toNat < n → ok (f_X7_restore_b32 held n day now x1 x2) (fun o => o.2.1 = day ∧ ∀ c : Int32, 0 ≤ c.toInt → c.toInt < 60 → o.2.2 c.toNatClampNeg = held (((60 : Int32) * x1) + c).toNatClampNeg) := by
  intro n
  induction n with
  | zero => intro day now x2 _ _ _ h; exact absurd h (Nat.not_lt_zero _)
  | succ n ih' =>
    intro day now x2 h0 h1 hI hn
    show ok (f_X7_restore_b32_st (f_X7_restore_b32 held n) held day now x1 x2) _
    unfold f_X7_restore_b32_st
    refine ok_if (fun c => ok_some ⟨rfl, fun c' c0 c1 => ?_⟩) (fun c => ?_)
    · have c2 := k_le (k := 60) rfl c
      exact hI c' c0 (by omega)
    · have c2 := k_nle (k := 60) rfl c
      have t1 := add_k (x := x2) (v := 1) (k := 1) rfl (by omega) (by omega)
      have i2 := ix60 a0 a1 h0 c2
      refine ok_ck (inb_k (by omega) (by omega)) (ok_ck (inb_k h0 (by omega)) (ok_nm (fun a4 e4 => ?_)))
      refine ih' day a4 (x2 + 1) (by omega) (by omega) (fun c' c0 c1 => ?_) (by omega)
      by_cases q : c' = x2
      · rw [q, e4, uL_eq]
      · have qn : ¬ c'.toInt = x2.toInt := fun z => q (Int32.toInt_inj.mp z)
        have k1 := cl_k c0
        have k2 := cl_k h0
        rw [e4, uL_ne (by omega)]
        exact hI c' c0 (by omega)
theorem t_X7_restore (held : Nat → Int64) (hd ih : Nat → Int32) (day : Int32) (now : Nat → Int64) (q1 : Int32) {live : Int32} {cells room : Nat → Int32} {B : Int} (g : GC live cells room) (h : RD live cells room now day B) (H : HD live cells room held hd ih B) : ok (f_X7_restore held hd ih day now q1) (fun o => RD live cells room o.2.2 o.2.1 B) := by
  unfold f_X7_restore
  refine ok_bd (s_X7_in q1 0 2) (fun o1 p1 => ok_if (fun _ => ok_some h) (fun c => ?_))
  obtain ⟨_, p2, _⟩ := p1
  obtain ⟨j1, j2⟩ := p2.resolve_left c
  have e0 : (0 : Int32).toInt = 0 := rfl
  have e2 : (2 : Int32).toInt = 2 := rfl
  have iq := inb_k (x := q1) (n := 3) (by omega) (by omega)
  refine ok_ck iq (ok_if (fun _ => ok_some h) (fun d => ok_ck iq ?_))
  have k := H q1 (by omega) (by omega) d
  refine ok_w (s_rs32 (by omega) (by omega) fuel (hd q1.toNatClampNeg) now 0 (by omega) (by omega) (fun c c0 c1 => absurd c1 (by omega)) (by unfold fuel; omega)) (fun o ho => ?_)
  obtain ⟨q1_, q2_⟩ := ho
  unfold RD
  rw [q1_]
  refine ⟨k.1, k.2.1, RW_row g (fun c c0 c1 => ?_) k.2.2⟩
  rw [q2_ c c0 c1]
  unfold hrow
  rw [x_nat (a := 0) (b := 59) ⟨c0, by omega⟩ (by decide)]
