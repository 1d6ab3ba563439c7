/-- an offTold row that is set, where it did not fit -/
def FX (x : Int32) (t : Nat → Int32) : Prop := ¬ x = 0 ∨ ∃ i : Nat, i < 20 ∧ ¬ t i = 0
theorem FX_1 {t : Nat → Int32} : FX 1 t := Or.inl (by decide)
theorem FX_up {x : Int32} {t y : Nat → Int32} {i : Nat} (e : y = upd t i (vp_nar .boolean (1 : Int32))) (h : (i : Int) < 20) : FX x y := by
  refine Or.inr ⟨i, by omega, ?_⟩
  rw [e, upd, if_pos rfl]
  decide
theorem FX_upx {x z : Int32} {t y : Nat → Int32} (e : y = upd t z.toNatClampNeg (vp_nar .boolean (1 : Int32))) (h : rg z 0 19) : FX x y := FX_up e (by have := cl_e h (by decide); have := h.2; omega)
theorem FX_0 {x : Int32} {t : Nat → Int32} (h : FX x t) (e : x = 0) : ∃ i : Nat, i < 20 ∧ ¬ t i = 0 := h.resolve_left (fun q => q e)
theorem t_X7_saltIn (q0 q2 : Int64) : ok (f_X7_saltIn q0 q2) (fun _ => True) := by
  have b : ∀ t, ok (f_X7_saltIn_b17 t) (fun _ => True) := by
    intro t
    unfold f_X7_saltIn_b17
    exact ok_if (fun _ => ok_some trivial) (fun _ => ok_some trivial)
  unfold f_X7_saltIn
  refine ok_if (fun _ => b _) (fun c => ok_ck (nzl_of (fun q => c ((lg_cmp_eq _ _).mpr (Int64.toInt_inj.mp q)))) (b _))
theorem h_off {t : Nat → Int32} {i : Nat} (hi : i < 20) (ht : ¬ t i = 0) : ∀ (n : Nat) a1 a2 a3 a4 a5 a6 a7 a8 a9 a10 a11 a12 a13 a14 a15 a16 a17 a18 (x2 : Int32), 0 ≤ x2.toInt → x2.toInt ≤ i → (20 - x2.toInt).toNat < n → ok (f_X7_off_b32 n a1 a2 a3 a4 a5 a6 a7 a8 a9 a10 a11 a12 a13 a14 a15 a16 a17 a18 t x2) (fun _ => True) := by
  intro n
  induction n with
  | zero => intro a1 a2 a3 a4 a5 a6 a7 a8 a9 a10 a11 a12 a13 a14 a15 a16 a17 a18 x2 _ _ h; exact absurd h (Nat.not_lt_zero _)
  | succ n ih =>
    intro a1 a2 a3 a4 a5 a6 a7 a8 a9 a10 a11 a12 a13 a14 a15 a16 a17 a18 x2 h0 h1 hn
    show ok (f_X7_off_b32_st (f_X7_off_b32 n) a1 a2 a3 a4 a5 a6 a7 a8 a9 a10 a11 a12 a13 a14 a15 a16 a17 a18 t x2) _
    unfold f_X7_off_b32_st
    have hx : rg x2 0 19 := ⟨h0, by omega⟩
    have e := cl_e hx (by decide)
    have s1 := x_suc hx (by decide)
    refine ok_ck (inb_rg hx (by decide) (by decide)) (ok_if (fun c => ?_) (fun _ => ok_some trivial))
    have hne : ¬ x2.toInt = (i : Int) := by
      intro q
      have : x2.toNatClampNeg = i := by omega
      rw [this] at c
      exact ht c
    exact ih a1 a2 a3 a4 a5 a6 a7 a8 a9 a10 a11 a12 a13 a14 a15 a16 a17 a18 (x2 + 1) (by omega) (by omega) (by omega)
theorem h_off32 (a1 : Int32) (a2 : Int32) (a3 : Int32) (a4 : Int32) (a5 : Int64) (a6 : Int64) (a7 : Nat → Int32) (a8 : Nat → Int32) (a9 : Nat → Int64) (a10 a11 a12 a13 : Nat → Int32) (a14 : Nat → Int64) (a15 a16 : Nat → Int32) (a17 a18 : Nat → Int64) (t : Nat → Int32) (h : ∃ i : Nat, i < 20 ∧ ¬ t i = 0) : ok (f_X7_off_b32 fuel a1 a2 a3 a4 a5 a6 a7 a8 a9 a10 a11 a12 a13 a14 a15 a16 a17 a18 t (0 : Int32)) (fun _ => True) := by
  obtain ⟨i, hi, ht⟩ := h
  have e0 : (0 : Int32).toInt = 0 := rfl
  exact h_off hi ht fuel a1 a2 a3 a4 a5 a6 a7 a8 a9 a10 a11 a12 a13 a14 a15 a16 a17 a18 0 (by omega) (by omega) (by unfold fuel; omega)
