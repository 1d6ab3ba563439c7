/-! what a village wants, on both sides -/
theorem cl9_in {x : Int32} (h0 : 0 ≤ x.toInt) (h1 : x.toInt ≤ 999) : cl9 x = x := by
  unfold cl9
  by_cases c : x < (999 : Int32)
  · rw [if_pos c]
    by_cases d : (0 : Int32) < x
    · rw [if_pos d]
    · rw [if_neg d]
      have g := ti_nlt d
      have e : (0 : Int32).toInt = 0 := rfl
      exact (z_of (k := 0) rfl (by omega)).symm
  · rw [if_neg c]
    have g := nlt_k (k := 999) rfl c
    rw [if_pos (by decide)]
    exact (z_of (k := 999) rfl (by omega)).symm
theorem cl9_hi {x : Int32} (h : 999 < x.toInt) : cl9 x = 999 := by
  unfold cl9
  have c : ¬ x < (999 : Int32) := fun c => by
    have := lt_k (k := 999) rfl c
    omega
  rw [if_neg c, if_pos (by decide)]
theorem cl9_lo {x : Int32} (h : x.toInt < 0) : cl9 x = 0 := by
  unfold cl9
  have e9 : (999 : Int32).toInt = 999 := rfl
  have e0 : (0 : Int32).toInt = 0 := rfl
  have c : x < (999 : Int32) := Int32.lt_iff_toInt_lt.mpr (by omega)
  have d : ¬ (0 : Int32) < x := fun d => by
    have := ti_lt d
    omega
  rw [if_pos c, if_neg d]
/-- the row of 17 numbers is filled, then the law's number is bounded -/
theorem j_w95 {live x1 w0 w1 w2 w3 w4 : Int32} {lf lt_ code7 ci : Nat → Int32} {row : Nat → Int64} {f : Option (Int32 × (Nat → Int32))} (hT : ∀ (vars pile : Nat → Int32) (ib : Int32), (vars 0 = w0 ∧ vars 1 = w1 ∧ vars 2 = w2 ∧ vars 3 = w3 ∧ vars 4 = w4 ∧ ∀ c : Nat, c < 12 → vars (5 + c) = (row (24 + c)).toInt32) → pj f (f_X7_termOf code7 ci vars ib pile (lf (((6 : Int32) * live) + x1).toNatClampNeg) (lt_ (((6 : Int32) * live) + x1).toNatClampNeg)) (fun a b => a.1 = cl9 b.1)) : ∀ (n : Nat) (ib : Int32) (vars pile : Nat → Int32) (x2 : Int32) (i : Nat), x2.toInt = (i : Int) → i ≤ 12 → (vars 0 = w0 ∧ vars 1 = w1 ∧ vars 2 = w2 ∧ vars 3 = w3 ∧ vars 4 = w4 ∧ ∀ c : Nat, c < i → vars (5 + c) = (row (24 + c)).toInt32) → pj f (f_X7_wantOf_b95 live lf lt_ code7 ci row n ib vars pile x1 x2) (fun a b => a.1 = b.1) := by
  intro n
  induction n with
  | zero => intro ib vars pile x2 i _ _ _; exact pj_nr
  | succ n ih =>
    intro ib vars pile x2 i h2 h12 hv
    show pj f (f_X7_wantOf_b95_st (f_X7_wantOf_b95 live lf lt_ code7 ci row n) live lf lt_ code7 ci row ib vars pile x1 x2) _
    unfold f_X7_wantOf_b95_st
    refine pj_ifr (fun z => pj_ckr (fun _ => pj_ckr (fun _ => pj_bR (hT vars pile ib ?_) (fun a b hab => ?_)))) (fun z => ?_)
    · have g := k_le (k := 12) rfl z
      have e : i = 12 := by omega
      rw [e] at hv
      exact hv
    · obtain ⟨b0, b1, b2⟩ := b
      have hab : a.1 = cl9 b0 := hab
      show pa (if (0 : Int32) ≤ b0 then (if b0 ≤ (999 : Int32) then some (b0, b1, vars, b2) else some ((999 : Int32), b1, vars, b2)) else some ((0 : Int32), b1, vars, b2)) _
      refine pa_if (fun c => pa_if (fun d => pa_some ?_) (fun d => pa_some ?_)) (fun c => pa_some ?_)
      · exact hab.trans (cl9_in (k_le (k := 0) rfl c) (le_k (k := 999) rfl d))
      · exact hab.trans (cl9_hi (nle_k (k := 999) rfl d))
      · exact hab.trans (cl9_lo (k_nle (k := 0) rfl c))
    · have g := k_nle (k := 12) rfl z
      have t := add_k (x := x2) (v := 1) (k := 1) rfl (by omega) (by omega)
      have e5 : (5 : Int32).toInt = 5 := rfl
      have e24 : (24 : Int32).toInt = 24 := rfl
      have t5 : ((5 : Int32) + x2).toInt = 5 + x2.toInt := by rw [Jvm.Kit.i32_add (by rw [e5]; omega) (by rw [e5]; omega), e5]
      have t24 : ((24 : Int32) + x2).toInt = 24 + x2.toInt := by rw [Jvm.Kit.i32_add (by rw [e24]; omega) (by rw [e24]; omega), e24]
      have n5 : ((5 : Int32) + x2).toNatClampNeg = 5 + i := by have : (((5 : Int32) + x2).toNatClampNeg : Int) = ((5 : Int32) + x2).toInt := cl_k (by omega); omega
      have n24 : ((24 : Int32) + x2).toNatClampNeg = 24 + i := by have : (((24 : Int32) + x2).toNatClampNeg : Int) = ((24 : Int32) + x2).toInt := cl_k (by omega); omega
      rw [n5, n24]
      obtain ⟨v0, v1, v2, v3, v4, v5⟩ := hv
      refine pj_ckr (fun _ => pj_ckr (fun _ => pj_nmr (ih ib _ pile (x2 + 1) (i + 1) (by omega) (by omega) ⟨(up_no (by omega)).trans v0, (up_no (by omega)).trans v1, (up_no (by omega)).trans v2, (up_no (by omega)).trans v3, (up_no (by omega)).trans v4, fun c hc => ?_⟩)))
      by_cases q : c = i
      · rw [q]
        exact up_at
      · exact (up_no (by omega)).trans (v5 c (by omega))
