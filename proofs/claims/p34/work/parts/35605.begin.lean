/-! where a run of days begins: from now, or from the text's begin -/
theorem pj_b15_12 {A0 A1 A2 A3 A4 A5 A6 A7 A8 A9 A10 A11 A12 A13 A14 B0 B1 B2 B3 B4 B5 B6 B7 B8 B9 B10 B11 γ δ : Type} {f : Option (A0 × A1 × A2 × A3 × A4 × A5 × A6 × A7 × A8 × A9 × A10 × A11 × A12 × A13 × A14)} {g : Option (B0 × B1 × B2 × B3 × B4 × B5 × B6 × B7 × B8 × B9 × B10 × B11)} {k : A0 → A1 → A2 → A3 → A4 → A5 → A6 → A7 → A8 → A9 → A10 → A11 → A12 → A13 → A14 → Option γ} {l : B0 → B1 → B2 → B3 → B4 → B5 → B6 → B7 → B8 → B9 → B10 → B11 → Option δ} {J : A0 × A1 × A2 × A3 × A4 × A5 × A6 × A7 × A8 × A9 × A10 × A11 × A12 × A13 × A14 → B0 × B1 × B2 × B3 × B4 × B5 × B6 × B7 × B8 × B9 × B10 × B11 → Prop} {R : γ → δ → Prop} (h : pj f g J) (q : ∀ a0 a1 a2 a3 a4 a5 a6 a7 a8 a9 a10 a11 a12 a13 a14 b0 b1 b2 b3 b4 b5 b6 b7 b8 b9 b10 b11, J (a0, a1, a2, a3, a4, a5, a6, a7, a8, a9, a10, a11, a12, a13, a14) (b0, b1, b2, b3, b4, b5, b6, b7, b8, b9, b10, b11) → pj (k a0 a1 a2 a3 a4 a5 a6 a7 a8 a9 a10 a11 a12 a13 a14) (l b0 b1 b2 b3 b4 b5 b6 b7 b8 b9 b10 b11) R) : pj (bd f (fun o => un15 o k)) (bd g (fun o => un12 o l)) R := pj_bb h (fun a b hab => q (a.1) (a.2.1) (a.2.2.1) (a.2.2.2.1) (a.2.2.2.2.1) (a.2.2.2.2.2.1) (a.2.2.2.2.2.2.1) (a.2.2.2.2.2.2.2.1) (a.2.2.2.2.2.2.2.2.1) (a.2.2.2.2.2.2.2.2.2.1) (a.2.2.2.2.2.2.2.2.2.2.1) (a.2.2.2.2.2.2.2.2.2.2.2.1) (a.2.2.2.2.2.2.2.2.2.2.2.2.1) (a.2.2.2.2.2.2.2.2.2.2.2.2.2.1) (a.2.2.2.2.2.2.2.2.2.2.2.2.2.2) (b.1) (b.2.1) (b.2.2.1) (b.2.2.2.1) (b.2.2.2.2.1) (b.2.2.2.2.2.1) (b.2.2.2.2.2.2.1) (b.2.2.2.2.2.2.2.1) (b.2.2.2.2.2.2.2.2.1) (b.2.2.2.2.2.2.2.2.2.1) (b.2.2.2.2.2.2.2.2.2.2.1) (b.2.2.2.2.2.2.2.2.2.2.2) hab)
theorem pj_b13_10 {A0 A1 A2 A3 A4 A5 A6 A7 A8 A9 A10 A11 A12 B0 B1 B2 B3 B4 B5 B6 B7 B8 B9 γ δ : Type} {f : Option (A0 × A1 × A2 × A3 × A4 × A5 × A6 × A7 × A8 × A9 × A10 × A11 × A12)} {g : Option (B0 × B1 × B2 × B3 × B4 × B5 × B6 × B7 × B8 × B9)} {k : A0 → A1 → A2 → A3 → A4 → A5 → A6 → A7 → A8 → A9 → A10 → A11 → A12 → Option γ} {l : B0 → B1 → B2 → B3 → B4 → B5 → B6 → B7 → B8 → B9 → Option δ} {J : A0 × A1 × A2 × A3 × A4 × A5 × A6 × A7 × A8 × A9 × A10 × A11 × A12 → B0 × B1 × B2 × B3 × B4 × B5 × B6 × B7 × B8 × B9 → Prop} {R : γ → δ → Prop} (h : pj f g J) (q : ∀ a0 a1 a2 a3 a4 a5 a6 a7 a8 a9 a10 a11 a12 b0 b1 b2 b3 b4 b5 b6 b7 b8 b9, J (a0, a1, a2, a3, a4, a5, a6, a7, a8, a9, a10, a11, a12) (b0, b1, b2, b3, b4, b5, b6, b7, b8, b9) → pj (k a0 a1 a2 a3 a4 a5 a6 a7 a8 a9 a10 a11 a12) (l b0 b1 b2 b3 b4 b5 b6 b7 b8 b9) R) : pj (bd f (fun o => un13 o k)) (bd g (fun o => un10 o l)) R := pj_bb h (fun a b hab => q (a.1) (a.2.1) (a.2.2.1) (a.2.2.2.1) (a.2.2.2.2.1) (a.2.2.2.2.2.1) (a.2.2.2.2.2.2.1) (a.2.2.2.2.2.2.2.1) (a.2.2.2.2.2.2.2.2.1) (a.2.2.2.2.2.2.2.2.2.1) (a.2.2.2.2.2.2.2.2.2.2.1) (a.2.2.2.2.2.2.2.2.2.2.2.1) (a.2.2.2.2.2.2.2.2.2.2.2.2) (b.1) (b.2.1) (b.2.2.1) (b.2.2.2.1) (b.2.2.2.2.1) (b.2.2.2.2.2.1) (b.2.2.2.2.2.2.1) (b.2.2.2.2.2.2.2.1) (b.2.2.2.2.2.2.2.2.1) (b.2.2.2.2.2.2.2.2.2) hab)
theorem pa_bd15 {A0 A1 A2 A3 A4 A5 A6 A7 A8 A9 A10 A11 A12 A13 A14 γ : Type} {f : Option (A0 × A1 × A2 × A3 × A4 × A5 × A6 × A7 × A8 × A9 × A10 × A11 × A12 × A13 × A14)} {g : A0 → A1 → A2 → A3 → A4 → A5 → A6 → A7 → A8 → A9 → A10 → A11 → A12 → A13 → A14 → Option γ} {P : A0 × A1 × A2 × A3 × A4 × A5 × A6 × A7 × A8 × A9 × A10 × A11 × A12 × A13 × A14 → Prop} {Q : γ → Prop} (h : pa f P) (k : ∀ a0 a1 a2 a3 a4 a5 a6 a7 a8 a9 a10 a11 a12 a13 a14, P (a0, a1, a2, a3, a4, a5, a6, a7, a8, a9, a10, a11, a12, a13, a14) → pa (g a0 a1 a2 a3 a4 a5 a6 a7 a8 a9 a10 a11 a12 a13 a14) Q) : pa (bd f (fun o => un15 o g)) Q := pa_bd h (fun o ho => k (o.1) (o.2.1) (o.2.2.1) (o.2.2.2.1) (o.2.2.2.2.1) (o.2.2.2.2.2.1) (o.2.2.2.2.2.2.1) (o.2.2.2.2.2.2.2.1) (o.2.2.2.2.2.2.2.2.1) (o.2.2.2.2.2.2.2.2.2.1) (o.2.2.2.2.2.2.2.2.2.2.1) (o.2.2.2.2.2.2.2.2.2.2.2.1) (o.2.2.2.2.2.2.2.2.2.2.2.2.1) (o.2.2.2.2.2.2.2.2.2.2.2.2.2.1) (o.2.2.2.2.2.2.2.2.2.2.2.2.2.2) ho)
theorem pj_b5_10 {A0 A1 A2 A3 A4 B0 B1 B2 B3 B4 B5 B6 B7 B8 B9 γ δ : Type} {f : Option (A0 × A1 × A2 × A3 × A4)} {g : Option (B0 × B1 × B2 × B3 × B4 × B5 × B6 × B7 × B8 × B9)} {k : A0 → A1 → A2 → A3 → A4 → Option γ} {l : B0 → B1 → B2 → B3 → B4 → B5 → B6 → B7 → B8 → B9 → Option δ} {J : A0 × A1 × A2 × A3 × A4 → B0 × B1 × B2 × B3 × B4 × B5 × B6 × B7 × B8 × B9 → Prop} {R : γ → δ → Prop} (h : pj f g J) (q : ∀ a0 a1 a2 a3 a4 b0 b1 b2 b3 b4 b5 b6 b7 b8 b9, J (a0, a1, a2, a3, a4) (b0, b1, b2, b3, b4, b5, b6, b7, b8, b9) → pj (k a0 a1 a2 a3 a4) (l b0 b1 b2 b3 b4 b5 b6 b7 b8 b9) R) : pj (bd f (fun o => un5 o k)) (bd g (fun o => un10 o l)) R := pj_bb h (fun a b hab => q (a.1) (a.2.1) (a.2.2.1) (a.2.2.2.1) (a.2.2.2.2) (b.1) (b.2.1) (b.2.2.1) (b.2.2.2.1) (b.2.2.2.2.1) (b.2.2.2.2.2.1) (b.2.2.2.2.2.2.1) (b.2.2.2.2.2.2.2.1) (b.2.2.2.2.2.2.2.2.1) (b.2.2.2.2.2.2.2.2.2) hab)
theorem pj_b8_10 {A0 A1 A2 A3 A4 A5 A6 A7 B0 B1 B2 B3 B4 B5 B6 B7 B8 B9 γ δ : Type} {f : Option (A0 × A1 × A2 × A3 × A4 × A5 × A6 × A7)} {g : Option (B0 × B1 × B2 × B3 × B4 × B5 × B6 × B7 × B8 × B9)} {k : A0 → A1 → A2 → A3 → A4 → A5 → A6 → A7 → Option γ} {l : B0 → B1 → B2 → B3 → B4 → B5 → B6 → B7 → B8 → B9 → Option δ} {J : A0 × A1 × A2 × A3 × A4 × A5 × A6 × A7 → B0 × B1 × B2 × B3 × B4 × B5 × B6 × B7 × B8 × B9 → Prop} {R : γ → δ → Prop} (h : pj f g J) (q : ∀ a0 a1 a2 a3 a4 a5 a6 a7 b0 b1 b2 b3 b4 b5 b6 b7 b8 b9, J (a0, a1, a2, a3, a4, a5, a6, a7) (b0, b1, b2, b3, b4, b5, b6, b7, b8, b9) → pj (k a0 a1 a2 a3 a4 a5 a6 a7) (l b0 b1 b2 b3 b4 b5 b6 b7 b8 b9) R) : pj (bd f (fun o => un8 o k)) (bd g (fun o => un10 o l)) R := pj_bb h (fun a b hab => q (a.1) (a.2.1) (a.2.2.1) (a.2.2.2.1) (a.2.2.2.2.1) (a.2.2.2.2.2.1) (a.2.2.2.2.2.2.1) (a.2.2.2.2.2.2.2) (b.1) (b.2.1) (b.2.2.1) (b.2.2.2.1) (b.2.2.2.2.1) (b.2.2.2.2.2.1) (b.2.2.2.2.2.2.1) (b.2.2.2.2.2.2.2.1) (b.2.2.2.2.2.2.2.2.1) (b.2.2.2.2.2.2.2.2.2) hab)
theorem cp_atL {f g : Nat → Int64} {N : Int32} {n i : Nat} (hn : N.toNatClampNeg = n) (h : i < n) : va_cpy f g (0 : Int32).toNatClampNeg (0 : Int32).toNatClampNeg N.toNatClampNeg i = f i := by
  unfold va_cpy
  rw [hn]
  show (if (0 : Nat) ≤ i ∧ i < 0 + n then f (0 + (i - 0)) else g i) = f i
  rw [if_pos (by omega)]
  rw [Nat.zero_add, Nat.sub_zero]
theorem fi_J7_fill_53178_6_b : ∀ (n : Nat) (t : Nat → Int32) (v : Int32) (x2 : Int32) (i : Nat), x2.toInt = (i : Int) → i ≤ 6 → (∀ j, j < i → t j = v) → pa (f_J7_fill_53178_6_b5 n t v x2 (6 : Int32)) (fun o => ∀ j, j < 6 → o j = v) := by
  intro n
  induction n with
  | zero => intro t v x2 i _ _ _; exact pa_none
  | succ n ih =>
    intro t v x2 i h2 hi hj
    show pa (f_J7_fill_53178_6_b5_st (f_J7_fill_53178_6_b5 n) t v x2 (6 : Int32)) _
    unfold f_J7_fill_53178_6_b5_st
    refine pa_if (fun z => pa_some (fun j hj2 => hj j ?_)) (fun z => pa_ck (fun _ => pa_nm (fun a3 e3 => ?_)))
    · have := k_le (k := 6) rfl z
      omega
    · have g := k_nle (k := 6) rfl z
      have t1 := add_k (x := x2) (v := 1) (k := 1) rfl (by omega) (by omega)
      have e : x2.toNatClampNeg = i := by have : (x2.toNatClampNeg : Int) = x2.toInt := cl_k (by omega); omega
      rw [e] at e3
      refine ih a3 v (x2 + 1) (i + 1) (by omega) (by omega) (fun j hj2 => ?_)
      by_cases q : j = i
      · rw [q, e3, up_at]
      · rw [e3, up_ne q]
        exact hj j (by omega)
theorem fi_J7_fill_53178_6 (t : Nat → Int32) (v : Int32) : pa (f_J7_fill_53178_6 t v) (fun o => ∀ j, j < 6 → o j = v) := by
  unfold f_J7_fill_53178_6
  exact fi_J7_fill_53178_6_b fuel t v 0 0 rfl (by decide) (fun j hj => absurd hj (Nat.not_lt_zero j))
theorem fi_J7_fill_53178_12_b : ∀ (n : Nat) (t : Nat → Int32) (v : Int32) (x2 : Int32) (i : Nat), x2.toInt = (i : Int) → i ≤ 12 → (∀ j, j < i → t j = v) → pa (f_J7_fill_53178_12_b5 n t v x2 (12 : Int32)) (fun o => ∀ j, j < 12 → o j = v) := by
  intro n
  induction n with
  | zero => intro t v x2 i _ _ _; exact pa_none
  | succ n ih =>
    intro t v x2 i h2 hi hj
    show pa (f_J7_fill_53178_12_b5_st (f_J7_fill_53178_12_b5 n) t v x2 (12 : Int32)) _
    unfold f_J7_fill_53178_12_b5_st
    refine pa_if (fun z => pa_some (fun j hj2 => hj j ?_)) (fun z => pa_ck (fun _ => pa_nm (fun a3 e3 => ?_)))
    · have := k_le (k := 12) rfl z
      omega
    · have g := k_nle (k := 12) rfl z
      have t1 := add_k (x := x2) (v := 1) (k := 1) rfl (by omega) (by omega)
      have e : x2.toNatClampNeg = i := by have : (x2.toNatClampNeg : Int) = x2.toInt := cl_k (by omega); omega
      rw [e] at e3
      refine ih a3 v (x2 + 1) (i + 1) (by omega) (by omega) (fun j hj2 => ?_)
      by_cases q : j = i
      · rw [q, e3, up_at]
      · rw [e3, up_ne q]
        exact hj j (by omega)
theorem fi_J7_fill_53178_12 (t : Nat → Int32) (v : Int32) : pa (f_J7_fill_53178_12 t v) (fun o => ∀ j, j < 12 → o j = v) := by
  unfold f_J7_fill_53178_12
  exact fi_J7_fill_53178_12_b fuel t v 0 0 rfl (by decide) (fun j hj => absurd hj (Nat.not_lt_zero j))
theorem fi_J7_fill_d0a16_12_b : ∀ (n : Nat) (t : Nat → Int64) (v : Int64) (x2 : Int32) (i : Nat), x2.toInt = (i : Int) → i ≤ 12 → (∀ j, j < i → t j = v) → pa (f_J7_fill_d0a16_12_b6 n t v x2 (12 : Int32)) (fun o => ∀ j, j < 12 → o j = v) := by
  intro n
  induction n with
  | zero => intro t v x2 i _ _ _; exact pa_none
  | succ n ih =>
    intro t v x2 i h2 hi hj
    show pa (f_J7_fill_d0a16_12_b6_st (f_J7_fill_d0a16_12_b6 n) t v x2 (12 : Int32)) _
    unfold f_J7_fill_d0a16_12_b6_st
    refine pa_if (fun z => pa_some (fun j hj2 => hj j ?_)) (fun z => pa_ck (fun _ => pa_nm (fun a3 e3 => ?_)))
    · have := k_le (k := 12) rfl z
      omega
    · have g := k_nle (k := 12) rfl z
      have t1 := add_k (x := x2) (v := 1) (k := 1) rfl (by omega) (by omega)
      have e : x2.toNatClampNeg = i := by have : (x2.toNatClampNeg : Int) = x2.toInt := cl_k (by omega); omega
      rw [e] at e3
      refine ih a3 v (x2 + 1) (i + 1) (by omega) (by omega) (fun j hj2 => ?_)
      by_cases q : j = i
      · rw [q, e3, upL_at]
      · rw [e3, upL_ne q]
        exact hj j (by omega)
theorem fi_J7_fill_d0a16_12 (t : Nat → Int64) (v : Int64) : pa (f_J7_fill_d0a16_12 t v) (fun o => ∀ j, j < 12 → o j = v) := by
  unfold f_J7_fill_d0a16_12
  exact fi_J7_fill_d0a16_12_b fuel t v 0 0 rfl (by decide) (fun j hj => absurd hj (Nat.not_lt_zero j))
theorem c_set {v_g_passWidth : Nat → Int32} {v_g_riverWidth : Nat → Int32} {v_g_rain : Nat → Int32} {v_p_pumpCell : Int32} {v_p_wanting : Nat → Int32} {v_p_passWidth : Nat → Int32} {v_p_riverWidth : Nat → Int32} {v_p_rain : Nat → Int32} : pa (f_X4_setAsTold v_g_passWidth v_g_riverWidth v_g_rain v_p_pumpCell v_p_wanting v_p_passWidth v_p_riverWidth v_p_rain) (fun o => o.1 = -1 ∧ (∀ i, i < 6 → o.2.1 i = -1) ∧ (∀ i, i < 20 → o.2.2.1 i = v_g_passWidth i) ∧ (∀ i, i < 3 → o.2.2.2.1 i = v_g_riverWidth i) ∧ ∀ i, i < 14 → o.2.2.2.2 i = v_g_rain i) := by
  unfold f_X4_setAsTold
  exact pa_bd (fi_J7_fill_53178_6 _ _) (fun o ho => pa_nx (pa_nx (pa_nx (pa_some ⟨rfl, ho, fun i hi => cp_at (n := 20) rfl hi, fun i hi => cp_at (n := 3) rfl hi, fun i hi => cp_at (n := 14) rfl hi⟩))))
theorem c_bec {v_o_day : Int32} {v_o_water : Nat → Int32} {v_o_salt : Nat → Int64} {v_o_seen : Nat → Int32} {v_o_took : Nat → Int32} {v_o_dryDays : Nat → Int32} {v_o_firstDry : Nat → Int32} {v_o_total : Nat → Int32} {v_d_day : Int32} {v_d_water : Nat → Int32} {v_d_salt : Nat → Int64} {v_d_seen : Nat → Int32} {v_d_took : Nat → Int32} {v_d_dryDays : Nat → Int32} {v_d_firstDry : Nat → Int32} {v_d_total : Nat → Int32} : pa (f_X1_become v_o_day v_o_water v_o_salt v_o_seen v_o_took v_o_dryDays v_o_firstDry v_o_total v_d_day v_d_water v_d_salt v_d_seen v_d_took v_d_dryDays v_d_firstDry v_d_total) (fun o => o.1 = v_o_day ∧ (∀ i, i < 12 → o.2.1 i = v_o_water i ∧ o.2.2.1 i = v_o_salt i ∧ o.2.2.2.1 i = v_o_seen i) ∧ ∀ i, i < 6 → o.2.2.2.2.1 i = v_o_took i ∧ o.2.2.2.2.2.1 i = v_o_dryDays i ∧ o.2.2.2.2.2.2.1 i = v_o_firstDry i ∧ o.2.2.2.2.2.2.2 i = v_o_total i) := by
  unfold f_X1_become
  exact pa_nx (pa_nx (pa_nx (pa_nx (pa_nx (pa_nx (pa_nx (pa_some ⟨rfl, fun i hi => ⟨cp_at (n := 12) rfl hi, cp_atL (n := 12) rfl hi, cp_at (n := 12) rfl hi⟩, fun i hi => ⟨cp_at (n := 6) rfl hi, cp_at (n := 6) rfl hi, cp_at (n := 6) rfl hi, cp_at (n := 6) rfl hi⟩⟩)))))))
theorem c_beg {v_g_water : Nat → Int32} {v_d_day : Int32} {v_d_water : Nat → Int32} {v_d_salt : Nat → Int64} {v_d_seen : Nat → Int32} {v_d_took : Nat → Int32} {v_d_dryDays : Nat → Int32} {v_d_firstDry : Nat → Int32} {v_d_total : Nat → Int32} : pa (f_X1_begin v_g_water v_d_day v_d_water v_d_salt v_d_seen v_d_took v_d_dryDays v_d_firstDry v_d_total) (fun o => o.1 = 0 ∧ (∀ i, i < 12 → o.2.1 i = v_g_water i ∧ o.2.2.1 i = 0 ∧ o.2.2.2.1 i = 0) ∧ ∀ i, i < 6 → o.2.2.2.2.1 i = 0 ∧ o.2.2.2.2.2.1 i = 0 ∧ o.2.2.2.2.2.2.1 i = -2 ∧ o.2.2.2.2.2.2.2 i = 0) := by
  unfold f_X1_begin
  exact pa_nx (pa_bd (fi_J7_fill_d0a16_12 _ _) (fun o2 h2 => pa_bd (fi_J7_fill_53178_12 _ _) (fun o3 h3 => pa_bd (fi_J7_fill_53178_6 _ _) (fun o4 h4 => pa_bd (fi_J7_fill_53178_6 _ _) (fun o5 h5 => pa_bd (fi_J7_fill_53178_6 _ _) (fun o6 h6 => pa_bd (fi_J7_fill_53178_6 _ _) (fun o7 h7 => pa_some ⟨rfl, fun i hi => ⟨cp_at (n := 12) rfl hi, h2 i hi, h3 i hi⟩, fun i hi => ⟨h4 i hi, h5 i hi, h6 i hi, h7 i hi⟩⟩)))))))
theorem m_pl74 {v_m_live : Int32} {v_m_rain : Nat → Int32} (hl : 0 ≤ v_m_live.toInt ∧ v_m_live.toInt ≤ 1) : ∀ (n : Nat) (v_m_changed : Int32) (v_m_pumpCell : Int32) (v_m_takenAll : Int64) (v_m_riversAll : Int64) (v_m_wants : Nat → Int32) (v_m_isOff : Nat → Int32) (v_m_wide : Nat → Int32) (v_m_rainNow : Nat → Int32) (x1 : Int32) (i : Nat), x1.toInt = (i : Int) → i ≤ 14 → (∀ j, j < i → v_m_rainNow j = v_m_rain (14 * v_m_live.toNatClampNeg + j)) → pa (f_X7_plain_b74 v_m_live v_m_rain n v_m_changed v_m_pumpCell v_m_takenAll v_m_riversAll v_m_wants v_m_isOff v_m_wide v_m_rainNow x1) (fun o => o.1 = v_m_changed ∧ o.2.1 = v_m_pumpCell ∧ (∀ j, j < 6 → o.2.2.2.2.1 j = v_m_wants j ∧ o.2.2.2.2.2.1 j = v_m_isOff j) ∧ (∀ j, j < 20 → o.2.2.2.2.2.2.1 j = v_m_wide j) ∧ ∀ j, j < 14 → o.2.2.2.2.2.2.2 j = v_m_rain (14 * v_m_live.toNatClampNeg + j)) := by
  intro n
  induction n with
  | zero => intro v_m_changed v_m_pumpCell v_m_takenAll v_m_riversAll v_m_wants v_m_isOff v_m_wide v_m_rainNow x1 i _ _ _; exact pa_none
  | succ n ih =>
    intro v_m_changed v_m_pumpCell v_m_takenAll v_m_riversAll v_m_wants v_m_isOff v_m_wide v_m_rainNow x1 i hx hi hI
    show pa (f_X7_plain_b74_st (f_X7_plain_b74 v_m_live v_m_rain n) v_m_live v_m_rain v_m_changed v_m_pumpCell v_m_takenAll v_m_riversAll v_m_wants v_m_isOff v_m_wide v_m_rainNow x1) _
    unfold f_X7_plain_b74_st
    refine pa_if (fun z => pa_some ⟨rfl, rfl, fun j _ => ⟨rfl, rfl⟩, fun j _ => rfl, fun j hj => hI j ?_⟩) (fun z => ?_)
    · have := k_le (k := 14) rfl z
      omega
    · have g := k_nle (k := 14) rfl z
      have t1 := add_k (x := x1) (v := 1) (k := 1) rfl (by omega) (by omega)
      have e : x1.toNatClampNeg = i := by have : (x1.toNatClampNeg : Int) = x1.toInt := cl_k (by omega); omega
      have s14 : (((14 : Int32) * v_m_live) + x1).toNatClampNeg = 14 * v_m_live.toNatClampNeg + i := by rw [cl_S (k := 14) rfl (by decide) hl (by omega) (by omega), e]
      rw [s14, e]
      refine pa_ck (fun _ => pa_ck (fun _ => pa_nm (fun a4 e4 => ih _ _ _ _ _ _ _ a4 (x1 + 1) (i + 1) (by omega) (by omega) (fun j hj => ?_))))
      by_cases q : j = i
      · rw [q, e4, up_at]
      · rw [e4, up_ne q]
        exact hI j (by omega)
theorem m_pl40 {v_m_live : Int32} {v_m_passWide : Nat → Int32} {v_m_rain : Nat → Int32} (hl : 0 ≤ v_m_live.toInt ∧ v_m_live.toInt ≤ 1) : ∀ (n : Nat) (v_m_changed : Int32) (v_m_pumpCell : Int32) (v_m_takenAll : Int64) (v_m_riversAll : Int64) (v_m_wants : Nat → Int32) (v_m_isOff : Nat → Int32) (v_m_wide : Nat → Int32) (v_m_rainNow : Nat → Int32) (x1 : Int32) (i : Nat), x1.toInt = (i : Int) → i ≤ 20 → (∀ j, j < i → v_m_wide j = v_m_passWide (20 * v_m_live.toNatClampNeg + j)) → pa (f_X7_plain_b40 v_m_live v_m_passWide v_m_rain n v_m_changed v_m_pumpCell v_m_takenAll v_m_riversAll v_m_wants v_m_isOff v_m_wide v_m_rainNow x1) (fun o => o.1 = v_m_changed ∧ o.2.1 = v_m_pumpCell ∧ (∀ j, j < 6 → o.2.2.2.2.1 j = v_m_wants j ∧ o.2.2.2.2.2.1 j = v_m_isOff j) ∧ (∀ j, j < 20 → o.2.2.2.2.2.2.1 j = v_m_passWide (20 * v_m_live.toNatClampNeg + j)) ∧ ∀ j, j < 14 → o.2.2.2.2.2.2.2 j = v_m_rain (14 * v_m_live.toNatClampNeg + j)) := by
  intro n
  induction n with
  | zero => intro v_m_changed v_m_pumpCell v_m_takenAll v_m_riversAll v_m_wants v_m_isOff v_m_wide v_m_rainNow x1 i _ _ _; exact pa_none
  | succ n ih =>
    intro v_m_changed v_m_pumpCell v_m_takenAll v_m_riversAll v_m_wants v_m_isOff v_m_wide v_m_rainNow x1 i hx hi hI
    show pa (f_X7_plain_b40_st (f_X7_plain_b40 v_m_live v_m_passWide v_m_rain n) v_m_live v_m_passWide v_m_rain v_m_changed v_m_pumpCell v_m_takenAll v_m_riversAll v_m_wants v_m_isOff v_m_wide v_m_rainNow x1) _
    unfold f_X7_plain_b40_st
    refine pa_if (fun z => pa_w (m_pl74 hl fuel _ _ _ _ _ _ _ _ 0 0 rfl (by decide) (fun j hj => absurd hj (Nat.not_lt_zero j))) (fun o ho => ⟨ho.1, ho.2.1, ho.2.2.1, fun j hj => (ho.2.2.2.1 j hj).trans (hI j ?_), ho.2.2.2.2⟩)) (fun z => ?_)
    · have := k_le (k := 20) rfl z
      omega
    · have g := k_nle (k := 20) rfl z
      have t1 := add_k (x := x1) (v := 1) (k := 1) rfl (by omega) (by omega)
      have e : x1.toNatClampNeg = i := by have : (x1.toNatClampNeg : Int) = x1.toInt := cl_k (by omega); omega
      have s20 : (((20 : Int32) * v_m_live) + x1).toNatClampNeg = 20 * v_m_live.toNatClampNeg + i := by rw [cl_S (k := 20) rfl (by decide) hl (by omega) (by omega), e]
      rw [s20, e]
      refine pa_ck (fun _ => pa_ck (fun _ => pa_nm (fun a4 e4 => ih _ _ _ _ _ _ a4 _ (x1 + 1) (i + 1) (by omega) (by omega) (fun j hj => ?_))))
      by_cases q : j = i
      · rw [q, e4, up_at]
      · rw [e4, up_ne q]
        exact hI j (by omega)
theorem m_pl12 {v_m_live : Int32} {v_m_passWide : Nat → Int32} {v_m_rain : Nat → Int32} (hl : 0 ≤ v_m_live.toInt ∧ v_m_live.toInt ≤ 1) : ∀ (n : Nat) (v_m_changed : Int32) (v_m_pumpCell : Int32) (v_m_takenAll : Int64) (v_m_riversAll : Int64) (v_m_wants : Nat → Int32) (v_m_isOff : Nat → Int32) (v_m_wide : Nat → Int32) (v_m_rainNow : Nat → Int32) (x1 : Int32) (i : Nat), x1.toInt = (i : Int) → i ≤ 6 → (∀ j, j < i → v_m_wants j = -1 ∧ v_m_isOff j = 0) → pa (f_X7_plain_b12 v_m_live v_m_passWide v_m_rain n v_m_changed v_m_pumpCell v_m_takenAll v_m_riversAll v_m_wants v_m_isOff v_m_wide v_m_rainNow x1) (fun o => o.1 = v_m_changed ∧ o.2.1 = v_m_pumpCell ∧ (∀ j, j < 6 → o.2.2.2.2.1 j = -1 ∧ o.2.2.2.2.2.1 j = 0) ∧ (∀ j, j < 20 → o.2.2.2.2.2.2.1 j = v_m_passWide (20 * v_m_live.toNatClampNeg + j)) ∧ ∀ j, j < 14 → o.2.2.2.2.2.2.2 j = v_m_rain (14 * v_m_live.toNatClampNeg + j)) := by
  intro n
  induction n with
  | zero => intro v_m_changed v_m_pumpCell v_m_takenAll v_m_riversAll v_m_wants v_m_isOff v_m_wide v_m_rainNow x1 i _ _ _; exact pa_none
  | succ n ih =>
    intro v_m_changed v_m_pumpCell v_m_takenAll v_m_riversAll v_m_wants v_m_isOff v_m_wide v_m_rainNow x1 i hx hi hI
    show pa (f_X7_plain_b12_st (f_X7_plain_b12 v_m_live v_m_passWide v_m_rain n) v_m_live v_m_passWide v_m_rain v_m_changed v_m_pumpCell v_m_takenAll v_m_riversAll v_m_wants v_m_isOff v_m_wide v_m_rainNow x1) _
    unfold f_X7_plain_b12_st
    refine pa_if (fun z => pa_w (m_pl40 hl fuel _ _ _ _ _ _ _ _ 0 0 rfl (by decide) (fun j hj => absurd hj (Nat.not_lt_zero j))) (fun o ho => ⟨ho.1, ho.2.1, fun j hj => ?_, ho.2.2.2.1, ho.2.2.2.2⟩)) (fun z => ?_)
    · have := k_le (k := 6) rfl z
      have k := ho.2.2.1 j hj
      have k2 := hI j (by omega)
      exact ⟨k.1.trans k2.1, k.2.trans k2.2⟩
    · have g := k_nle (k := 6) rfl z
      have t1 := add_k (x := x1) (v := 1) (k := 1) rfl (by omega) (by omega)
      have e : x1.toNatClampNeg = i := by have : (x1.toNatClampNeg : Int) = x1.toInt := cl_k (by omega); omega
      rw [e]
      refine pa_ck (fun _ => pa_nm (fun a3 e3 => pa_ck (fun _ => pa_nm (fun a5 e5 => ih _ _ _ _ a3 a5 _ _ (x1 + 1) (i + 1) (by omega) (by omega) (fun j hj => ?_)))))
      by_cases q : j = i
      · rw [q, e3, up_at, e5, up_at]
        exact ⟨rfl, nar0⟩
      · rw [e3, up_ne q, e5, up_ne q]
        exact hI j (by omega)
theorem m_plain {v_m_live : Int32} {v_m_passWide : Nat → Int32} {v_m_rain : Nat → Int32} {v_m_changed : Int32} {v_m_pumpCell : Int32} {v_m_takenAll : Int64} {v_m_riversAll : Int64} {v_m_wants : Nat → Int32} {v_m_isOff : Nat → Int32} {v_m_wide : Nat → Int32} {v_m_rainNow : Nat → Int32} (hl : 0 ≤ v_m_live.toInt ∧ v_m_live.toInt ≤ 1) : pa (f_X7_plain v_m_live v_m_passWide v_m_rain v_m_changed v_m_pumpCell v_m_takenAll v_m_riversAll v_m_wants v_m_isOff v_m_wide v_m_rainNow) (fun o => o.1 = -1 ∧ o.2.1 = -1 ∧ (∀ j, j < 6 → o.2.2.2.2.1 j = -1 ∧ o.2.2.2.2.2.1 j = 0) ∧ (∀ j, j < 20 → o.2.2.2.2.2.2.1 j = v_m_passWide (20 * v_m_live.toNatClampNeg + j)) ∧ ∀ j, j < 14 → o.2.2.2.2.2.2.2 j = v_m_rain (14 * v_m_live.toNatClampNeg + j)) := by
  unfold f_X7_plain
  exact m_pl12 hl fuel _ _ _ _ _ _ _ _ 0 0 rfl (by decide) (fun j hj => absurd hj (Nat.not_lt_zero j))
theorem m_go6 {v_m_day : Int32} {v_m_now : Nat → Int64} : ∀ (n : Nat) (v_m_rowDay : Int32) (v_m_changed : Int32) (v_m_pumpCell : Int32) (v_m_takenAll : Int64) (v_m_riversAll : Int64) (v_m_row : Nat → Int64) (v_m_wants : Nat → Int32) (v_m_isOff : Nat → Int32) (v_m_wide : Nat → Int32) (v_m_rainNow : Nat → Int32) (x1 : Int32) (i : Nat), x1.toInt = (i : Int) → i ≤ 60 → (∀ j, j < i → v_m_row j = v_m_now j) → pa (f_X7_goesFrom_b6 v_m_day v_m_now n v_m_rowDay v_m_changed v_m_pumpCell v_m_takenAll v_m_riversAll v_m_row v_m_wants v_m_isOff v_m_wide v_m_rainNow x1) (fun o => o.1 = v_m_day ∧ o.2.1 = v_m_changed ∧ o.2.2.1 = v_m_pumpCell ∧ (∀ j, j < 60 → o.2.2.2.2.2.1 j = v_m_now j) ∧ o.2.2.2.2.2.2.1 = v_m_wants ∧ o.2.2.2.2.2.2.2.1 = v_m_isOff ∧ o.2.2.2.2.2.2.2.2.1 = v_m_wide ∧ o.2.2.2.2.2.2.2.2.2 = v_m_rainNow) := by
  intro n
  induction n with
  | zero => intro v_m_rowDay v_m_changed v_m_pumpCell v_m_takenAll v_m_riversAll v_m_row v_m_wants v_m_isOff v_m_wide v_m_rainNow x1 i _ _ _; exact pa_none
  | succ n ih =>
    intro v_m_rowDay v_m_changed v_m_pumpCell v_m_takenAll v_m_riversAll v_m_row v_m_wants v_m_isOff v_m_wide v_m_rainNow x1 i hx hi hI
    show pa (f_X7_goesFrom_b6_st (f_X7_goesFrom_b6 v_m_day v_m_now n) v_m_day v_m_now v_m_rowDay v_m_changed v_m_pumpCell v_m_takenAll v_m_riversAll v_m_row v_m_wants v_m_isOff v_m_wide v_m_rainNow x1) _
    unfold f_X7_goesFrom_b6_st
    refine pa_if (fun z => pa_some ⟨rfl, rfl, rfl, fun j hj => hI j ?_, rfl, rfl, rfl, rfl⟩) (fun z => ?_)
    · have := k_le (k := 60) rfl z
      omega
    · have g := k_nle (k := 60) rfl z
      have t1 := add_k (x := x1) (v := 1) (k := 1) rfl (by omega) (by omega)
      have e : x1.toNatClampNeg = i := by have : (x1.toNatClampNeg : Int) = x1.toInt := cl_k (by omega); omega
      rw [e]
      refine pa_ck (fun _ => pa_ck (fun _ => pa_nm (fun a4 e4 => ih _ _ _ _ _ a4 _ _ _ _ (x1 + 1) (i + 1) (by omega) (by omega) (fun j hj => ?_))))
      by_cases q : j = i
      · rw [q, e4, upL_at]
      · rw [e4, upL_ne q]
        exact hI j (by omega)
theorem m_gof {v_m_live : Int32} {v_m_day : Int32} {v_m_passWide : Nat → Int32} {v_m_rain : Nat → Int32} {v_m_now : Nat → Int64} {v_m_rowDay : Int32} {v_m_changed : Int32} {v_m_pumpCell : Int32} {v_m_takenAll : Int64} {v_m_riversAll : Int64} {v_m_row : Nat → Int64} {v_m_wants : Nat → Int32} {v_m_isOff : Nat → Int32} {v_m_wide : Nat → Int32} {v_m_rainNow : Nat → Int32} (hl : 0 ≤ v_m_live.toInt ∧ v_m_live.toInt ≤ 1) : pa (f_X7_goesFrom v_m_live v_m_day v_m_passWide v_m_rain v_m_now v_m_rowDay v_m_changed v_m_pumpCell v_m_takenAll v_m_riversAll v_m_row v_m_wants v_m_isOff v_m_wide v_m_rainNow) (fun o => o.1 = v_m_day ∧ o.2.1 = -1 ∧ o.2.2.1 = -1 ∧ (∀ j, j < 60 → o.2.2.2.2.2.1 j = v_m_now j) ∧ (∀ j, j < 6 → o.2.2.2.2.2.2.1 j = -1 ∧ o.2.2.2.2.2.2.2.1 j = 0) ∧ (∀ j, j < 20 → o.2.2.2.2.2.2.2.2.1 j = v_m_passWide (20 * v_m_live.toNatClampNeg + j)) ∧ ∀ j, j < 14 → o.2.2.2.2.2.2.2.2.2 j = v_m_rain (14 * v_m_live.toNatClampNeg + j)) := by
  unfold f_X7_goesFrom
  refine pa_bd8 (m_plain hl) (fun a0 a1 a2 a3 a4 a5 a6 a7 ha => pa_w (m_go6 fuel _ _ _ _ _ _ _ _ _ _ 0 0 rfl (by decide) (fun j hj => absurd hj (Nat.not_lt_zero j))) (fun o ho => ?_))
  obtain ⟨h1, h2, h3, h4, h5⟩ := ha
  obtain ⟨k1, k2, k3, k4, k5, k6, k7, k8⟩ := ho
  rw [k5, k6, k7, k8]
  exact ⟨k1, k2.trans h1, k3.trans h2, k4, h3, h4, h5⟩
theorem m_ke2 {v_m_rowDay : Int32} {v_m_row : Nat → Int64} : ∀ (n : Nat) (v_m_day : Int32) (v_m_now : Nat → Int64) (x1 : Int32) (i : Nat), x1.toInt = (i : Int) → i ≤ 60 → (∀ j, j < i → v_m_now j = v_m_row j) → pa (f_X7_keeps_b2 v_m_rowDay v_m_row n v_m_day v_m_now x1) (fun o => o.1 = v_m_rowDay ∧ ∀ j, j < 60 → o.2 j = v_m_row j) := by
  intro n
  induction n with
  | zero => intro v_m_day v_m_now x1 i _ _ _; exact pa_none
  | succ n ih =>
    intro v_m_day v_m_now x1 i hx hi hI
    show pa (f_X7_keeps_b2_st (f_X7_keeps_b2 v_m_rowDay v_m_row n) v_m_rowDay v_m_row v_m_day v_m_now x1) _
    unfold f_X7_keeps_b2_st
    refine pa_if (fun z => pa_some ⟨rfl, fun j hj => hI j ?_⟩) (fun z => ?_)
    · have := k_le (k := 60) rfl z
      omega
    · have g := k_nle (k := 60) rfl z
      have t1 := add_k (x := x1) (v := 1) (k := 1) rfl (by omega) (by omega)
      have e : x1.toNatClampNeg = i := by have : (x1.toNatClampNeg : Int) = x1.toInt := cl_k (by omega); omega
      rw [e]
      refine pa_ck (fun _ => pa_ck (fun _ => pa_nm (fun a4 e4 => ih _ a4 (x1 + 1) (i + 1) (by omega) (by omega) (fun j hj => ?_))))
      by_cases q : j = i
      · rw [q, e4, upL_at]
      · rw [e4, upL_ne q]
        exact hI j (by omega)
theorem m_kee {v_m_rowDay : Int32} {v_m_row : Nat → Int64} {v_m_day : Int32} {v_m_now : Nat → Int64} : pa (f_X7_keeps v_m_rowDay v_m_row v_m_day v_m_now) (fun o => o.1 = v_m_rowDay ∧ ∀ j, j < 60 → o.2 j = v_m_row j) := by
  unfold f_X7_keeps
  exact m_ke2 fuel _ _ 0 0 rfl (by decide) (fun j hj => absurd hj (Nat.not_lt_zero j))
theorem m_be64  {row0 : Nat → Int64} : ∀ (n : Nat) (v_m_rowDay : Int32) (v_m_changed : Int32) (v_m_pumpCell : Int32) (v_m_takenAll : Int64) (v_m_riversAll : Int64) (v_m_row : Nat → Int64) (v_m_wants : Nat → Int32) (v_m_isOff : Nat → Int32) (v_m_wide : Nat → Int32) (v_m_rainNow : Nat → Int32) (x1 : Int32) (i : Nat), x1.toInt = (i : Int) → i ≤ 6 → (∀ j, v_m_row j = if 48 ≤ j ∧ j < 48 + i then -2 else row0 j) → pa (f_X7_begins_b64  n v_m_rowDay v_m_changed v_m_pumpCell v_m_takenAll v_m_riversAll v_m_row v_m_wants v_m_isOff v_m_wide v_m_rainNow x1) (fun o => o.1 = 0 ∧ o.2.1 = v_m_changed ∧ o.2.2.1 = v_m_pumpCell ∧ (∀ j, o.2.2.2.2.2.1 j = if 48 ≤ j ∧ j < 54 then -2 else row0 j) ∧ o.2.2.2.2.2.2.1 = v_m_wants ∧ o.2.2.2.2.2.2.2.1 = v_m_isOff ∧ o.2.2.2.2.2.2.2.2.1 = v_m_wide ∧ o.2.2.2.2.2.2.2.2.2 = v_m_rainNow) := by
  intro n
  induction n with
  | zero => intro v_m_rowDay v_m_changed v_m_pumpCell v_m_takenAll v_m_riversAll v_m_row v_m_wants v_m_isOff v_m_wide v_m_rainNow x1 i _ _ _; exact pa_none
  | succ n ih =>
    intro v_m_rowDay v_m_changed v_m_pumpCell v_m_takenAll v_m_riversAll v_m_row v_m_wants v_m_isOff v_m_wide v_m_rainNow x1 i hx hi hI
    show pa (f_X7_begins_b64_st (f_X7_begins_b64  n)  v_m_rowDay v_m_changed v_m_pumpCell v_m_takenAll v_m_riversAll v_m_row v_m_wants v_m_isOff v_m_wide v_m_rainNow x1) _
    unfold f_X7_begins_b64_st
    refine pa_if (fun z => pa_some ⟨rfl, rfl, rfl, fun j => ?_, rfl, rfl, rfl, rfl⟩) (fun z => ?_)
    · have := k_le (k := 6) rfl z
      have e6 : i = 6 := by omega
      have k := hI j
      rw [e6] at k
      exact k
    · have g := k_nle (k := 6) rfl z
      have t1 := add_k (x := x1) (v := 1) (k := 1) rfl (by omega) (by omega)
      have e : x1.toNatClampNeg = i := by have : (x1.toNatClampNeg : Int) = x1.toInt := cl_k (by omega); omega
      have s48 : ((48 : Int32) + x1).toNatClampNeg = 48 + i := by rw [cl_K (k := 48) rfl (by decide) (by omega) (by omega), e]
      rw [s48]
      refine pa_ck (fun _ => pa_nm (fun a3 e3 => ih _ _ _ _ _ a3 _ _ _ _ (x1 + 1) (i + 1) (by omega) (by omega) (fun j => ?_)))
      by_cases q : j = 48 + i
      · rw [q, e3, upL_at, if_pos (by omega)]
      · rw [e3, upL_ne q, hI j]
        by_cases r : 48 ≤ j ∧ j < 48 + i
        · rw [if_pos r, if_pos (by omega)]
        · rw [if_neg r, if_neg (by omega)]
theorem m_be27 {v_m_live : Int32} {v_m_cells : Nat → Int32} {v_m_water : Nat → Int32} {ce : Int32} {row0 : Nat → Int64} (hl : 0 ≤ v_m_live.toInt ∧ v_m_live.toInt ≤ 1) (hm : v_m_cells v_m_live.toNatClampNeg = ce) (hc : 0 ≤ ce.toInt ∧ ce.toInt ≤ 12) : ∀ (n : Nat) (v_m_rowDay : Int32) (v_m_changed : Int32) (v_m_pumpCell : Int32) (v_m_takenAll : Int64) (v_m_riversAll : Int64) (v_m_row : Nat → Int64) (v_m_wants : Nat → Int32) (v_m_isOff : Nat → Int32) (v_m_wide : Nat → Int32) (v_m_rainNow : Nat → Int32) (x1 : Int32) (i : Nat), x1.toInt = (i : Int) → (i : Int) ≤ ce.toInt → (∀ j, v_m_row j = if j < i then (v_m_water (12 * v_m_live.toNatClampNeg + j)).toInt64 else row0 j) → pa (f_X7_begins_b27 v_m_live v_m_cells v_m_water n v_m_rowDay v_m_changed v_m_pumpCell v_m_takenAll v_m_riversAll v_m_row v_m_wants v_m_isOff v_m_wide v_m_rainNow x1) (fun o => o.1 = 0 ∧ o.2.1 = v_m_changed ∧ o.2.2.1 = v_m_pumpCell ∧ (∀ j, o.2.2.2.2.2.1 j = if 48 ≤ j ∧ j < 54 then -2 else if (j : Int) < ce.toInt then (v_m_water (12 * v_m_live.toNatClampNeg + j)).toInt64 else row0 j) ∧ o.2.2.2.2.2.2.1 = v_m_wants ∧ o.2.2.2.2.2.2.2.1 = v_m_isOff ∧ o.2.2.2.2.2.2.2.2.1 = v_m_wide ∧ o.2.2.2.2.2.2.2.2.2 = v_m_rainNow) := by
  intro n
  induction n with
  | zero => intro v_m_rowDay v_m_changed v_m_pumpCell v_m_takenAll v_m_riversAll v_m_row v_m_wants v_m_isOff v_m_wide v_m_rainNow x1 i _ _ _; exact pa_none
  | succ n ih =>
    intro v_m_rowDay v_m_changed v_m_pumpCell v_m_takenAll v_m_riversAll v_m_row v_m_wants v_m_isOff v_m_wide v_m_rainNow x1 i hx hi hI
    show pa (f_X7_begins_b27_st (f_X7_begins_b27 v_m_live v_m_cells v_m_water n) v_m_live v_m_cells v_m_water v_m_rowDay v_m_changed v_m_pumpCell v_m_takenAll v_m_riversAll v_m_row v_m_wants v_m_isOff v_m_wide v_m_rainNow x1) _
    unfold f_X7_begins_b27_st
    refine pa_bd (m_nn hm) (fun o ho => ?_)
    subst ho
    refine pa_if (fun z => pa_w (m_be64 (row0 := v_m_row) fuel _ _ _ _ _ _ _ _ _ _ 0 0 rfl (by decide) (fun j => by rw [if_neg (by omega)])) (fun o2 ho2 => ⟨ho2.1, ho2.2.1, ho2.2.2.1, fun j => ?_, ho2.2.2.2.2⟩)) (fun z => ?_)
    · have g := ti_le z
      rw [ho2.2.2.2.1 j, hI j]
      by_cases q : j < i
      · rw [if_pos q, if_pos (show (j : Int) < o.toInt by omega)]
      · rw [if_neg q, if_neg (show ¬ (j : Int) < o.toInt by omega)]
    · have g := ti_nle z
      have t1 := add_k (x := x1) (v := 1) (k := 1) rfl (by omega) (by omega)
      have e : x1.toNatClampNeg = i := by have : (x1.toNatClampNeg : Int) = x1.toInt := cl_k (by omega); omega
      have s12 : (((12 : Int32) * v_m_live) + x1).toNatClampNeg = 12 * v_m_live.toNatClampNeg + i := by rw [cl_S (k := 12) rfl (by decide) hl (by omega) (by omega), e]
      rw [s12, e]
      refine pa_ck (fun _ => pa_ck (fun _ => pa_nm (fun a5 e5 => ih _ _ _ _ _ a5 _ _ _ _ (x1 + 1) (i + 1) (by omega) (by omega) (fun j => ?_))))
      by_cases q : j = i
      · rw [q, e5, upL_at, if_pos (by omega)]
      · rw [e5, upL_ne q, hI j]
        by_cases r : j < i
        · rw [if_pos r, if_pos (by omega)]
        · rw [if_neg r, if_neg (by omega)]
theorem m_be6 {v_m_live : Int32} {v_m_cells : Nat → Int32} {v_m_water : Nat → Int32} {ce : Int32} (hl : 0 ≤ v_m_live.toInt ∧ v_m_live.toInt ≤ 1) (hm : v_m_cells v_m_live.toNatClampNeg = ce) (hc : 0 ≤ ce.toInt ∧ ce.toInt ≤ 12) : ∀ (n : Nat) (v_m_rowDay : Int32) (v_m_changed : Int32) (v_m_pumpCell : Int32) (v_m_takenAll : Int64) (v_m_riversAll : Int64) (v_m_row : Nat → Int64) (v_m_wants : Nat → Int32) (v_m_isOff : Nat → Int32) (v_m_wide : Nat → Int32) (v_m_rainNow : Nat → Int32) (x1 : Int32) (i : Nat), x1.toInt = (i : Int) → i ≤ 60 → (∀ j, j < i → v_m_row j = 0) → pa (f_X7_begins_b6 v_m_live v_m_cells v_m_water n v_m_rowDay v_m_changed v_m_pumpCell v_m_takenAll v_m_riversAll v_m_row v_m_wants v_m_isOff v_m_wide v_m_rainNow x1) (fun o => o.1 = 0 ∧ o.2.1 = v_m_changed ∧ o.2.2.1 = v_m_pumpCell ∧ (∀ j, j < 60 → o.2.2.2.2.2.1 j = if 48 ≤ j ∧ j < 54 then -2 else if (j : Int) < ce.toInt then (v_m_water (12 * v_m_live.toNatClampNeg + j)).toInt64 else 0) ∧ o.2.2.2.2.2.2.1 = v_m_wants ∧ o.2.2.2.2.2.2.2.1 = v_m_isOff ∧ o.2.2.2.2.2.2.2.2.1 = v_m_wide ∧ o.2.2.2.2.2.2.2.2.2 = v_m_rainNow) := by
  intro n
  induction n with
  | zero => intro v_m_rowDay v_m_changed v_m_pumpCell v_m_takenAll v_m_riversAll v_m_row v_m_wants v_m_isOff v_m_wide v_m_rainNow x1 i _ _ _; exact pa_none
  | succ n ih =>
    intro v_m_rowDay v_m_changed v_m_pumpCell v_m_takenAll v_m_riversAll v_m_row v_m_wants v_m_isOff v_m_wide v_m_rainNow x1 i hx hi hI
    show pa (f_X7_begins_b6_st (f_X7_begins_b6 v_m_live v_m_cells v_m_water n) v_m_live v_m_cells v_m_water v_m_rowDay v_m_changed v_m_pumpCell v_m_takenAll v_m_riversAll v_m_row v_m_wants v_m_isOff v_m_wide v_m_rainNow x1) _
    unfold f_X7_begins_b6_st
    refine pa_if (fun z => pa_w (m_be27 (row0 := v_m_row) hl hm hc fuel _ _ _ _ _ _ _ _ _ _ 0 0 rfl hc.1 (fun j => by rw [if_neg (Nat.not_lt_zero j)])) (fun o ho => ⟨ho.1, ho.2.1, ho.2.2.1, fun j hj => ?_, ho.2.2.2.2⟩)) (fun z => ?_)
    · have := k_le (k := 60) rfl z
      rw [ho.2.2.2.1 j, hI j (by omega)]
    · have g := k_nle (k := 60) rfl z
      have t1 := add_k (x := x1) (v := 1) (k := 1) rfl (by omega) (by omega)
      have e : x1.toNatClampNeg = i := by have : (x1.toNatClampNeg : Int) = x1.toInt := cl_k (by omega); omega
      rw [e]
      refine pa_ck (fun _ => pa_nm (fun a3 e3 => ih _ _ _ _ _ a3 _ _ _ _ (x1 + 1) (i + 1) (by omega) (by omega) (fun j hj => ?_)))
      by_cases q : j = i
      · rw [q, e3, upL_at]
      · rw [e3, upL_ne q]
        exact hI j (by omega)
theorem m_beg {v_m_live : Int32} {v_m_cells : Nat → Int32} {v_m_water : Nat → Int32} {v_m_passWide : Nat → Int32} {v_m_rain : Nat → Int32} {v_m_rowDay : Int32} {v_m_changed : Int32} {v_m_pumpCell : Int32} {v_m_takenAll : Int64} {v_m_riversAll : Int64} {v_m_row : Nat → Int64} {v_m_wants : Nat → Int32} {v_m_isOff : Nat → Int32} {v_m_wide : Nat → Int32} {v_m_rainNow : Nat → Int32} {ce : Int32} (hl : 0 ≤ v_m_live.toInt ∧ v_m_live.toInt ≤ 1) (hm : v_m_cells v_m_live.toNatClampNeg = ce) (hc : 0 ≤ ce.toInt ∧ ce.toInt ≤ 12) : pa (f_X7_begins v_m_live v_m_cells v_m_water v_m_passWide v_m_rain v_m_rowDay v_m_changed v_m_pumpCell v_m_takenAll v_m_riversAll v_m_row v_m_wants v_m_isOff v_m_wide v_m_rainNow) (fun o => o.1 = 0 ∧ o.2.1 = -1 ∧ o.2.2.1 = -1 ∧ (∀ j, j < 60 → o.2.2.2.2.2.1 j = if 48 ≤ j ∧ j < 54 then -2 else if (j : Int) < ce.toInt then (v_m_water (12 * v_m_live.toNatClampNeg + j)).toInt64 else 0) ∧ (∀ j, j < 6 → o.2.2.2.2.2.2.1 j = -1 ∧ o.2.2.2.2.2.2.2.1 j = 0) ∧ (∀ j, j < 20 → o.2.2.2.2.2.2.2.2.1 j = v_m_passWide (20 * v_m_live.toNatClampNeg + j)) ∧ ∀ j, j < 14 → o.2.2.2.2.2.2.2.2.2 j = v_m_rain (14 * v_m_live.toNatClampNeg + j)) := by
  unfold f_X7_begins
  refine pa_bd8 (m_plain hl) (fun a0 a1 a2 a3 a4 a5 a6 a7 ha => pa_w (m_be6 hl hm hc fuel _ _ _ _ _ _ _ _ _ _ 0 0 rfl (by decide) (fun j hj => absurd hj (Nat.not_lt_zero j))) (fun o ho => ?_))
  obtain ⟨h1, h2, h3, h4, h5⟩ := ha
  obtain ⟨k1, k2, k3, k4, k5, k6, k7, k8⟩ := ho
  rw [k5, k6, k7, k8]
  exact ⟨k1, k2.trans h1, k3.trans h2, k4, h3, h4, h5⟩
