theorem ex_of {α β : Type} {f : Option α} {g : Option β} {r : α → Int32} {t : β → Int32} (h : (match f, g with | some o, some o2 => decide (r o = t o2) | _, _ => false) = true) : ∃ o o2, f = some o ∧ g = some o2 ∧ r o = t o2 := by
  cases f with
  | none => exact absurd h (by simp)
  | some o =>
    cases g with
    | none => exact absurd h (by simp)
    | some o2 => exact ⟨o, o2, rfl, rfl, of_decide_eq_true h⟩
theorem exl_of {α γ β : Type} {f : Option (α ⊕ γ)} {g : Option β} {r : α → Int32} {t : β → Int32} (h : (match f, g with | some (.inl o), some o2 => decide (r o = t o2) | _, _ => false) = true) : ∃ o o2, f = some (.inl o) ∧ g = some o2 ∧ r o = t o2 := by
  cases f with
  | none => exact absurd h (by simp)
  | some o =>
    cases o with
    | inr o => cases g <;> exact absurd h (by simp)
    | inl o =>
      cases g with
      | none => exact absurd h (by simp)
      | some o2 => exact ⟨o, o2, rfl, rfl, of_decide_eq_true h⟩
theorem z_in (a c : Int32) (hc : c < 0) : f_X7_in a 0 c = some 0 := by
  unfold f_X7_in
  by_cases h : a < 0
  · rw [if_pos h]
  · rw [if_neg h, if_pos]
    rw [Int32.lt_iff_toInt_lt] at h hc ⊢
    omega
theorem z6_isCell (a : Int32) : f_X6_isCell 0 a = some 0 := by
  unfold f_X6_isCell
  by_cases h : a < 0
  · rw [if_pos h]
  · rw [if_neg h, if_pos (Int32.not_lt.mp h)]
theorem z6_isVillage (a : Int32) : f_X6_isVillage 0 a = some 0 := by
  unfold f_X6_isVillage
  by_cases h : a < 0
  · rw [if_pos h]
  · rw [if_neg h, if_pos (Int32.not_lt.mp h)]
theorem z6_isPass (a : Int32) : f_X6_isPass 0 a = some 0 := by
  unfold f_X6_isPass
  by_cases h : a < 0
  · rw [if_pos h]
  · rw [if_neg h, if_pos (Int32.not_lt.mp h)]
theorem z7_isCell (a : Int32) : f_X7_isCell 0 (fun _ => 0) a = some 0 := by
  show bd (f_X7_in a 0 ((0 : Int32) - 1)) (fun o_2 => ck (isz o_2) (some (o_2))) = some 0
  rw [z_in a _ (by decide)]
  rfl
theorem z7_isVillage (a : Int32) : f_X7_isVillage 0 (fun _ => 0) a = some 0 := by
  show bd (f_X7_in a 0 ((0 : Int32) - 1)) (fun o_2 => ck (isz o_2) (some (o_2))) = some 0
  rw [z_in a _ (by decide)]
  rfl
theorem z7_isPass (a : Int32) : f_X7_isPass 0 (fun _ => 0) a = some 0 := by
  show bd (f_X7_in a 0 ((0 : Int32) - 1)) (fun o_2 => ck (isz o_2) (some (o_2))) = some 0
  rw [z_in a _ (by decide)]
  rfl
theorem z6_isChange (a c : Int32) : f_X6_isChange 0 0 0 a c = some 0 := by
  unfold f_X6_isChange
  rw [z6_isVillage, z6_isPass]
  by_cases h0 : a = 0
  · rw [if_pos h0]; rfl
  rw [if_neg h0]
  by_cases h1 : a = 1
  · rw [if_pos h1]; rfl
  rw [if_neg h1]
  by_cases h2 : a = 2
  · rw [if_pos h2]
    by_cases h : c < 0
    · rw [if_pos h]
    · rw [if_neg h, if_pos (Int32.not_lt.mp h)]
  · rw [if_neg h2]
theorem z7_isChange (a c : Int32) : f_X7_isChange 0 (fun _ => 0) (fun _ => 0) (fun _ => 0) a c = some 0 := by
  unfold f_X7_isChange
  rw [z7_isVillage, z_in c]
  · by_cases h0 : a = 0
    · rw [if_pos h0]; rfl
    rw [if_neg h0]
    by_cases h1 : a = 1
    · rw [if_pos h1]; rfl
    rw [if_neg h1]
    by_cases h2 : a = 2
    · rw [if_pos h2]; rfl
    · rw [if_neg h2]
  · decide
theorem z_in2 (a b c : Int32) : f_X7_in a b c = some 0 ∨ f_X7_in a b c = some 1 := by
  unfold f_X7_in
  by_cases h : a < b
  · exact Or.inl (if_pos h)
  rw [if_neg h]
  by_cases h2 : c < a
  · exact Or.inl (if_pos h2)
  · exact Or.inr (if_neg h2)
theorem exr_of {α γ β : Type} {f : Option (α ⊕ γ)} {g : Option β} {r : γ → Int32} {t : β → Int32} (h : (match f, g with | some (.inr o), some o2 => decide (r o = t o2) | _, _ => false) = true) : ∃ o o2, f = some (.inr o) ∧ g = some o2 ∧ r o = t o2 := by
  cases f with
  | none => exact absurd h (by simp)
  | some o =>
    cases o with
    | inl o => cases g <;> exact absurd h (by simp)
    | inr o =>
      cases g with
      | none => exact absurd h (by simp)
      | some o2 => exact ⟨o, o2, rfl, rfl, of_decide_eq_true h⟩
theorem z6_arePair (a c : Int32) : f_X6_arePair 0 a c = some 0 := by
  unfold f_X6_arePair
  rw [z6_isPass]
  rfl
theorem z7_canPair (a c k : Int32) : f_X7_canPair 0 0 (fun _ => 0) a c k = some 0 := by
  unfold f_X7_canPair
  rw [z7_isPass]
  rfl
theorem z_days (a : Int32) : (f_X6_isAhead a = some 0 ∧ f_X7_areDays a = some 0) ∨ (f_X6_isAhead a = some 1 ∧ f_X7_areDays a = some 1 ∧ ∃ N : Nat, N ≤ 400 ∧ a = nI N) := by
  unfold f_X6_isAhead f_X7_areDays f_X7_in
  by_cases h : a < 1
  · rw [if_pos h]
    exact Or.inl ⟨rfl, rfl⟩
  rw [if_neg h]
  by_cases h2 : (200 : Int32) < a
  · rw [if_pos h2]
    exact Or.inl ⟨rfl, rfl⟩
  rw [if_neg h2]
  refine Or.inr ⟨rfl, rfl, ?_⟩
  have h3 : ¬ a < 0 := by
    rw [Int32.lt_iff_toInt_lt] at h ⊢
    have e1 : (1 : Int32).toInt = 1 := rfl
    have e0 : (0 : Int32).toInt = 0 := rfl
    omega
  obtain ⟨N, hN, e⟩ := nI_of2 (n := 200) (M := 200) rfl h3 (Int32.not_lt.mp h2)
  exact ⟨N, by omega, e⟩
theorem z_slot (a : Int32) : (f_X6_isSlot a = some 0 ∧ f_X7_in a 0 2 = some 0) ∨ a = 0 ∨ a = 1 ∨ a = 2 := by
  unfold f_X6_isSlot f_X7_in
  by_cases h : a < 0
  · rw [if_pos h, if_pos h]
    exact Or.inl ⟨rfl, rfl⟩
  rw [if_neg h, if_neg h]
  by_cases h2 : (3 : Int32) ≤ a
  · have h3 : (2 : Int32) < a := by
      rw [Int32.le_iff_toInt_le] at h2
      rw [Int32.lt_iff_toInt_lt]
      have e3 : (3 : Int32).toInt = 3 := rfl
      have e2 : (2 : Int32).toInt = 2 := rfl
      omega
    rw [if_pos h2, if_pos h3]
    exact Or.inl ⟨rfl, rfl⟩
  · rw [Int32.le_iff_toInt_le] at h2
    rw [Int32.lt_iff_toInt_lt] at h
    have e3 : (3 : Int32).toInt = 3 := rfl
    have e0 : (0 : Int32).toInt = 0 := rfl
    have h5 : a.toInt = 0 ∨ a.toInt = 1 ∨ a.toInt = 2 := by omega
    rcases h5 with h5 | h5 | h5
    · exact Or.inr (Or.inl (Int32.toInt_inj.mp h5))
    · exact Or.inr (Or.inr (Or.inl (Int32.toInt_inj.mp h5)))
    · exact Or.inr (Or.inr (Or.inr (Int32.toInt_inj.mp h5)))
theorem z_known (a : Int32) : (f_X6_isKnown 0 a = some 0 ∧ f_X7_in a 0 0 = some 0) ∨ a = 0 := by
  unfold f_X6_isKnown f_X7_in
  by_cases h : a < 0
  · rw [if_pos h]
    exact Or.inl ⟨rfl, rfl⟩
  rw [if_neg h]
  by_cases h2 : (0 : Int32) < a
  · rw [if_pos h2]
    exact Or.inl ⟨rfl, rfl⟩
  · rw [Int32.lt_iff_toInt_lt] at h h2
    exact Or.inr (Int32.toInt_inj.mp (by have e0 : (0 : Int32).toInt = 0 := rfl; omega))
theorem z_ap6 (q : Nat) (n : Int32) (tp : Nat → Int32) (w x : Int32) (h1 : ¬ x < 0) (h2 : ¬ (2000 : Int32) ≤ n) (h3 : inb n 2000 = true) : f_X6_append_b3 (q + 1) n tp w x = f_X6_append_b3 q (n + 1) (upd tp n.toNatClampNeg (vp_nar .byte ((w >>> (x &&& 31)).toInt8.toInt32))) w (x + (-8 : Int32)) := by
  show f_X6_append_b3_st (f_X6_append_b3 q) n tp w x = _
  unfold f_X6_append_b3_st
  rw [if_neg h1, if_neg h2, h3]
  rfl
theorem z_en6 (q : Nat) (n : Int32) (tp : Nat → Int32) (w x : Int32) (h1 : x < 0) : f_X6_append_b3 (q + 1) n tp w x = some (n, tp) := by
  show f_X6_append_b3_st (f_X6_append_b3 q) n tp w x = _
  unfold f_X6_append_b3_st
  exact if_pos h1
theorem z_ap7 (q : Nat) (n : Int32) (tp : Nat → Int32) (w x : Int32) (h1 : ¬ x < 0) (h3 : inb n 2000 = true) : f_X7_put_b3 (q + 1) n tp w x = f_X7_put_b3 q (n + 1) (upd tp n.toNatClampNeg (vp_nar .byte ((w >>> (x &&& 31)).toInt8.toInt32))) w (x + (-8 : Int32)) := by
  show f_X7_put_b3_st (f_X7_put_b3 q) n tp w x = _
  unfold f_X7_put_b3_st
  rw [if_neg h1, h3]
  rfl
theorem z_en7 (q : Nat) (n : Int32) (tp : Nat → Int32) (w x : Int32) (h1 : x < 0) : f_X7_put_b3 (q + 1) n tp w x = some (n, tp) := by
  show f_X7_put_b3_st (f_X7_put_b3 q) n tp w x = _
  unfold f_X7_put_b3_st
  exact if_pos h1
theorem z_a6_0 (tp : Nat → Int32) (w : Int32) : ∃ t, f_X6_append 0 tp w = some (4, t) := by
  unfold f_X6_append
  rw [show fuel = 999995 + 1 + 1 + 1 + 1 + 1 from rfl, z_ap6 _ 0 _ _ 24 (by decide) (by decide) (by decide), z_ap6 _ (0 + 1) _ _ (24 + -8) (by decide) (by decide) (by decide), z_ap6 _ (0 + 1 + 1) _ _ (24 + -8 + -8) (by decide) (by decide) (by decide), z_ap6 _ (0 + 1 + 1 + 1) _ _ (24 + -8 + -8 + -8) (by decide) (by decide) (by decide), z_en6 _ (0 + 1 + 1 + 1 + 1) _ _ (24 + -8 + -8 + -8 + -8) (by decide)]
  exact ⟨_, rfl⟩
theorem z_a7_0 (tp : Nat → Int32) (w : Int32) : ∃ t, f_X7_put 0 tp w = some (4, t) := by
  unfold f_X7_put
  rw [show fuel = 999995 + 1 + 1 + 1 + 1 + 1 from rfl, z_ap7 _ 0 _ _ 24 (by decide) (by decide), z_ap7 _ (0 + 1) _ _ (24 + -8) (by decide) (by decide), z_ap7 _ (0 + 1 + 1) _ _ (24 + -8 + -8) (by decide) (by decide), z_ap7 _ (0 + 1 + 1 + 1) _ _ (24 + -8 + -8 + -8) (by decide) (by decide), z_en7 _ (0 + 1 + 1 + 1 + 1) _ _ (24 + -8 + -8 + -8 + -8) (by decide)]
  exact ⟨_, rfl⟩
theorem z_a6_4 (tp : Nat → Int32) (w : Int32) : ∃ t, f_X6_append 4 tp w = some (8, t) := by
  unfold f_X6_append
  rw [show fuel = 999995 + 1 + 1 + 1 + 1 + 1 from rfl, z_ap6 _ 4 _ _ 24 (by decide) (by decide) (by decide), z_ap6 _ (4 + 1) _ _ (24 + -8) (by decide) (by decide) (by decide), z_ap6 _ (4 + 1 + 1) _ _ (24 + -8 + -8) (by decide) (by decide) (by decide), z_ap6 _ (4 + 1 + 1 + 1) _ _ (24 + -8 + -8 + -8) (by decide) (by decide) (by decide), z_en6 _ (4 + 1 + 1 + 1 + 1) _ _ (24 + -8 + -8 + -8 + -8) (by decide)]
  exact ⟨_, rfl⟩
theorem z_a7_4 (tp : Nat → Int32) (w : Int32) : ∃ t, f_X7_put 4 tp w = some (8, t) := by
  unfold f_X7_put
  rw [show fuel = 999995 + 1 + 1 + 1 + 1 + 1 from rfl, z_ap7 _ 4 _ _ 24 (by decide) (by decide), z_ap7 _ (4 + 1) _ _ (24 + -8) (by decide) (by decide), z_ap7 _ (4 + 1 + 1) _ _ (24 + -8 + -8) (by decide) (by decide), z_ap7 _ (4 + 1 + 1 + 1) _ _ (24 + -8 + -8 + -8) (by decide) (by decide), z_en7 _ (4 + 1 + 1 + 1 + 1) _ _ (24 + -8 + -8 + -8 + -8) (by decide)]
  exact ⟨_, rfl⟩
theorem z_a6_8 (tp : Nat → Int32) (w : Int32) : ∃ t, f_X6_append 8 tp w = some (12, t) := by
  unfold f_X6_append
  rw [show fuel = 999995 + 1 + 1 + 1 + 1 + 1 from rfl, z_ap6 _ 8 _ _ 24 (by decide) (by decide) (by decide), z_ap6 _ (8 + 1) _ _ (24 + -8) (by decide) (by decide) (by decide), z_ap6 _ (8 + 1 + 1) _ _ (24 + -8 + -8) (by decide) (by decide) (by decide), z_ap6 _ (8 + 1 + 1 + 1) _ _ (24 + -8 + -8 + -8) (by decide) (by decide) (by decide), z_en6 _ (8 + 1 + 1 + 1 + 1) _ _ (24 + -8 + -8 + -8 + -8) (by decide)]
  exact ⟨_, rfl⟩
theorem z_a7_8 (tp : Nat → Int32) (w : Int32) : ∃ t, f_X7_put 8 tp w = some (12, t) := by
  unfold f_X7_put
  rw [show fuel = 999995 + 1 + 1 + 1 + 1 + 1 from rfl, z_ap7 _ 8 _ _ 24 (by decide) (by decide), z_ap7 _ (8 + 1) _ _ (24 + -8) (by decide) (by decide), z_ap7 _ (8 + 1 + 1) _ _ (24 + -8 + -8) (by decide) (by decide), z_ap7 _ (8 + 1 + 1 + 1) _ _ (24 + -8 + -8 + -8) (by decide) (by decide), z_en7 _ (8 + 1 + 1 + 1 + 1) _ _ (24 + -8 + -8 + -8 + -8) (by decide)]
  exact ⟨_, rfl⟩
theorem z_a6_12 (tp : Nat → Int32) (w : Int32) : ∃ t, f_X6_append 12 tp w = some (16, t) := by
  unfold f_X6_append
  rw [show fuel = 999995 + 1 + 1 + 1 + 1 + 1 from rfl, z_ap6 _ 12 _ _ 24 (by decide) (by decide) (by decide), z_ap6 _ (12 + 1) _ _ (24 + -8) (by decide) (by decide) (by decide), z_ap6 _ (12 + 1 + 1) _ _ (24 + -8 + -8) (by decide) (by decide) (by decide), z_ap6 _ (12 + 1 + 1 + 1) _ _ (24 + -8 + -8 + -8) (by decide) (by decide) (by decide), z_en6 _ (12 + 1 + 1 + 1 + 1) _ _ (24 + -8 + -8 + -8 + -8) (by decide)]
  exact ⟨_, rfl⟩
theorem z_a7_12 (tp : Nat → Int32) (w : Int32) : ∃ t, f_X7_put 12 tp w = some (16, t) := by
  unfold f_X7_put
  rw [show fuel = 999995 + 1 + 1 + 1 + 1 + 1 from rfl, z_ap7 _ 12 _ _ 24 (by decide) (by decide), z_ap7 _ (12 + 1) _ _ (24 + -8) (by decide) (by decide), z_ap7 _ (12 + 1 + 1) _ _ (24 + -8 + -8) (by decide) (by decide), z_ap7 _ (12 + 1 + 1 + 1) _ _ (24 + -8 + -8 + -8) (by decide) (by decide), z_en7 _ (12 + 1 + 1 + 1 + 1) _ _ (24 + -8 + -8 + -8 + -8) (by decide)]
  exact ⟨_, rfl⟩
theorem z_a6_16 (tp : Nat → Int32) (w : Int32) : ∃ t, f_X6_append 16 tp w = some (20, t) := by
  unfold f_X6_append
  rw [show fuel = 999995 + 1 + 1 + 1 + 1 + 1 from rfl, z_ap6 _ 16 _ _ 24 (by decide) (by decide) (by decide), z_ap6 _ (16 + 1) _ _ (24 + -8) (by decide) (by decide) (by decide), z_ap6 _ (16 + 1 + 1) _ _ (24 + -8 + -8) (by decide) (by decide) (by decide), z_ap6 _ (16 + 1 + 1 + 1) _ _ (24 + -8 + -8 + -8) (by decide) (by decide) (by decide), z_en6 _ (16 + 1 + 1 + 1 + 1) _ _ (24 + -8 + -8 + -8 + -8) (by decide)]
  exact ⟨_, rfl⟩
theorem z_a7_16 (tp : Nat → Int32) (w : Int32) : ∃ t, f_X7_put 16 tp w = some (20, t) := by
  unfold f_X7_put
  rw [show fuel = 999995 + 1 + 1 + 1 + 1 + 1 from rfl, z_ap7 _ 16 _ _ 24 (by decide) (by decide), z_ap7 _ (16 + 1) _ _ (24 + -8) (by decide) (by decide), z_ap7 _ (16 + 1 + 1) _ _ (24 + -8 + -8) (by decide) (by decide), z_ap7 _ (16 + 1 + 1 + 1) _ _ (24 + -8 + -8 + -8) (by decide) (by decide), z_en7 _ (16 + 1 + 1 + 1 + 1) _ _ (24 + -8 + -8 + -8 + -8) (by decide)]
  exact ⟨_, rfl⟩
theorem z_g10 {R : Type} {f : Option (Int32 × Int32 × Int32 × Int64 × Int64 × R)} (h : (match f with | some o => decide (o.1 = 0 ∧ o.2.1 = -1 ∧ o.2.2.1 = -1 ∧ o.2.2.2.1 = 0 ∧ o.2.2.2.2.1 = 0) | none => false) = true) : ∃ r : R, f = some (0, -1, -1, 0, 0, r) := by
  cases f with
  | none => exact absurd h (by simp)
  | some o =>
    obtain ⟨a, b, c, d, e, r⟩ := o
    obtain ⟨h1, h2, h3, h4, h5⟩ := of_decide_eq_true h
    exact ⟨r, by rw [show a = 0 from h1, show b = -1 from h2, show c = -1 from h3, show d = 0 from h4, show e = 0 from h5]⟩
theorem z_g1 {R : Type} {f : Option (Int32 × R)} (h : (match f with | some o => decide (o.1 = -1) | none => false) = true) : ∃ r : R, f = some (-1, r) := by
  cases f with
  | none => exact absurd h (by simp)
  | some o =>
    obtain ⟨a, r⟩ := o
    have h1 := of_decide_eq_true h
    exact ⟨r, by rw [show a = -1 from h1]⟩
theorem z_what (a : Int32) : a < 0 ∨ (3 : Int32) < a ∨ a = 0 ∨ a = 1 ∨ a = 2 ∨ a = 3 := by
  by_cases h : a < 0
  · exact Or.inl h
  by_cases h2 : (3 : Int32) < a
  · exact Or.inr (Or.inl h2)
  rw [Int32.lt_iff_toInt_lt] at h h2
  have e3 : (3 : Int32).toInt = 3 := rfl
  have e0 : (0 : Int32).toInt = 0 := rfl
  have h5 : a.toInt = 0 ∨ a.toInt = 1 ∨ a.toInt = 2 ∨ a.toInt = 3 := by omega
  rcases h5 with h5 | h5 | h5 | h5
  · exact Or.inr (Or.inr (Or.inl (Int32.toInt_inj.mp h5)))
  · exact Or.inr (Or.inr (Or.inr (Or.inl (Int32.toInt_inj.mp h5))))
  · exact Or.inr (Or.inr (Or.inr (Or.inr (Or.inl (Int32.toInt_inj.mp h5)))))
  · exact Or.inr (Or.inr (Or.inr (Or.inr (Or.inr (Int32.toInt_inj.mp h5)))))
theorem z6_told : o6.2.2.2.2.2.2.2.2.2.1 = 0 := by decide +kernel
theorem z6_day : o6.2.1 = 0 := by decide +kernel
