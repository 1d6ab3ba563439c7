theorem ex_of {α β : Type} {f : Option α} {g : Option β} {r : α → Int32} {t : β → Int32} (h : (match f, g with | some o, some o2 => decide (r o = t o2) | _, _ => false) = true) : ∃ o o2, f = some o ∧ g = some o2 ∧ r o = t o2 := by
  cases f with
  | none => exact absurd h (by simp)
  | some o =>
    cases g with
    | none => exact absurd h (by simp)
    | some o2 => exact ⟨o, o2, rfl, rfl, of_decide_eq_true h⟩
theorem exl_of {α γ β : Type} {f : Option (α ⊕ γ)} {g : Option β} {r : α → Int32} {t : β → Int32} (h : (match f, g with | some (.inl o), some o2 => decide (r o = t o2) | _, _ => false) = true) : ∃ o o2, f = some (.inl o) ∧ g = some o2 ∧ r o = t o2 := by
  cases f with
  | none => exact absurd h (by simp)
  | some o =>
    cases o with
    | inr o => cases g <;> exact absurd h (by simp)
    | inl o =>
      cases g with
      | none => exact absurd h (by simp)
      | some o2 => exact ⟨o, o2, rfl, rfl, of_decide_eq_true h⟩
theorem z_in (a c : Int32) (hc : c < 0) : f_X7_in a 0 c = some 0 := by
  unfold f_X7_in
  by_cases h : a < 0
  · rw [if_pos h]
  · rw [if_neg h, if_pos]
    rw [Int32.lt_iff_toInt_lt] at h hc ⊢
    omega
theorem z6_isCell (a : Int32) : f_X6_isCell 0 a = some 0 := by
  unfold f_X6_isCell
  by_cases h : a < 0
  · rw [if_pos h]
  · rw [if_neg h, if_pos (Int32.not_lt.mp h)]
theorem z6_isVillage (a : Int32) : f_X6_isVillage 0 a = some 0 := by
  unfold f_X6_isVillage
  by_cases h : a < 0
  · rw [if_pos h]
  · rw [if_neg h, if_pos (Int32.not_lt.mp h)]
theorem z6_isPass (a : Int32) : f_X6_isPass 0 a = some 0 := by
  unfold f_X6_isPass
  by_cases h : a < 0
  · rw [if_pos h]
  · rw [if_neg h, if_pos (Int32.not_lt.mp h)]
theorem z7_isCell (a : Int32) : f_X7_isCell 0 (fun _ => 0) a = some 0 := by
  show bd (f_X7_in a 0 ((0 : Int32) - 1)) (fun o_2 => ck (isz o_2) (some (o_2))) = some 0
  rw [z_in a _ (by decide)]
  rfl
theorem z7_isVillage (a : Int32) : f_X7_isVillage 0 (fun _ => 0) a = some 0 := by
  show bd (f_X7_in a 0 ((0 : Int32) - 1)) (fun o_2 => ck (isz o_2) (some (o_2))) = some 0
  rw [z_in a _ (by decide)]
  rfl
theorem z7_isPass (a : Int32) : f_X7_isPass 0 (fun _ => 0) a = some 0 := by
  show bd (f_X7_in a 0 ((0 : Int32) - 1)) (fun o_2 => ck (isz o_2) (some (o_2))) = some 0
  rw [z_in a _ (by decide)]
  rfl
theorem z6_isChange (a c : Int32) : f_X6_isChange 0 0 0 a c = some 0 := by
  unfold f_X6_isChange
  rw [z6_isVillage, z6_isPass]
  by_cases h0 : a = 0
  · rw [if_pos h0]; rfl
  rw [if_neg h0]
  by_cases h1 : a = 1
  · rw [if_pos h1]; rfl
  rw [if_neg h1]
  by_cases h2 : a = 2
  · rw [if_pos h2]
    by_cases h : c < 0
    · rw [if_pos h]
    · rw [if_neg h, if_pos (Int32.not_lt.mp h)]
  · rw [if_neg h2]
theorem z7_isChange (a c : Int32) : f_X7_isChange 0 (fun _ => 0) (fun _ => 0) (fun _ => 0) a c = some 0 := by
  unfold f_X7_isChange
  rw [z7_isVillage, z_in c]
  · by_cases h0 : a = 0
    · rw [if_pos h0]; rfl
    rw [if_neg h0]
    by_cases h1 : a = 1
    · rw [if_pos h1]; rfl
    rw [if_neg h1]
    by_cases h2 : a = 2
    · rw [if_pos h2]; rfl
    · rw [if_neg h2]
  · decide
theorem z_in2 (a b c : Int32) : f_X7_in a b c = some 0 ∨ f_X7_in a b c = some 1 := by
  unfold f_X7_in
  by_cases h : a < b
  · exact Or.inl (if_pos h)
  rw [if_neg h]
  by_cases h2 : c < a
  · exact Or.inl (if_pos h2)
  · exact Or.inr (if_neg h2)
theorem exr_of {α γ β : Type} {f : Option (α ⊕ γ)} {g : Option β} {r : γ → Int32} {t : β → Int32} (h : (match f, g with | some (.inr o), some o2 => decide (r o = t o2) | _, _ => false) = true) : ∃ o o2, f = some (.inr o) ∧ g = some o2 ∧ r o = t o2 := by
  cases f with
  | none => exact absurd h (by simp)
  | some o =>
    cases o with
    | inl o => cases g <;> exact absurd h (by simp)
    | inr o =>
      cases g with
      | none => exact absurd h (by simp)
      | some o2 => exact ⟨o, o2, rfl, rfl, of_decide_eq_true h⟩
theorem z6_arePair (a c : Int32) : f_X6_arePair 0 a c = some 0 := by
  unfold f_X6_arePair
  rw [z6_isPass]
  rfl
theorem z7_canPair (a c k : Int32) : f_X7_canPair 0 0 (fun _ => 0) a c k = some 0 := by
  unfold f_X7_canPair
  rw [z7_isPass]
  rfl
theorem z_days (a : Int32) : (f_X6_isAhead a = some 0 ∧ f_X7_areDays a = some 0) ∨ (f_X6_isAhead a = some 1 ∧ f_X7_areDays a = some 1 ∧ ∃ N : Nat, N ≤ 400 ∧ a = nI N) := by
  unfold f_X6_isAhead f_X7_areDays f_X7_in
  by_cases h : a < 1
  · rw [if_pos h, if_pos h]
    exact Or.inl ⟨rfl, rfl⟩
  rw [if_neg h, if_neg h]
  by_cases h2 : (200 : Int32) < a
  · rw [if_pos h2, if_pos h2]
    exact Or.inl ⟨rfl, rfl⟩
  rw [if_neg h2, if_neg h2]
  refine Or.inr ⟨rfl, rfl, ?_⟩
  have h3 : ¬ a < 0 := by
    rw [Int32.lt_iff_toInt_lt] at h ⊢
    have e1 : (1 : Int32).toInt = 1 := rfl
    have e0 : (0 : Int32).toInt = 0 := rfl
    omega
  obtain ⟨N, hN, e⟩ := nI_of2 (n := 200) (M := 200) rfl h3 (Int32.not_lt.mp h2)
  exact ⟨N, by omega, e⟩
theorem z_slot (a : Int32) : (f_X6_isSlot a = some 0 ∧ f_X7_in a 0 2 = some 0) ∨ a = 0 ∨ a = 1 ∨ a = 2 := by
  unfold f_X6_isSlot f_X7_in
  by_cases h : a < 0
  · rw [if_pos h, if_pos h]
    exact Or.inl ⟨rfl, rfl⟩
  rw [if_neg h, if_neg h]
  by_cases h2 : (3 : Int32) ≤ a
  · have h3 : (2 : Int32) < a := by
      rw [Int32.le_iff_toInt_le] at h2
      rw [Int32.lt_iff_toInt_lt]
      have e3 : (3 : Int32).toInt = 3 := rfl
      have e2 : (2 : Int32).toInt = 2 := rfl
      omega
    rw [if_pos h2, if_pos h3]
    exact Or.inl ⟨rfl, rfl⟩
  · rw [Int32.le_iff_toInt_le] at h2
    rw [Int32.lt_iff_toInt_lt] at h
    have e3 : (3 : Int32).toInt = 3 := rfl
    have e0 : (0 : Int32).toInt = 0 := rfl
    have h5 : a.toInt = 0 ∨ a.toInt = 1 ∨ a.toInt = 2 := by omega
    rcases h5 with h5 | h5 | h5
    · exact Or.inr (Or.inl (Int32.toInt_inj.mp h5))
    · exact Or.inr (Or.inr (Or.inl (Int32.toInt_inj.mp h5)))
    · exact Or.inr (Or.inr (Or.inr (Int32.toInt_inj.mp h5)))
theorem z_known (a : Int32) : (f_X6_isKnown 0 a = some 0 ∧ f_X7_in a 0 0 = some 0) ∨ a = 0 := by
  unfold f_X6_isKnown f_X7_in
  by_cases h : a < 0
  · rw [if_pos h, if_pos h]
    exact Or.inl ⟨rfl, rfl⟩
  rw [if_neg h, if_neg h]
  by_cases h2 : (0 : Int32) < a
  · rw [if_pos h2, if_pos h2]
    exact Or.inl ⟨rfl, rfl⟩
  · rw [Int32.lt_iff_toInt_lt] at h h2
    exact Or.inr (Int32.toInt_inj.mp (by have e0 : (0 : Int32).toInt = 0 := rfl; omega))
theorem z6_told : o6.2.2.2.2.2.2.2.2.2.1 = 0 := by decide +kernel
theorem z6_day : o6.2.1 = 0 := by decide +kernel
theorem z_oneDay (v_g_room : (Nat → Int32)) (v_g_passFrom : (Nat → Int32)) (v_g_passTo : (Nat → Int32)) (v_g_riverCell : (Nat → Int32)) (v_g_riverLevel : (Nat → Int32)) (v_g_riverSalt : (Nat → Int32)) (v_g_villageCell : (Nat → Int32)) (v_g_need : (Nat → Int32)) (v_g_lawEnd : (Nat → Int32)) (v_g_code : (Nat → Int32)) (v_p_pumpTakes : Int32) (v_p_pumpFrom : Int32) (v_p_pumpTo : Int32) (v_p_wanting : (Nat → Int32)) (v_p_passWidth : (Nat → Int32)) (v_p_riverWidth : (Nat → Int32)) (v_p_rain : (Nat → Int32)) (v_c_pumped : Int32) (v_c_today : Int32) (v_c_lacked : (Nat → Int32)) (v_c_level : (Nat → Int32)) (v_c_water : (Nat → Int32)) (v_c_salt : (Nat → Int64)) (v_c_stack : (Nat → Int32)) (v_d_day : Int32) (v_d_water : (Nat → Int32)) (v_d_salt : (Nat → Int64)) (v_d_seen : (Nat → Int32)) (v_d_took : (Nat → Int32)) (v_d_dryDays : (Nat → Int32)) (v_d_firstDry : (Nat → Int32)) (v_d_total : (Nat → Int32)) : f_X0_oneDay 0 0 0 0 0 v_g_room v_g_passFrom v_g_passTo v_g_riverCell v_g_riverLevel v_g_riverSalt v_g_villageCell v_g_need v_g_lawEnd v_g_code (-1) v_p_pumpTakes v_p_pumpFrom v_p_pumpTo v_p_wanting v_p_passWidth v_p_riverWidth v_p_rain v_c_pumped v_c_today v_c_lacked v_c_level v_c_water v_c_salt v_c_stack v_d_day v_d_water v_d_salt v_d_seen v_d_took v_d_dryDays v_d_firstDry v_d_total = some (0, 0, v_c_lacked, v_c_level, v_c_water, v_c_salt, v_c_stack, v_d_day + 1, v_d_water, v_d_salt, v_d_seen, v_d_took, v_d_dryDays, v_d_firstDry, v_d_total) := by
  unfold f_X0_oneDay f_X0_morning
  by_cases h : (v_d_day - v_d_day / 7 * 7) = 0
  · rw [if_pos h]; rfl
  · rw [if_neg h]; rfl
theorem z_goesBy (v_m_changedAt : Int32) (v_m_pumpMuch : Int32) (v_m_pumpFrom : Int32) (v_m_pumpTo : Int32) (v_m_room : (Nat → Int32)) (v_m_passOne : (Nat → Int32)) (v_m_passOther : (Nat → Int32)) (v_m_riverCell : (Nat → Int32)) (v_m_riverLevel : (Nat → Int32)) (v_m_riverWide : (Nat → Int32)) (v_m_riverSalt : (Nat → Int32)) (v_m_home : (Nat → Int32)) (v_m_need : (Nat → Int32)) (v_m_lawFrom : (Nat → Int32)) (v_m_lawTo : (Nat → Int32)) (v_m_code : (Nat → Int32)) (v_m_codeInt : (Nat → Int32)) (v_m_wants : (Nat → Int32)) (v_m_isOff : (Nat → Int32)) (v_m_wide : (Nat → Int32)) (v_m_rainNow : (Nat → Int32)) (v_m_isBroken : Int32) (v_m_rowDay : Int32) (v_m_takenAll : Int64) (v_m_riversAll : Int64) (v_m_variables : (Nat → Int32)) (v_m_pile : (Nat → Int32)) (v_m_row : (Nat → Int64)) (v_m_taken : (Nat → Int64)) (v_m_isDry : (Nat → Int32)) (v_m_wouldLack : (Nat → Int32)) (v_m_more : (Nat → Int64)) (v_m_moreSalt : (Nat → Int64)) : ∃ m1 m2, f_X7_goesBy 0 (-1) v_m_changedAt (-1) v_m_pumpMuch v_m_pumpFrom v_m_pumpTo (fun _ => 0) v_m_room (fun _ => 0) v_m_passOne v_m_passOther (fun _ => 0) v_m_riverCell v_m_riverLevel v_m_riverWide v_m_riverSalt (fun _ => 0) (fun _ => 0) v_m_home v_m_need v_m_lawFrom v_m_lawTo v_m_code v_m_codeInt v_m_wants v_m_isOff v_m_wide v_m_rainNow v_m_isBroken v_m_rowDay v_m_takenAll v_m_riversAll v_m_variables v_m_pile v_m_row v_m_taken v_m_isDry v_m_wouldLack v_m_more v_m_moreSalt = some (v_m_isBroken, v_m_rowDay + 1, v_m_takenAll, v_m_riversAll, v_m_variables, v_m_pile, v_m_row, v_m_taken, v_m_isDry, v_m_wouldLack, m1, m2) := by
  unfold f_X7_goesBy f_X7_sees
  by_cases h : (v_m_rowDay - v_m_rowDay / 7 * 7) = 0
  · rw [if_pos h]; exact ⟨_, _, rfl⟩
  · rw [if_neg h]; exact ⟨_, _, rfl⟩
set_option maxRecDepth 100000 in
set_option maxHeartbeats 4000000 in
theorem zl_run6 : ∀ (k q : Nat), k < q → ∀ (v_p_wanting : (Nat → Int32)) (v_p_passWidth : (Nat → Int32)) (v_p_riverWidth : (Nat → Int32)) (v_p_rain : (Nat → Int32)) (v_c_pumped : Int32) (v_c_today : Int32) (v_c_lacked : (Nat → Int32)) (v_c_level : (Nat → Int32)) (v_c_water : (Nat → Int32)) (v_c_salt : (Nat → Int64)) (v_c_stack : (Nat → Int32)) (v_n_water : (Nat → Int32)) (v_n_salt : (Nat → Int64)) (v_n_seen : (Nat → Int32)) (v_n_took : (Nat → Int32)) (v_n_dryDays : (Nat → Int32)) (v_n_firstDry : (Nat → Int32)) (v_n_total : (Nat → Int32)) (j N : Nat), j + k = N → N ≤ 400 → ∃ o, f_X6_run_b26 (0 : Int32) (0 : Int32) (0 : Int32) (0 : Int32) (0 : Int32) (fun _ => 0) (fun _ => 0) (fun _ => 0) (fun _ => 0) (fun _ => 0) (fun _ => 0) (fun _ => 0) (fun _ => 0) (fun _ => 0) (fun _ => 0) (0 : Int32) (0 : Int32) (0 : Int32) q (-1) v_p_wanting v_p_passWidth v_p_riverWidth v_p_rain v_c_pumped v_c_today v_c_lacked v_c_level v_c_water v_c_salt v_c_stack (nI j) v_n_water v_n_salt v_n_seen v_n_took v_n_dryDays v_n_firstDry v_n_total (nI N) (nI j) = some o ∧ o.1 = nI N := by
  intro k
  induction k with
  | zero =>
    intro q hq v_p_wanting v_p_passWidth v_p_riverWidth v_p_rain v_c_pumped v_c_today v_c_lacked v_c_level v_c_water v_c_salt v_c_stack v_n_water v_n_salt v_n_seen v_n_took v_n_dryDays v_n_firstDry v_n_total j N h1 h2
    obtain ⟨q, rfl⟩ : ∃ z, q = z + 1 := ⟨q - 1, by omega⟩
    have e : N = j := by omega
    subst e
    exact ⟨_, if_pos (Int32.le_refl _), rfl⟩
  | succ k ih =>
    intro q hq v_p_wanting v_p_passWidth v_p_riverWidth v_p_rain v_c_pumped v_c_today v_c_lacked v_c_level v_c_water v_c_salt v_c_stack v_n_water v_n_salt v_n_seen v_n_took v_n_dryDays v_n_firstDry v_n_total j N h1 h2
    obtain ⟨q, rfl⟩ : ∃ z, q = z + 1 := ⟨q - 1, by omega⟩
    have hn : ¬ nI N ≤ nI j := fun h => absurd ((nI_leI (by omega) (by omega)).mp h) (by omega)
    obtain ⟨o, ho, hr⟩ := ih q (by omega) v_p_wanting v_p_passWidth v_p_riverWidth v_p_rain 0 0 v_c_lacked v_c_level v_c_water v_c_salt v_c_stack v_n_water v_n_salt v_n_seen v_n_took v_n_dryDays v_n_firstDry v_n_total (j + 1) N (by omega) h2
    rw [nI_succ] at ho
    refine ⟨o, ?_, hr⟩
    show f_X6_run_b26_st (f_X6_run_b26 (0 : Int32) (0 : Int32) (0 : Int32) (0 : Int32) (0 : Int32) (fun _ => 0) (fun _ => 0) (fun _ => 0) (fun _ => 0) (fun _ => 0) (fun _ => 0) (fun _ => 0) (fun _ => 0) (fun _ => 0) (fun _ => 0) (0 : Int32) (0 : Int32) (0 : Int32) q) (0 : Int32) (0 : Int32) (0 : Int32) (0 : Int32) (0 : Int32) (fun _ => 0) (fun _ => 0) (fun _ => 0) (fun _ => 0) (fun _ => 0) (fun _ => 0) (fun _ => 0) (fun _ => 0) (fun _ => 0) (fun _ => 0) (0 : Int32) (0 : Int32) (0 : Int32) (-1) v_p_wanting v_p_passWidth v_p_riverWidth v_p_rain v_c_pumped v_c_today v_c_lacked v_c_level v_c_water v_c_salt v_c_stack (nI j) v_n_water v_n_salt v_n_seen v_n_took v_n_dryDays v_n_firstDry v_n_total (nI N) (nI j) = some o
    unfold f_X6_run_b26_st
    rw [if_neg hn, z_oneDay]
    exact ho
set_option maxRecDepth 100000 in
set_option maxHeartbeats 4000000 in
theorem zl_run7 : ∀ (k q : Nat), k < q → ∀ (v_m_isBroken : Int32) (v_m_day : Int32) (v_m_takenAll : Int64) (v_m_riversAll : Int64) (v_m_variables : (Nat → Int32)) (v_m_pile : (Nat → Int32)) (v_m_now : (Nat → Int64)) (v_m_row : (Nat → Int64)) (v_m_wants : (Nat → Int32)) (v_m_isOff : (Nat → Int32)) (v_m_wide : (Nat → Int32)) (v_m_rainNow : (Nat → Int32)) (v_m_taken : (Nat → Int64)) (v_m_isDry : (Nat → Int32)) (v_m_wouldLack : (Nat → Int32)) (v_m_more : (Nat → Int64)) (v_m_moreSalt : (Nat → Int64)) (j N : Nat), j + k = N → N ≤ 400 → ∃ o, f_X7_run_b19 0 0 0 0 0 (fun _ => 0) (fun _ => 0) (fun _ => 0) (fun _ => 0) (fun _ => 0) (fun _ => 0) (fun _ => 0) (fun _ => 0) (fun _ => 0) (fun _ => 0) (fun _ => 0) (fun _ => 0) (fun _ => 0) (fun _ => 0) (fun _ => 0) (fun _ => 0) (fun _ => 0) (fun _ => 0) q v_m_isBroken v_m_day (nI j) (-1) (-1) v_m_takenAll v_m_riversAll v_m_variables v_m_pile v_m_now v_m_row v_m_wants v_m_isOff v_m_wide v_m_rainNow v_m_taken v_m_isDry v_m_wouldLack v_m_more v_m_moreSalt (nI N) (nI j) = some o ∧ o.1 = nI N := by
  intro k
  induction k with
  | zero =>
    intro q hq v_m_isBroken v_m_day v_m_takenAll v_m_riversAll v_m_variables v_m_pile v_m_now v_m_row v_m_wants v_m_isOff v_m_wide v_m_rainNow v_m_taken v_m_isDry v_m_wouldLack v_m_more v_m_moreSalt j N h1 h2
    obtain ⟨q, rfl⟩ : ∃ z, q = z + 1 := ⟨q - 1, by omega⟩
    have e : N = j := by omega
    subst e
    exact ⟨_, (if_pos (Int32.le_refl _)).trans rfl, rfl⟩
  | succ k ih =>
    intro q hq v_m_isBroken v_m_day v_m_takenAll v_m_riversAll v_m_variables v_m_pile v_m_now v_m_row v_m_wants v_m_isOff v_m_wide v_m_rainNow v_m_taken v_m_isDry v_m_wouldLack v_m_more v_m_moreSalt j N h1 h2
    obtain ⟨q, rfl⟩ : ∃ z, q = z + 1 := ⟨q - 1, by omega⟩
    have hn : ¬ nI N ≤ nI j := fun h => absurd ((nI_leI (by omega) (by omega)).mp h) (by omega)
    obtain ⟨m1, m2, hg⟩ := z_goesBy 0 0 0 0 (fun _ => 0) (fun _ => 0) (fun _ => 0) (fun _ => 0) (fun _ => 0) (fun _ => 0) (fun _ => 0) (fun _ => 0) (fun _ => 0) (fun _ => 0) (fun _ => 0) (fun _ => 0) (fun _ => 0) v_m_wants v_m_isOff v_m_wide v_m_rainNow v_m_isBroken (nI j) v_m_takenAll v_m_riversAll v_m_variables v_m_pile v_m_row v_m_taken v_m_isDry v_m_wouldLack v_m_more v_m_moreSalt
    obtain ⟨o, ho, hr⟩ := ih q (by omega) v_m_isBroken v_m_day v_m_takenAll v_m_riversAll v_m_variables v_m_pile v_m_now v_m_row v_m_wants v_m_isOff v_m_wide v_m_rainNow v_m_taken v_m_isDry v_m_wouldLack m1 m2 (j + 1) N (by omega) h2
    rw [nI_succ] at ho
    refine ⟨o, ?_, hr⟩
    show f_X7_run_b19_st (f_X7_run_b19 0 0 0 0 0 (fun _ => 0) (fun _ => 0) (fun _ => 0) (fun _ => 0) (fun _ => 0) (fun _ => 0) (fun _ => 0) (fun _ => 0) (fun _ => 0) (fun _ => 0) (fun _ => 0) (fun _ => 0) (fun _ => 0) (fun _ => 0) (fun _ => 0) (fun _ => 0) (fun _ => 0) (fun _ => 0) q) 0 0 0 0 0 (fun _ => 0) (fun _ => 0) (fun _ => 0) (fun _ => 0) (fun _ => 0) (fun _ => 0) (fun _ => 0) (fun _ => 0) (fun _ => 0) (fun _ => 0) (fun _ => 0) (fun _ => 0) (fun _ => 0) (fun _ => 0) (fun _ => 0) (fun _ => 0) (fun _ => 0) (fun _ => 0) v_m_isBroken v_m_day (nI j) (-1) (-1) v_m_takenAll v_m_riversAll v_m_variables v_m_pile v_m_now v_m_row v_m_wants v_m_isOff v_m_wide v_m_rainNow v_m_taken v_m_isDry v_m_wouldLack v_m_more v_m_moreSalt (nI N) (nI j) = some o
    unfold f_X7_run_b19_st
    rw [if_neg hn, hg]
    exact ho
set_option maxRecDepth 100000 in
set_option maxHeartbeats 4000000 in
theorem zl_first6 : ∀ (k q : Nat), k < q → ∀ (v_p_wanting : (Nat → Int32)) (v_p_passWidth : (Nat → Int32)) (v_p_riverWidth : (Nat → Int32)) (v_p_rain : (Nat → Int32)) (v_c_pumped : Int32) (v_c_today : Int32) (v_c_lacked : (Nat → Int32)) (v_c_level : (Nat → Int32)) (v_c_water : (Nat → Int32)) (v_c_salt : (Nat → Int64)) (v_c_stack : (Nat → Int32)) (v_d_day : Int32) (v_d_water : (Nat → Int32)) (v_d_salt : (Nat → Int64)) (v_d_seen : (Nat → Int32)) (v_d_took : (Nat → Int32)) (v_d_dryDays : (Nat → Int32)) (v_d_firstDry : (Nat → Int32)) (v_d_total : (Nat → Int32)) (j N : Nat), j + k = N → N ≤ 400 → ∃ o, f_X6_firstOf_b16 (0 : Int32) (0 : Int32) (0 : Int32) (0 : Int32) (0 : Int32) (fun _ => 0) (fun _ => 0) (fun _ => 0) (fun _ => 0) (fun _ => 0) (fun _ => 0) (fun _ => 0) (fun _ => 0) (fun _ => 0) (fun _ => 0) (0 : Int32) (0 : Int32) (0 : Int32) q (-1) v_p_wanting v_p_passWidth v_p_riverWidth v_p_rain v_c_pumped v_c_today v_c_lacked v_c_level v_c_water v_c_salt v_c_stack v_d_day v_d_water v_d_salt v_d_seen v_d_took v_d_dryDays v_d_firstDry v_d_total (nI N) (nI j) = some o ∧ o.1 = -2 := by
  intro k
  induction k with
  | zero =>
    intro q hq v_p_wanting v_p_passWidth v_p_riverWidth v_p_rain v_c_pumped v_c_today v_c_lacked v_c_level v_c_water v_c_salt v_c_stack v_d_day v_d_water v_d_salt v_d_seen v_d_took v_d_dryDays v_d_firstDry v_d_total j N h1 h2
    obtain ⟨q, rfl⟩ : ∃ z, q = z + 1 := ⟨q - 1, by omega⟩
    have e : N = j := by omega
    subst e
    exact ⟨_, if_pos (Int32.le_refl _), rfl⟩
  | succ k ih =>
    intro q hq v_p_wanting v_p_passWidth v_p_riverWidth v_p_rain v_c_pumped v_c_today v_c_lacked v_c_level v_c_water v_c_salt v_c_stack v_d_day v_d_water v_d_salt v_d_seen v_d_took v_d_dryDays v_d_firstDry v_d_total j N h1 h2
    obtain ⟨q, rfl⟩ : ∃ z, q = z + 1 := ⟨q - 1, by omega⟩
    have hn : ¬ nI N ≤ nI j := fun h => absurd ((nI_leI (by omega) (by omega)).mp h) (by omega)
    obtain ⟨o, ho, hr⟩ := ih q (by omega) v_p_wanting v_p_passWidth v_p_riverWidth v_p_rain 0 0 v_c_lacked v_c_level v_c_water v_c_salt v_c_stack v_d_day v_d_water v_d_salt v_d_seen v_d_took v_d_dryDays v_d_firstDry v_d_total (j + 1) N (by omega) h2
    rw [nI_succ] at ho
    refine ⟨o, ?_, hr⟩
    show f_X6_firstOf_b16_st (f_X6_firstOf_b16 (0 : Int32) (0 : Int32) (0 : Int32) (0 : Int32) (0 : Int32) (fun _ => 0) (fun _ => 0) (fun _ => 0) (fun _ => 0) (fun _ => 0) (fun _ => 0) (fun _ => 0) (fun _ => 0) (fun _ => 0) (fun _ => 0) (0 : Int32) (0 : Int32) (0 : Int32) q) (0 : Int32) (0 : Int32) (0 : Int32) (0 : Int32) (0 : Int32) (fun _ => 0) (fun _ => 0) (fun _ => 0) (fun _ => 0) (fun _ => 0) (fun _ => 0) (fun _ => 0) (fun _ => 0) (fun _ => 0) (fun _ => 0) (0 : Int32) (0 : Int32) (0 : Int32) (-1) v_p_wanting v_p_passWidth v_p_riverWidth v_p_rain v_c_pumped v_c_today v_c_lacked v_c_level v_c_water v_c_salt v_c_stack v_d_day v_d_water v_d_salt v_d_seen v_d_took v_d_dryDays v_d_firstDry v_d_total (nI N) (nI j) = some o
    unfold f_X6_firstOf_b16_st
    rw [if_neg hn, z_oneDay]
    exact ho
set_option maxRecDepth 100000 in
set_option maxHeartbeats 4000000 in
theorem zl_first7 : ∀ (k q : Nat), k < q → ∀ (v_m_isBroken : Int32) (v_m_rowDay : Int32) (v_m_takenAll : Int64) (v_m_riversAll : Int64) (v_m_variables : (Nat → Int32)) (v_m_pile : (Nat → Int32)) (v_m_row : (Nat → Int64)) (v_m_wants : (Nat → Int32)) (v_m_isOff : (Nat → Int32)) (v_m_wide : (Nat → Int32)) (v_m_rainNow : (Nat → Int32)) (v_m_taken : (Nat → Int64)) (v_m_isDry : (Nat → Int32)) (v_m_wouldLack : (Nat → Int32)) (v_m_more : (Nat → Int64)) (v_m_moreSalt : (Nat → Int64)) (j N : Nat), j + k = N → N ≤ 400 → ∃ o, f_X7_firstOf_b15 0 0 0 0 0 (fun _ => 0) (fun _ => 0) (fun _ => 0) (fun _ => 0) (fun _ => 0) (fun _ => 0) (fun _ => 0) (fun _ => 0) (fun _ => 0) (fun _ => 0) (fun _ => 0) (fun _ => 0) (fun _ => 0) (fun _ => 0) (fun _ => 0) (fun _ => 0) (fun _ => 0) (fun _ => 0) q v_m_isBroken v_m_rowDay (-1) (-1) v_m_takenAll v_m_riversAll v_m_variables v_m_pile v_m_row v_m_wants v_m_isOff v_m_wide v_m_rainNow v_m_taken v_m_isDry v_m_wouldLack v_m_more v_m_moreSalt (nI N) (nI j) = some o ∧ o.1 = -2 := by
  intro k
  induction k with
  | zero =>
    intro q hq v_m_isBroken v_m_rowDay v_m_takenAll v_m_riversAll v_m_variables v_m_pile v_m_row v_m_wants v_m_isOff v_m_wide v_m_rainNow v_m_taken v_m_isDry v_m_wouldLack v_m_more v_m_moreSalt j N h1 h2
    obtain ⟨q, rfl⟩ : ∃ z, q = z + 1 := ⟨q - 1, by omega⟩
    have e : N = j := by omega
    subst e
    exact ⟨_, if_pos (Int32.le_refl _), rfl⟩
  | succ k ih =>
    intro q hq v_m_isBroken v_m_rowDay v_m_takenAll v_m_riversAll v_m_variables v_m_pile v_m_row v_m_wants v_m_isOff v_m_wide v_m_rainNow v_m_taken v_m_isDry v_m_wouldLack v_m_more v_m_moreSalt j N h1 h2
    obtain ⟨q, rfl⟩ : ∃ z, q = z + 1 := ⟨q - 1, by omega⟩
    have hn : ¬ nI N ≤ nI j := fun h => absurd ((nI_leI (by omega) (by omega)).mp h) (by omega)
    obtain ⟨m1, m2, hg⟩ := z_goesBy 0 0 0 0 (fun _ => 0) (fun _ => 0) (fun _ => 0) (fun _ => 0) (fun _ => 0) (fun _ => 0) (fun _ => 0) (fun _ => 0) (fun _ => 0) (fun _ => 0) (fun _ => 0) (fun _ => 0) (fun _ => 0) v_m_wants v_m_isOff v_m_wide v_m_rainNow v_m_isBroken v_m_rowDay v_m_takenAll v_m_riversAll v_m_variables v_m_pile v_m_row v_m_taken v_m_isDry v_m_wouldLack v_m_more v_m_moreSalt
    obtain ⟨o, ho, hr⟩ := ih q (by omega) v_m_isBroken v_m_rowDay v_m_takenAll v_m_riversAll v_m_variables v_m_pile v_m_row v_m_wants v_m_isOff v_m_wide v_m_rainNow v_m_taken v_m_isDry v_m_wouldLack m1 m2 (j + 1) N (by omega) h2
    rw [nI_succ] at ho
    refine ⟨o, ?_, hr⟩
    show f_X7_firstOf_b15_st (f_X7_firstOf_b15 0 0 0 0 0 (fun _ => 0) (fun _ => 0) (fun _ => 0) (fun _ => 0) (fun _ => 0) (fun _ => 0) (fun _ => 0) (fun _ => 0) (fun _ => 0) (fun _ => 0) (fun _ => 0) (fun _ => 0) (fun _ => 0) (fun _ => 0) (fun _ => 0) (fun _ => 0) (fun _ => 0) (fun _ => 0) q) 0 0 0 0 0 (fun _ => 0) (fun _ => 0) (fun _ => 0) (fun _ => 0) (fun _ => 0) (fun _ => 0) (fun _ => 0) (fun _ => 0) (fun _ => 0) (fun _ => 0) (fun _ => 0) (fun _ => 0) (fun _ => 0) (fun _ => 0) (fun _ => 0) (fun _ => 0) (fun _ => 0) (fun _ => 0) v_m_isBroken v_m_rowDay (-1) (-1) v_m_takenAll v_m_riversAll v_m_variables v_m_pile v_m_row v_m_wants v_m_isOff v_m_wide v_m_rainNow v_m_taken v_m_isDry v_m_wouldLack v_m_more v_m_moreSalt (nI N) (nI j) = some o
    unfold f_X7_firstOf_b15_st
    rw [if_neg hn, hg]
    exact ho
theorem q1_0 (a1 a2 a3 a4 a5 : Int32) : ∃ o o2, f_X6_feed (0 : Int32) (fun _ => 0) a1 a2 a3 a4 a5 = some o ∧ f_X7_feed 0 (fun _ => 0) a1 a2 a3 a4 a5 = some o2 ∧ o.1 = o2.1 := by
  exact ex_of rfl
theorem q1_1 (a1 : Int32) : ∃ o o2, f_X6_back (0 : Int32) a1 = some o ∧ f_X7_back 0 a1 = some o2 ∧ o.1 = o2.1 := by
  unfold f_X6_back f_X7_back
  by_cases h : a1 < 0
  · rw [if_pos h, if_pos h]
    exact ⟨_, _, rfl, rfl, rfl⟩
  rw [if_neg h, if_neg h]
  by_cases h2 : a1 ≤ 0
  · rw [if_pos h2, if_pos h2]
    exact ⟨_, _, rfl, rfl, rfl⟩
  · rw [if_neg h2, if_neg h2]
    exact ⟨_, _, rfl, rfl, rfl⟩
theorem q1_2 : ∃ o o2, f_X6_read (fun _ => 0) (0 : Int32) (-1 : Int32) o6.1 (0 : Int32) (0 : Int32) (-1 : Int32) (0 : Int32) (0 : Int32) (-1 : Int32) (0 : Int32) (-1 : Int32) (fun _ => 0) (fun _ => 0) (fun _ => 0) (fun _ => 0) (fun _ => 0) (0 : Int32) (0 : Int32) (0 : Int32) (0 : Int32) (0 : Int32) (fun _ => 0) (fun _ => 0) (fun _ => 0) (fun _ => 0) (fun _ => 0) (fun _ => 0) (fun _ => 0) (fun _ => 0) (fun _ => 0) (fun _ => 0) (fun _ => 0) (fun _ => 0) (fun _ => 0) (fun _ => 0) (fun _ => 0) (0 : Int32) (0 : Int32) (0 : Int32) (0 : Int32) (0 : Int32) (fun _ => 0) (fun _ => 0) (fun _ => 0) (fun _ => 0) (fun _ => 0) (fun _ => 0) (fun _ => 0) (fun _ => 0) (fun _ => 0) (fun _ => 0) (fun _ => 0) (fun _ => 0) (fun _ => 0) (fun _ => 0) (fun _ => 0) o6.2.1 o6.2.2.1 o6.2.2.2.1 o6.2.2.2.2.1 o6.2.2.2.2.2.1 o6.2.2.2.2.2.2.1 o6.2.2.2.2.2.2.2.1 o6.2.2.2.2.2.2.2.2.1 o6.2.2.2.2.2.2.2.2.2.1 o6.2.2.2.2.2.2.2.2.2.2 = some o ∧ f_X7_read (fun _ => 0) o7 0 0 0 0 0 0 0 0 0 (-1 : Int32) 0 0 0 0 0 0 0 0 0 0 0 0 (fun _ => 0) (fun _ => 0) (fun _ => 0) (fun _ => 0) (fun _ => 0) (fun _ => 0) (fun _ => 0) (fun _ => 0) (fun _ => 0) (fun _ => 0) (fun _ => 0) (fun _ => 0) (fun _ => 0) (fun _ => 0) (fun _ => 0) (fun _ => 0) (fun _ => 0) (fun _ => 0) (fun _ => 0) (fun _ => 0) (fun _ => 0) (fun _ => 0) (fun _ => 0) (fun _ => 0) (fun _ => 0) (fun _ => 0) (fun _ => 0) (fun _ => 0) (fun _ => 0) (fun _ => 0) (fun _ => 0) (fun _ => 0) (fun _ => 0) (fun _ => 0) (fun _ => 0) (fun _ => 0) (fun _ => 0) = some o2 ∧ o.1 = o2.1 := by
  exact ex_of (by decide +kernel)
theorem q1_3 : ∃ o o2, f_X6_place (-1 : Int32) = some o ∧ f_X7_place (-1 : Int32) = some o2 ∧ o = o2 := by
  exact ex_of (by decide +kernel)
theorem q1_4 (a1 a2 : Int32) : ∃ o o2, f_X6_cell (0 : Int32) (fun _ => 0) (fun _ => 0) o6.2.2.1 o6.2.2.2.1 o6.2.2.2.2.1 a1 a2 = some o ∧ f_X7_cell 0 (fun _ => 0) (fun _ => 0) (fun _ => 0) (fun _ => 0) a1 a2 = some o2 ∧ o = o2 := by
  refine ex_of ?_
  unfold f_X6_cell f_X7_cell
  rw [z6_isCell, z7_isCell]
  rfl
theorem q1_5 (a1 a2 : Int32) : ∃ o o2, f_X6_village (0 : Int32) (fun _ => 0) (fun _ => 0) o6.2.2.2.2.2.1 o6.2.2.2.2.2.2.1 o6.2.2.2.2.2.2.2.1 o6.2.2.2.2.2.2.2.2.1 a1 a2 = some o ∧ f_X7_village 0 (fun _ => 0) (fun _ => 0) (fun _ => 0) (fun _ => 0) a1 a2 = some o2 ∧ o = o2 := by
  refine ex_of ?_
  unfold f_X6_village f_X7_village
  rw [z6_isVillage, z7_isVillage]
  rfl
theorem q1_6 (a1 : Int32) : ∃ o o2, f_X6_want (0 : Int32) (0 : Int32) (0 : Int32) (fun _ => 0) (fun _ => 0) (fun _ => 0) (fun _ => 0) (fun _ => 0) (fun _ => 0) o6.2.1 o6.2.2.1 o6.2.2.2.1 o6.2.2.2.2.1 o6.2.2.2.2.2.1 o6.2.2.2.2.2.2.1 o6.2.2.2.2.2.2.2.1 o6.2.2.2.2.2.2.2.2.1 (-1 : Int32) (fun _ => 0) (fun _ => 0) (fun _ => 0) (fun _ => 0) (0 : Int32) (fun _ => 0) (0 : Int32) (fun _ => 0) (fun _ => 0) (fun _ => 0) (fun _ => 0) (fun _ => 0) (fun _ => 0) (fun _ => 0) a1 = some o ∧ f_X7_want 0 0 (fun _ => 0) (fun _ => 0) (fun _ => 0) (fun _ => 0) (fun _ => 0) (fun _ => 0) (fun _ => 0) (fun _ => 0) (fun _ => 0) (fun _ => 0) (fun _ => 0) (fun _ => 0) 0 0 0 0 0 0 (fun _ => 0) (fun _ => 0) (fun _ => 0) (fun _ => 0) (fun _ => 0) (fun _ => 0) (fun _ => 0) a1 = some o2 ∧ o.1 = o2.1 := by
  refine ex_of ?_
  unfold f_X6_want f_X7_want
  rw [z6_isVillage, z7_isVillage]
  rfl
theorem q1_7 (a1 : Int32) : ∃ o o2, f_X6_run (0 : Int32) (0 : Int32) (0 : Int32) (0 : Int32) (0 : Int32) (fun _ => 0) (fun _ => 0) (fun _ => 0) (fun _ => 0) (fun _ => 0) (fun _ => 0) (fun _ => 0) (fun _ => 0) (fun _ => 0) (fun _ => 0) (fun _ => 0) (fun _ => 0) (fun _ => 0) (0 : Int32) (0 : Int32) (0 : Int32) (-1 : Int32) (fun _ => 0) (fun _ => 0) (fun _ => 0) (fun _ => 0) (0 : Int32) (0 : Int32) (fun _ => 0) (fun _ => 0) (fun _ => 0) (fun _ => 0) (fun _ => 0) o6.2.1 o6.2.2.1 o6.2.2.2.1 o6.2.2.2.2.1 o6.2.2.2.2.2.1 o6.2.2.2.2.2.2.1 o6.2.2.2.2.2.2.2.1 o6.2.2.2.2.2.2.2.2.1 a1 = some o ∧ f_X7_run 0 0 0 0 0 (fun _ => 0) (fun _ => 0) (fun _ => 0) (fun _ => 0) (fun _ => 0) (fun _ => 0) (fun _ => 0) (fun _ => 0) (fun _ => 0) (fun _ => 0) (fun _ => 0) (fun _ => 0) (fun _ => 0) (fun _ => 0) (fun _ => 0) (fun _ => 0) (fun _ => 0) (fun _ => 0) (fun _ => 0) (fun _ => 0) 0 0 0 0 0 0 0 (fun _ => 0) (fun _ => 0) (fun _ => 0) (fun _ => 0) (fun _ => 0) (fun _ => 0) (fun _ => 0) (fun _ => 0) (fun _ => 0) (fun _ => 0) (fun _ => 0) (fun _ => 0) (fun _ => 0) a1 = some o2 ∧ o.1 = o2.1 := by
  by_cases h : a1 < 0
  · refine ex_of ?_
    unfold f_X6_run f_X7_run f_X7_in
    rw [if_pos h, if_pos h]; rfl
  by_cases h2 : a1 ≤ 400
  · obtain ⟨N, hN, rfl⟩ := nI_of2 (n := 400) (M := 400) rfl h h2
    have h6 : ∃ o, f_X6_run (0 : Int32) (0 : Int32) (0 : Int32) (0 : Int32) (0 : Int32) (fun _ => 0) (fun _ => 0) (fun _ => 0) (fun _ => 0) (fun _ => 0) (fun _ => 0) (fun _ => 0) (fun _ => 0) (fun _ => 0) (fun _ => 0) (fun _ => 0) (fun _ => 0) (fun _ => 0) (0 : Int32) (0 : Int32) (0 : Int32) (-1 : Int32) (fun _ => 0) (fun _ => 0) (fun _ => 0) (fun _ => 0) (0 : Int32) (0 : Int32) (fun _ => 0) (fun _ => 0) (fun _ => 0) (fun _ => 0) (fun _ => 0) o6.2.1 o6.2.2.1 o6.2.2.2.1 o6.2.2.2.2.1 o6.2.2.2.2.2.1 o6.2.2.2.2.2.2.1 o6.2.2.2.2.2.2.2.1 o6.2.2.2.2.2.2.2.2.1 (nI N) = some o ∧ o.1 = nI N := by
      unfold f_X6_run
      rw [if_neg h, if_pos h2]
      obtain ⟨t1, t2, t3, t4, ht⟩ : ∃ t1 t2 t3 t4, f_X4_setAsTold (fun _ => 0) (fun _ => 0) (fun _ => 0) (-1 : Int32) (fun _ => 0) (fun _ => 0) (fun _ => 0) (fun _ => 0) = some ((-1 : Int32), t1, t2, t3, t4) := ⟨_, _, _, _, rfl⟩
      rw [ht, z6_day]
      dsimp only [bd, un5]
      exact zl_run6 N fuel (Nat.lt_of_le_of_lt hN (by decide)) _ _ _ _ _ _ _ _ _ _ _ _ _ _ _ _ _ _ 0 N (Nat.zero_add N) hN
    have h7 : ∃ o, f_X7_run 0 0 0 0 0 (fun _ => 0) (fun _ => 0) (fun _ => 0) (fun _ => 0) (fun _ => 0) (fun _ => 0) (fun _ => 0) (fun _ => 0) (fun _ => 0) (fun _ => 0) (fun _ => 0) (fun _ => 0) (fun _ => 0) (fun _ => 0) (fun _ => 0) (fun _ => 0) (fun _ => 0) (fun _ => 0) (fun _ => 0) (fun _ => 0) 0 0 0 0 0 0 0 (fun _ => 0) (fun _ => 0) (fun _ => 0) (fun _ => 0) (fun _ => 0) (fun _ => 0) (fun _ => 0) (fun _ => 0) (fun _ => 0) (fun _ => 0) (fun _ => 0) (fun _ => 0) (fun _ => 0) (nI N) = some o ∧ o.1 = nI N := by
      have hi : f_X7_in (nI N) 0 400 = some 1 := by
        unfold f_X7_in
        rw [if_neg h, if_neg (Int32.not_lt.mpr h2)]
      unfold f_X7_run
      rw [hi]
      obtain ⟨t5, t6, t7, t8, t9, ht⟩ : ∃ t5 t6 t7 t8 t9, f_X7_goesFrom 0 0 (fun _ => 0) (fun _ => 0) (fun _ => 0) 0 0 0 0 0 (fun _ => 0) (fun _ => 0) (fun _ => 0) (fun _ => 0) (fun _ => 0) = some ((0 : Int32), (-1 : Int32), (-1 : Int32), (0 : Int64), (0 : Int64), t5, t6, t7, t8, t9) := ⟨_, _, _, _, _, rfl⟩
      dsimp only [bd]
      rw [if_neg (by decide), ht]
      dsimp only [bd, un10]
      exact zl_run7 N fuel (Nat.lt_of_le_of_lt hN (by decide)) _ _ _ _ _ _ _ _ _ _ _ _ _ _ _ _ _ 0 N (Nat.zero_add N) hN
    obtain ⟨o, ho, e1⟩ := h6
    obtain ⟨o2, ho2, e2⟩ := h7
    exact ⟨o, o2, ho, ho2, e1.trans e2.symm⟩
  · refine ex_of ?_
    unfold f_X6_run f_X7_run f_X7_in
    rw [if_neg h, if_neg h2, if_neg h, if_pos (Int32.not_le.mp h2)]; rfl
theorem q1_8 (a1 a2 : Int32) : ∃ o o2, f_X6_flow (0 : Int32) (0 : Int32) (0 : Int32) (0 : Int32) (0 : Int32) (fun _ => 0) (fun _ => 0) (fun _ => 0) (fun _ => 0) (fun _ => 0) (fun _ => 0) (fun _ => 0) (fun _ => 0) (fun _ => 0) (fun _ => 0) (fun _ => 0) (fun _ => 0) o6.2.1 o6.2.2.1 o6.2.2.2.1 o6.2.2.2.2.1 o6.2.2.2.2.2.1 o6.2.2.2.2.2.2.1 o6.2.2.2.2.2.2.2.1 o6.2.2.2.2.2.2.2.2.1 (-1 : Int32) (fun _ => 0) (fun _ => 0) (fun _ => 0) (fun _ => 0) (0 : Int32) (fun _ => 0) (fun _ => 0) (fun _ => 0) (fun _ => 0) (fun _ => 0) (0 : Int32) (fun _ => 0) (fun _ => 0) (fun _ => 0) (fun _ => 0) (fun _ => 0) (fun _ => 0) (fun _ => 0) a1 a2 = some o ∧ f_X7_flow 0 0 0 0 0 0 (fun _ => 0) (fun _ => 0) (fun _ => 0) (fun _ => 0) (fun _ => 0) (fun _ => 0) (fun _ => 0) (fun _ => 0) (fun _ => 0) (fun _ => 0) (fun _ => 0) (fun _ => 0) (fun _ => 0) (fun _ => 0) (fun _ => 0) (fun _ => 0) (fun _ => 0) (fun _ => 0) (fun _ => 0) (fun _ => 0) 0 0 0 0 0 0 (fun _ => 0) (fun _ => 0) (fun _ => 0) (fun _ => 0) (fun _ => 0) (fun _ => 0) (fun _ => 0) (fun _ => 0) (fun _ => 0) (fun _ => 0) a1 a2 = some o2 ∧ o.1 = o2.1 := by
  refine ex_of ?_
  unfold f_X6_flow f_X7_flow
  by_cases h2 : a2 = 0
  · rw [if_pos h2, if_pos h2]
    unfold f_X7_flow_b27
    rw [z_in a1]
    · by_cases h : a1 < 0
      · rw [if_pos h]; rfl
      · rw [if_neg h]
        unfold f_X6_flow_b26
        rw [if_pos (Int32.not_lt.mp h)]; rfl
    · decide
  · rw [if_neg h2, if_neg h2]
    unfold f_X7_flow_b27
    rw [z_in a1]
    · by_cases h : a1 < 0
      · rw [if_pos h]; rfl
      · rw [if_neg h]
        unfold f_X6_flow_b26
        rw [if_pos (Int32.not_lt.mp h)]; rfl
    · decide
theorem q1_9 (a1 a2 : Int32) : ∃ o o2, f_X6_pour (0 : Int32) o6.2.2.1 a1 a2 = some o ∧ f_X7_pour 0 (fun _ => 0) (fun _ => 0) a1 a2 = some o2 ∧ o.1 = o2.1 := by
  refine ex_of ?_
  unfold f_X6_pour f_X7_pour
  rw [z6_isCell, z7_isCell]
  rfl
theorem q1_10 (a1 a2 : Int32) : ∃ o o2, f_X6_dry (0 : Int32) (0 : Int32) (0 : Int32) (0 : Int32) (0 : Int32) (fun _ => 0) (fun _ => 0) (fun _ => 0) (fun _ => 0) (fun _ => 0) (fun _ => 0) (fun _ => 0) (fun _ => 0) (fun _ => 0) (fun _ => 0) (fun _ => 0) (fun _ => 0) (fun _ => 0) (0 : Int32) (0 : Int32) (0 : Int32) o6.2.1 o6.2.2.1 o6.2.2.2.1 o6.2.2.2.2.1 o6.2.2.2.2.2.1 o6.2.2.2.2.2.2.1 o6.2.2.2.2.2.2.2.1 o6.2.2.2.2.2.2.2.2.1 (-1 : Int32) (fun _ => 0) (fun _ => 0) (fun _ => 0) (fun _ => 0) (0 : Int32) (0 : Int32) (fun _ => 0) (fun _ => 0) (fun _ => 0) (fun _ => 0) (fun _ => 0) (0 : Int32) (fun _ => 0) (fun _ => 0) (fun _ => 0) (fun _ => 0) (fun _ => 0) (fun _ => 0) (fun _ => 0) a1 a2 = some o ∧ f_X7_dry 0 0 0 0 0 0 (fun _ => 0) (fun _ => 0) (fun _ => 0) (fun _ => 0) (fun _ => 0) (fun _ => 0) (fun _ => 0) (fun _ => 0) (fun _ => 0) (fun _ => 0) (fun _ => 0) (fun _ => 0) (fun _ => 0) (fun _ => 0) (fun _ => 0) (fun _ => 0) (fun _ => 0) (fun _ => 0) (fun _ => 0) (fun _ => 0) (fun _ => 0) 0 0 0 0 0 0 (fun _ => 0) (fun _ => 0) (fun _ => 0) (fun _ => 0) (fun _ => 0) (fun _ => 0) (fun _ => 0) (fun _ => 0) (fun _ => 0) (fun _ => 0) (fun _ => 0) (fun _ => 0) a1 a2 = some o2 ∧ o.1 = o2.1 := by
  refine ex_of ?_
  unfold f_X6_dry f_X7_dry
  rw [z6_isVillage, z7_isVillage]
  rfl
theorem q1_11 (a1 a2 : Int32) : ∃ o o2, f_X6_dries (0 : Int32) (0 : Int32) (0 : Int32) (0 : Int32) (0 : Int32) (fun _ => 0) (fun _ => 0) (fun _ => 0) (fun _ => 0) (fun _ => 0) (fun _ => 0) (fun _ => 0) (fun _ => 0) (fun _ => 0) (fun _ => 0) (fun _ => 0) (fun _ => 0) (fun _ => 0) (0 : Int32) (0 : Int32) (0 : Int32) o6.2.1 o6.2.2.1 o6.2.2.2.1 o6.2.2.2.2.1 o6.2.2.2.2.2.1 o6.2.2.2.2.2.2.1 o6.2.2.2.2.2.2.2.1 o6.2.2.2.2.2.2.2.2.1 (-1 : Int32) (fun _ => 0) (fun _ => 0) (fun _ => 0) (fun _ => 0) (0 : Int32) (0 : Int32) (fun _ => 0) (fun _ => 0) (fun _ => 0) (fun _ => 0) (fun _ => 0) (0 : Int32) (fun _ => 0) (fun _ => 0) (fun _ => 0) (fun _ => 0) (fun _ => 0) (fun _ => 0) (fun _ => 0) a1 a2 = some o ∧ f_X7_dries 0 0 0 0 0 0 (fun _ => 0) (fun _ => 0) (fun _ => 0) (fun _ => 0) (fun _ => 0) (fun _ => 0) (fun _ => 0) (fun _ => 0) (fun _ => 0) (fun _ => 0) (fun _ => 0) (fun _ => 0) (fun _ => 0) (fun _ => 0) (fun _ => 0) (fun _ => 0) (fun _ => 0) (fun _ => 0) (fun _ => 0) (fun _ => 0) (fun _ => 0) 0 0 0 0 0 0 (fun _ => 0) (fun _ => 0) (fun _ => 0) (fun _ => 0) (fun _ => 0) (fun _ => 0) (fun _ => 0) (fun _ => 0) (fun _ => 0) (fun _ => 0) (fun _ => 0) (fun _ => 0) a1 a2 = some o2 ∧ o.1 = o2.1 := by
  refine ex_of ?_
  unfold f_X6_dries f_X7_dries
  rw [z6_isVillage, z7_isVillage]
  rfl
theorem q1_12 (a1 a2 a3 : Int32) : ∃ o o2, f_X6_salty (0 : Int32) (0 : Int32) (0 : Int32) (0 : Int32) (0 : Int32) (fun _ => 0) (fun _ => 0) (fun _ => 0) (fun _ => 0) (fun _ => 0) (fun _ => 0) (fun _ => 0) (fun _ => 0) (fun _ => 0) (fun _ => 0) (fun _ => 0) (fun _ => 0) (fun _ => 0) (0 : Int32) (0 : Int32) (0 : Int32) o6.2.1 o6.2.2.1 o6.2.2.2.1 o6.2.2.2.2.1 o6.2.2.2.2.2.1 o6.2.2.2.2.2.2.1 o6.2.2.2.2.2.2.2.1 o6.2.2.2.2.2.2.2.2.1 (-1 : Int32) (fun _ => 0) (fun _ => 0) (fun _ => 0) (fun _ => 0) (0 : Int32) (0 : Int32) (fun _ => 0) (fun _ => 0) (fun _ => 0) (fun _ => 0) (fun _ => 0) (0 : Int32) (fun _ => 0) (fun _ => 0) (fun _ => 0) (fun _ => 0) (fun _ => 0) (fun _ => 0) (fun _ => 0) a1 a2 a3 = some o ∧ f_X7_salty 0 0 0 0 0 0 (fun _ => 0) (fun _ => 0) (fun _ => 0) (fun _ => 0) (fun _ => 0) (fun _ => 0) (fun _ => 0) (fun _ => 0) (fun _ => 0) (fun _ => 0) (fun _ => 0) (fun _ => 0) (fun _ => 0) (fun _ => 0) (fun _ => 0) (fun _ => 0) (fun _ => 0) (fun _ => 0) (fun _ => 0) (fun _ => 0) (fun _ => 0) 0 0 0 0 0 0 (fun _ => 0) (fun _ => 0) (fun _ => 0) (fun _ => 0) (fun _ => 0) (fun _ => 0) (fun _ => 0) (fun _ => 0) (fun _ => 0) (fun _ => 0) (fun _ => 0) (fun _ => 0) a1 a2 a3 = some o2 ∧ o.1 = o2.1 := by
  refine ex_of ?_
  unfold f_X6_salty f_X7_salty
  rw [z6_isCell, z7_isCell]
  rfl
theorem q1_13 (a1 a2 a3 a4 : Int32) : ∃ o o2, f_X6_effect (0 : Int32) (0 : Int32) (0 : Int32) (0 : Int32) (0 : Int32) (fun _ => 0) (fun _ => 0) (fun _ => 0) (fun _ => 0) (fun _ => 0) (fun _ => 0) (fun _ => 0) (fun _ => 0) (fun _ => 0) (fun _ => 0) (fun _ => 0) (fun _ => 0) (fun _ => 0) (0 : Int32) (0 : Int32) (0 : Int32) o6.2.1 o6.2.2.1 o6.2.2.2.1 o6.2.2.2.2.1 o6.2.2.2.2.2.1 o6.2.2.2.2.2.2.1 o6.2.2.2.2.2.2.2.1 o6.2.2.2.2.2.2.2.2.1 (-1 : Int32) (fun _ => 0) (fun _ => 0) (fun _ => 0) (fun _ => 0) (0 : Int32) (0 : Int32) (fun _ => 0) (fun _ => 0) (fun _ => 0) (fun _ => 0) (fun _ => 0) (0 : Int32) (fun _ => 0) (fun _ => 0) (fun _ => 0) (fun _ => 0) (fun _ => 0) (fun _ => 0) (fun _ => 0) a1 a2 a3 a4 = some o ∧ f_X7_effect 0 0 0 0 0 (fun _ => 0) (fun _ => 0) (fun _ => 0) (fun _ => 0) (fun _ => 0) (fun _ => 0) (fun _ => 0) (fun _ => 0) (fun _ => 0) (fun _ => 0) (fun _ => 0) (fun _ => 0) (fun _ => 0) (fun _ => 0) (fun _ => 0) (fun _ => 0) (fun _ => 0) (fun _ => 0) (fun _ => 0) (fun _ => 0) (fun _ => 0) 0 0 0 0 0 0 0 (fun _ => 0) (fun _ => 0) (fun _ => 0) (fun _ => 0) (fun _ => 0) (fun _ => 0) (fun _ => 0) (fun _ => 0) (fun _ => 0) (fun _ => 0) (fun _ => 0) (fun _ => 0) a1 a2 a3 a4 = some o2 ∧ o.1 = o2.1 := by
  refine ex_of ?_
  unfold f_X6_effect f_X7_effect
  rw [z6_isChange, z7_isChange]
  rfl
theorem q1_14 (a1 a2 a3 a4 : Int32) : ∃ o o2, f_X6_saved (0 : Int32) (0 : Int32) (0 : Int32) (0 : Int32) (0 : Int32) (fun _ => 0) (fun _ => 0) (fun _ => 0) (fun _ => 0) (fun _ => 0) (fun _ => 0) (fun _ => 0) (fun _ => 0) (fun _ => 0) (fun _ => 0) (fun _ => 0) (fun _ => 0) (fun _ => 0) (0 : Int32) (0 : Int32) (0 : Int32) o6.2.1 o6.2.2.1 o6.2.2.2.1 o6.2.2.2.2.1 o6.2.2.2.2.2.1 o6.2.2.2.2.2.2.1 o6.2.2.2.2.2.2.2.1 o6.2.2.2.2.2.2.2.2.1 (-1 : Int32) (fun _ => 0) (fun _ => 0) (fun _ => 0) (fun _ => 0) (0 : Int32) (0 : Int32) (fun _ => 0) (fun _ => 0) (fun _ => 0) (fun _ => 0) (fun _ => 0) (0 : Int32) (fun _ => 0) (fun _ => 0) (fun _ => 0) (fun _ => 0) (fun _ => 0) (fun _ => 0) (fun _ => 0) a1 a2 a3 a4 = some o ∧ f_X7_saved 0 0 0 0 0 (fun _ => 0) (fun _ => 0) (fun _ => 0) (fun _ => 0) (fun _ => 0) (fun _ => 0) (fun _ => 0) (fun _ => 0) (fun _ => 0) (fun _ => 0) (fun _ => 0) (fun _ => 0) (fun _ => 0) (fun _ => 0) (fun _ => 0) (fun _ => 0) (fun _ => 0) (fun _ => 0) (fun _ => 0) (fun _ => 0) (fun _ => 0) 0 0 0 0 0 0 0 (fun _ => 0) (fun _ => 0) (fun _ => 0) (fun _ => 0) (fun _ => 0) (fun _ => 0) (fun _ => 0) (fun _ => 0) (fun _ => 0) (fun _ => 0) (fun _ => 0) (fun _ => 0) a1 a2 a3 a4 = some o2 ∧ o.1 = o2.1 := by
  refine ex_of ?_
  unfold f_X6_saved f_X7_saved
  rw [z6_isChange, z7_isChange]
  rfl
theorem q1_15 (a1 : Int32) : ∃ o o2, f_X6_fairest (0 : Int32) (0 : Int32) (0 : Int32) (0 : Int32) (0 : Int32) (fun _ => 0) (fun _ => 0) (fun _ => 0) (fun _ => 0) (fun _ => 0) (fun _ => 0) (fun _ => 0) (fun _ => 0) (fun _ => 0) (fun _ => 0) (fun _ => 0) (fun _ => 0) (fun _ => 0) (0 : Int32) (0 : Int32) (0 : Int32) o6.2.1 o6.2.2.1 o6.2.2.2.1 o6.2.2.2.2.1 o6.2.2.2.2.2.1 o6.2.2.2.2.2.2.1 o6.2.2.2.2.2.2.2.1 o6.2.2.2.2.2.2.2.2.1 (-1 : Int32) (fun _ => 0) (fun _ => 0) (fun _ => 0) (fun _ => 0) (0 : Int32) (0 : Int32) (fun _ => 0) (fun _ => 0) (fun _ => 0) (fun _ => 0) (fun _ => 0) (0 : Int32) (fun _ => 0) (fun _ => 0) (fun _ => 0) (fun _ => 0) (fun _ => 0) (fun _ => 0) (fun _ => 0) a1 = some o ∧ f_X7_fairest 0 0 0 0 0 0 (fun _ => 0) (fun _ => 0) (fun _ => 0) (fun _ => 0) (fun _ => 0) (fun _ => 0) (fun _ => 0) (fun _ => 0) (fun _ => 0) (fun _ => 0) (fun _ => 0) (fun _ => 0) (fun _ => 0) (fun _ => 0) (fun _ => 0) (fun _ => 0) (fun _ => 0) (fun _ => 0) (fun _ => 0) (fun _ => 0) (fun _ => 0) 0 0 0 0 0 0 (fun _ => 0) (fun _ => 0) (fun _ => 0) (fun _ => 0) (fun _ => 0) (fun _ => 0) (fun _ => 0) (fun _ => 0) (fun _ => 0) (fun _ => 0) (fun _ => 0) (fun _ => 0) a1 = some o2 ∧ o.1 = o2.1 := by
  refine ex_of ?_
  unfold f_X6_fairest f_X7_fairest
  rcases z_days a1 with ⟨h6, h7⟩ | ⟨h6, h7, _⟩ <;> rw [h6, h7] <;> rfl
theorem q1_16 (a1 a2 : Int32) : ∃ o o2, f_X6_most (0 : Int32) (0 : Int32) (0 : Int32) (0 : Int32) (0 : Int32) (fun _ => 0) (fun _ => 0) (fun _ => 0) (fun _ => 0) (fun _ => 0) (fun _ => 0) (fun _ => 0) (fun _ => 0) (fun _ => 0) (fun _ => 0) (fun _ => 0) (fun _ => 0) (fun _ => 0) (0 : Int32) (0 : Int32) (0 : Int32) o6.2.1 o6.2.2.1 o6.2.2.2.1 o6.2.2.2.2.1 o6.2.2.2.2.2.1 o6.2.2.2.2.2.2.1 o6.2.2.2.2.2.2.2.1 o6.2.2.2.2.2.2.2.2.1 (-1 : Int32) (fun _ => 0) (fun _ => 0) (fun _ => 0) (fun _ => 0) (0 : Int32) (0 : Int32) (fun _ => 0) (fun _ => 0) (fun _ => 0) (fun _ => 0) (fun _ => 0) (0 : Int32) (fun _ => 0) (fun _ => 0) (fun _ => 0) (fun _ => 0) (fun _ => 0) (fun _ => 0) (fun _ => 0) a1 a2 = some o ∧ f_X7_most 0 0 0 0 0 0 (fun _ => 0) (fun _ => 0) (fun _ => 0) (fun _ => 0) (fun _ => 0) (fun _ => 0) (fun _ => 0) (fun _ => 0) (fun _ => 0) (fun _ => 0) (fun _ => 0) (fun _ => 0) (fun _ => 0) (fun _ => 0) (fun _ => 0) (fun _ => 0) (fun _ => 0) (fun _ => 0) (fun _ => 0) (fun _ => 0) (fun _ => 0) 0 0 0 0 0 0 (fun _ => 0) (fun _ => 0) (fun _ => 0) (fun _ => 0) (fun _ => 0) (fun _ => 0) (fun _ => 0) (fun _ => 0) (fun _ => 0) (fun _ => 0) (fun _ => 0) (fun _ => 0) a1 a2 = some o2 ∧ o.1 = o2.1 := by
  refine ex_of ?_
  unfold f_X6_most f_X7_most
  rw [z6_isVillage, z7_isVillage]
  rfl
theorem q1_17 (a1 : Int32) : ∃ o o2, f_X6_firstOf (0 : Int32) (0 : Int32) (0 : Int32) (0 : Int32) (0 : Int32) (fun _ => 0) (fun _ => 0) (fun _ => 0) (fun _ => 0) (fun _ => 0) (fun _ => 0) (fun _ => 0) (fun _ => 0) (fun _ => 0) (fun _ => 0) (fun _ => 0) (fun _ => 0) (fun _ => 0) (0 : Int32) (0 : Int32) (0 : Int32) o6.2.1 o6.2.2.1 o6.2.2.2.1 o6.2.2.2.2.1 o6.2.2.2.2.2.1 o6.2.2.2.2.2.2.1 o6.2.2.2.2.2.2.2.1 o6.2.2.2.2.2.2.2.2.1 (-1 : Int32) (fun _ => 0) (fun _ => 0) (fun _ => 0) (fun _ => 0) (0 : Int32) (0 : Int32) (fun _ => 0) (fun _ => 0) (fun _ => 0) (fun _ => 0) (fun _ => 0) (0 : Int32) (fun _ => 0) (fun _ => 0) (fun _ => 0) (fun _ => 0) (fun _ => 0) (fun _ => 0) (fun _ => 0) a1 = some o ∧ f_X7_firstOf 0 0 0 0 0 0 (fun _ => 0) (fun _ => 0) (fun _ => 0) (fun _ => 0) (fun _ => 0) (fun _ => 0) (fun _ => 0) (fun _ => 0) (fun _ => 0) (fun _ => 0) (fun _ => 0) (fun _ => 0) (fun _ => 0) (fun _ => 0) (fun _ => 0) (fun _ => 0) (fun _ => 0) (fun _ => 0) (fun _ => 0) (fun _ => 0) (fun _ => 0) 0 0 0 0 0 0 (fun _ => 0) (fun _ => 0) (fun _ => 0) (fun _ => 0) (fun _ => 0) (fun _ => 0) (fun _ => 0) (fun _ => 0) (fun _ => 0) (fun _ => 0) (fun _ => 0) (fun _ => 0) a1 = some o2 ∧ o.1 = o2.1 := by
  rcases z_days a1 with ⟨h6, h7⟩ | ⟨h6, h7, N, hN, rfl⟩
  · refine ex_of ?_
    unfold f_X6_firstOf f_X7_firstOf
    rw [h6, h7]; rfl
  have g6 : ∃ o, f_X6_firstOf (0 : Int32) (0 : Int32) (0 : Int32) (0 : Int32) (0 : Int32) (fun _ => 0) (fun _ => 0) (fun _ => 0) (fun _ => 0) (fun _ => 0) (fun _ => 0) (fun _ => 0) (fun _ => 0) (fun _ => 0) (fun _ => 0) (fun _ => 0) (fun _ => 0) (fun _ => 0) (0 : Int32) (0 : Int32) (0 : Int32) o6.2.1 o6.2.2.1 o6.2.2.2.1 o6.2.2.2.2.1 o6.2.2.2.2.2.1 o6.2.2.2.2.2.2.1 o6.2.2.2.2.2.2.2.1 o6.2.2.2.2.2.2.2.2.1 (-1 : Int32) (fun _ => 0) (fun _ => 0) (fun _ => 0) (fun _ => 0) (0 : Int32) (0 : Int32) (fun _ => 0) (fun _ => 0) (fun _ => 0) (fun _ => 0) (fun _ => 0) (0 : Int32) (fun _ => 0) (fun _ => 0) (fun _ => 0) (fun _ => 0) (fun _ => 0) (fun _ => 0) (fun _ => 0) (nI N) = some o ∧ o.1 = -2 := by
    unfold f_X6_firstOf
    rw [h6]
    obtain ⟨t1, t2, t3, t4, t5, t6, t7, t8, t9, t10, t11, t12, ht⟩ : ∃ t1 t2 t3 t4 t5 t6 t7 t8 t9 t10 t11 t12, f_X6_tryAsTold (fun _ => 0) (fun _ => 0) (fun _ => 0) o6.2.1 o6.2.2.1 o6.2.2.2.1 o6.2.2.2.2.1 o6.2.2.2.2.2.1 o6.2.2.2.2.2.2.1 o6.2.2.2.2.2.2.2.1 o6.2.2.2.2.2.2.2.2.1 (-1 : Int32) (fun _ => 0) (fun _ => 0) (fun _ => 0) (fun _ => 0) (0 : Int32) (fun _ => 0) (fun _ => 0) (fun _ => 0) (fun _ => 0) (fun _ => 0) (fun _ => 0) (fun _ => 0) = some ((-1 : Int32), t1, t2, t3, t4, t5, t6, t7, t8, t9, t10, t11, t12) := ⟨_, _, _, _, _, _, _, _, _, _, _, _, rfl⟩
    dsimp only [bd]
    rw [if_neg (by decide), ht]
    dsimp only [bd, un13]
    exact zl_first6 N fuel (Nat.lt_of_le_of_lt hN (by decide)) _ _ _ _ _ _ _ _ _ _ _ _ _ _ _ _ _ _ _ 0 N (Nat.zero_add N) hN
  have g7 : ∃ o, f_X7_firstOf 0 0 0 0 0 0 (fun _ => 0) (fun _ => 0) (fun _ => 0) (fun _ => 0) (fun _ => 0) (fun _ => 0) (fun _ => 0) (fun _ => 0) (fun _ => 0) (fun _ => 0) (fun _ => 0) (fun _ => 0) (fun _ => 0) (fun _ => 0) (fun _ => 0) (fun _ => 0) (fun _ => 0) (fun _ => 0) (fun _ => 0) (fun _ => 0) (fun _ => 0) 0 0 0 0 0 0 (fun _ => 0) (fun _ => 0) (fun _ => 0) (fun _ => 0) (fun _ => 0) (fun _ => 0) (fun _ => 0) (fun _ => 0) (fun _ => 0) (fun _ => 0) (fun _ => 0) (fun _ => 0) (nI N) = some o ∧ o.1 = -2 := by
    unfold f_X7_firstOf
    rw [h7]
    obtain ⟨t5, t6, t7, t8, t9, ht⟩ : ∃ t5 t6 t7 t8 t9, f_X7_goesFrom 0 0 (fun _ => 0) (fun _ => 0) (fun _ => 0) 0 0 0 0 0 (fun _ => 0) (fun _ => 0) (fun _ => 0) (fun _ => 0) (fun _ => 0) = some ((0 : Int32), (-1 : Int32), (-1 : Int32), (0 : Int64), (0 : Int64), t5, t6, t7, t8, t9) := ⟨_, _, _, _, _, rfl⟩
    dsimp only [bd]
    rw [if_neg (by decide), ht]
    dsimp only [bd, un10]
    exact zl_first7 N fuel (Nat.lt_of_le_of_lt hN (by decide)) _ _ _ _ _ _ _ _ _ _ _ _ _ _ _ _ 0 N (Nat.zero_add N) hN
  obtain ⟨o, ho, e1⟩ := g6
  obtain ⟨o2, ho2, e2⟩ := g7
  exact ⟨o, o2, ho, ho2, e1.trans e2.symm⟩
theorem q1_18 (a1 : Int32) : ∃ o o2, f_X6_share (0 : Int32) (0 : Int32) (0 : Int32) (0 : Int32) (0 : Int32) (fun _ => 0) (fun _ => 0) (fun _ => 0) (fun _ => 0) (fun _ => 0) (fun _ => 0) (fun _ => 0) (fun _ => 0) (fun _ => 0) (fun _ => 0) (fun _ => 0) (fun _ => 0) (fun _ => 0) (0 : Int32) (0 : Int32) (0 : Int32) o6.2.1 o6.2.2.1 o6.2.2.2.1 o6.2.2.2.2.1 o6.2.2.2.2.2.1 o6.2.2.2.2.2.2.1 o6.2.2.2.2.2.2.2.1 o6.2.2.2.2.2.2.2.2.1 (-1 : Int32) (fun _ => 0) (fun _ => 0) (fun _ => 0) (fun _ => 0) (0 : Int32) (0 : Int32) (fun _ => 0) (fun _ => 0) (fun _ => 0) (fun _ => 0) (fun _ => 0) (0 : Int32) (fun _ => 0) (fun _ => 0) (fun _ => 0) (fun _ => 0) (fun _ => 0) (fun _ => 0) (fun _ => 0) a1 = some o ∧ f_X7_share 0 0 0 0 0 0 (fun _ => 0) (fun _ => 0) (fun _ => 0) (fun _ => 0) (fun _ => 0) (fun _ => 0) (fun _ => 0) (fun _ => 0) (fun _ => 0) (fun _ => 0) (fun _ => 0) (fun _ => 0) (fun _ => 0) (fun _ => 0) (fun _ => 0) (fun _ => 0) (fun _ => 0) (fun _ => 0) (fun _ => 0) (fun _ => 0) (fun _ => 0) 0 0 0 0 0 0 (fun _ => 0) (fun _ => 0) (fun _ => 0) (fun _ => 0) (fun _ => 0) (fun _ => 0) (fun _ => 0) (fun _ => 0) (fun _ => 0) (fun _ => 0) (fun _ => 0) (fun _ => 0) a1 = some o2 ∧ o.1 = o2.1 := by
  refine ex_of ?_
  unfold f_X6_share f_X7_share
  rcases z_days a1 with ⟨h6, h7⟩ | ⟨h6, h7, _⟩ <;> rw [h6, h7] <;> rfl
theorem q1_19 (a1 a2 : Int32) : ∃ o o2, f_X6_shut (0 : Int32) (0 : Int32) (0 : Int32) (0 : Int32) (0 : Int32) (fun _ => 0) (fun _ => 0) (fun _ => 0) (fun _ => 0) (fun _ => 0) (fun _ => 0) (fun _ => 0) (fun _ => 0) (fun _ => 0) (fun _ => 0) (fun _ => 0) (fun _ => 0) (fun _ => 0) (0 : Int32) (0 : Int32) (0 : Int32) o6.2.1 o6.2.2.1 o6.2.2.2.1 o6.2.2.2.2.1 o6.2.2.2.2.2.1 o6.2.2.2.2.2.2.1 o6.2.2.2.2.2.2.2.1 o6.2.2.2.2.2.2.2.2.1 (-1 : Int32) (fun _ => 0) (fun _ => 0) (fun _ => 0) (fun _ => 0) (0 : Int32) (0 : Int32) (fun _ => 0) (fun _ => 0) (fun _ => 0) (fun _ => 0) (fun _ => 0) (0 : Int32) (fun _ => 0) (fun _ => 0) (fun _ => 0) (fun _ => 0) (fun _ => 0) (fun _ => 0) (fun _ => 0) a1 a2 = some o ∧ f_X7_shut 0 0 0 0 0 0 (fun _ => 0) (fun _ => 0) (fun _ => 0) (fun _ => 0) (fun _ => 0) (fun _ => 0) (fun _ => 0) (fun _ => 0) (fun _ => 0) (fun _ => 0) (fun _ => 0) (fun _ => 0) (fun _ => 0) (fun _ => 0) (fun _ => 0) (fun _ => 0) (fun _ => 0) (fun _ => 0) (fun _ => 0) (fun _ => 0) (fun _ => 0) 0 0 0 0 0 0 (fun _ => 0) (fun _ => 0) (fun _ => 0) (fun _ => 0) (fun _ => 0) (fun _ => 0) (fun _ => 0) (fun _ => 0) (fun _ => 0) (fun _ => 0) (fun _ => 0) (fun _ => 0) a1 a2 = some o2 ∧ o.1 = o2.1 := by
  refine ex_of ?_
  unfold f_X6_shut f_X7_shut
  rw [z6_isVillage, z7_isVillage]
  rfl
theorem q1_20 (a1 a2 : Int32) : ∃ o o2, f_X6_balance (0 : Int32) (0 : Int32) (0 : Int32) (0 : Int32) (0 : Int32) (fun _ => 0) (fun _ => 0) (fun _ => 0) (fun _ => 0) (fun _ => 0) (fun _ => 0) (fun _ => 0) (fun _ => 0) (fun _ => 0) (fun _ => 0) (fun _ => 0) (fun _ => 0) (fun _ => 0) (0 : Int32) (0 : Int32) (0 : Int32) o6.2.1 o6.2.2.1 o6.2.2.2.1 o6.2.2.2.2.1 o6.2.2.2.2.2.1 o6.2.2.2.2.2.2.1 o6.2.2.2.2.2.2.2.1 o6.2.2.2.2.2.2.2.2.1 (-1 : Int32) (fun _ => 0) (fun _ => 0) (fun _ => 0) (fun _ => 0) (0 : Int32) (0 : Int32) (fun _ => 0) (fun _ => 0) (fun _ => 0) (fun _ => 0) (fun _ => 0) (0 : Int32) (fun _ => 0) (fun _ => 0) (fun _ => 0) (fun _ => 0) (fun _ => 0) (fun _ => 0) (fun _ => 0) a1 a2 = some o ∧ f_X7_balance 0 0 0 0 0 0 (fun _ => 0) (fun _ => 0) (fun _ => 0) (fun _ => 0) (fun _ => 0) (fun _ => 0) (fun _ => 0) (fun _ => 0) (fun _ => 0) (fun _ => 0) (fun _ => 0) (fun _ => 0) (fun _ => 0) (fun _ => 0) (fun _ => 0) (fun _ => 0) (fun _ => 0) (fun _ => 0) (fun _ => 0) (fun _ => 0) (fun _ => 0) 0 0 0 0 0 0 (fun _ => 0) (fun _ => 0) (fun _ => 0) (fun _ => 0) (fun _ => 0) (fun _ => 0) (fun _ => 0) (fun _ => 0) (fun _ => 0) (fun _ => 0) (fun _ => 0) (fun _ => 0) a1 a2 = some o2 ∧ o.1 = o2.1 := by
  sorry
theorem q1_21 : ∃ o o2, f_X6_parts (0 : Int32) (0 : Int32) (fun _ => 0) (fun _ => 0) = some o ∧ f_X7_parts 0 (fun _ => 0) (fun _ => 0) (fun _ => 0) (fun _ => 0) (fun _ => 0) = some o2 ∧ o = o2.1 := by
  exact ex_of (by decide +kernel)
theorem q1_22 : ∃ o o2, f_X6_bridges (0 : Int32) (0 : Int32) (fun _ => 0) (fun _ => 0) = some o ∧ f_X7_bridges 0 (fun _ => 0) (fun _ => 0) (fun _ => 0) (fun _ => 0) (fun _ => 0) = some o2 ∧ o = o2.1 := by
  exact ex_of (by decide +kernel)
theorem q1_23 (a1 a2 a3 : Int32) : ∃ o o2, f_X6_worth (0 : Int32) (0 : Int32) (0 : Int32) (0 : Int32) (0 : Int32) (fun _ => 0) (fun _ => 0) (fun _ => 0) (fun _ => 0) (fun _ => 0) (fun _ => 0) (fun _ => 0) (fun _ => 0) (fun _ => 0) (fun _ => 0) (fun _ => 0) (fun _ => 0) (fun _ => 0) (0 : Int32) (0 : Int32) (0 : Int32) o6.2.1 o6.2.2.1 o6.2.2.2.1 o6.2.2.2.2.1 o6.2.2.2.2.2.1 o6.2.2.2.2.2.2.1 o6.2.2.2.2.2.2.2.1 o6.2.2.2.2.2.2.2.2.1 (-1 : Int32) (fun _ => 0) (fun _ => 0) (fun _ => 0) (fun _ => 0) (0 : Int32) (0 : Int32) (fun _ => 0) (fun _ => 0) (fun _ => 0) (fun _ => 0) (fun _ => 0) (0 : Int32) (fun _ => 0) (fun _ => 0) (fun _ => 0) (fun _ => 0) (fun _ => 0) (fun _ => 0) (fun _ => 0) a1 a2 a3 = some o ∧ f_X7_worth 0 0 0 0 0 0 (fun _ => 0) (fun _ => 0) (fun _ => 0) (fun _ => 0) (fun _ => 0) (fun _ => 0) (fun _ => 0) (fun _ => 0) (fun _ => 0) (fun _ => 0) (fun _ => 0) (fun _ => 0) (fun _ => 0) (fun _ => 0) (fun _ => 0) (fun _ => 0) (fun _ => 0) (fun _ => 0) (fun _ => 0) (fun _ => 0) (fun _ => 0) 0 0 0 0 0 0 (fun _ => 0) (fun _ => 0) (fun _ => 0) (fun _ => 0) (fun _ => 0) (fun _ => 0) (fun _ => 0) (fun _ => 0) (fun _ => 0) (fun _ => 0) (fun _ => 0) (fun _ => 0) a1 a2 a3 = some o2 ∧ o.1 = o2.1 := by
  refine ex_of ?_
  unfold f_X6_worth f_X7_worth
  rw [z6_isVillage, z7_isVillage]
  rfl
theorem q1_24 (a1 a2 a3 : Int32) : ∃ o o2, f_X6_blame (0 : Int32) (0 : Int32) (0 : Int32) (0 : Int32) (0 : Int32) (fun _ => 0) (fun _ => 0) (fun _ => 0) (fun _ => 0) (fun _ => 0) (fun _ => 0) (fun _ => 0) (fun _ => 0) (fun _ => 0) (fun _ => 0) (fun _ => 0) (fun _ => 0) (fun _ => 0) (0 : Int32) (0 : Int32) (0 : Int32) o6.2.1 o6.2.2.1 o6.2.2.2.1 o6.2.2.2.2.1 o6.2.2.2.2.2.1 o6.2.2.2.2.2.2.1 o6.2.2.2.2.2.2.2.1 o6.2.2.2.2.2.2.2.2.1 (-1 : Int32) (fun _ => 0) (fun _ => 0) (fun _ => 0) (fun _ => 0) (0 : Int32) (0 : Int32) (fun _ => 0) (fun _ => 0) (fun _ => 0) (fun _ => 0) (fun _ => 0) (0 : Int32) (fun _ => 0) (fun _ => 0) (fun _ => 0) (fun _ => 0) (fun _ => 0) (fun _ => 0) (fun _ => 0) a1 a2 a3 = some o ∧ f_X7_blame 0 0 0 0 0 0 (fun _ => 0) (fun _ => 0) (fun _ => 0) (fun _ => 0) (fun _ => 0) (fun _ => 0) (fun _ => 0) (fun _ => 0) (fun _ => 0) (fun _ => 0) (fun _ => 0) (fun _ => 0) (fun _ => 0) (fun _ => 0) (fun _ => 0) (fun _ => 0) (fun _ => 0) (fun _ => 0) (fun _ => 0) (fun _ => 0) (fun _ => 0) 0 0 0 0 0 0 (fun _ => 0) (fun _ => 0) (fun _ => 0) (fun _ => 0) (fun _ => 0) (fun _ => 0) (fun _ => 0) (fun _ => 0) (fun _ => 0) (fun _ => 0) (fun _ => 0) (fun _ => 0) a1 a2 a3 = some o2 ∧ o.1 = o2.1 := by
  refine ex_of ?_
  unfold f_X6_blame f_X7_blame
  rw [z6_isVillage, z7_isVillage]
  rfl
theorem q1_25 (a1 a2 a3 : Int32) : ∃ o o2, f_X6_tell (0 : Int32) o6.2.2.2.2.2.2.2.2.2.1 (fun _ => 0) (fun _ => 0) (fun _ => 0) a1 a2 a3 = some o ∧ f_X7_tell_ 0 (fun _ => 0) 0 (fun _ => 0) (fun _ => 0) (fun _ => 0) a1 a2 a3 = some o2 ∧ o.1 = o2.1 := by
  refine ex_of ?_
  unfold f_X6_tell f_X7_tell_
  rw [z6_isCell, z7_isCell]
  rcases z_in2 a1 0 199 with h7 | h7
  · rw [h7]
    by_cases h : a1 < 0
    · rw [if_pos h]; rfl
    · rw [if_neg h]
      by_cases h2 : (200 : Int32) ≤ a1
      · rw [if_pos h2]; rfl
      · rw [if_neg h2]; rfl
  · rw [h7]
    by_cases h : a1 < 0
    · rw [if_pos h]; rfl
    · rw [if_neg h]
      by_cases h2 : (200 : Int32) ≤ a1
      · rw [if_pos h2]; rfl
      · rw [if_neg h2]; rfl
theorem q1_26 : ∃ o o2, f_X6_forget o6.2.2.2.2.2.2.2.2.2.1 o6.2.2.2.2.2.2.2.2.2.2 = some o ∧ f_X7_forget 0 = some o2 ∧ o.1 = o2.1 := by
  exact ex_of (by decide +kernel)
theorem q1_27 (a1 : Int32) : ∃ o o2, f_X6_off (0 : Int32) (0 : Int32) (0 : Int32) (0 : Int32) (0 : Int32) (fun _ => 0) (fun _ => 0) (fun _ => 0) (fun _ => 0) (fun _ => 0) (fun _ => 0) (fun _ => 0) (fun _ => 0) (fun _ => 0) (fun _ => 0) (fun _ => 0) (fun _ => 0) (fun _ => 0) (fun _ => 0) o6.2.2.2.2.2.2.2.2.2.1 (fun _ => 0) (fun _ => 0) (fun _ => 0) (0 : Int32) (0 : Int32) (0 : Int32) (-1 : Int32) (fun _ => 0) (fun _ => 0) (fun _ => 0) (fun _ => 0) (0 : Int32) (0 : Int32) (fun _ => 0) (fun _ => 0) (fun _ => 0) (fun _ => 0) (fun _ => 0) (0 : Int32) (fun _ => 0) (fun _ => 0) (fun _ => 0) (fun _ => 0) (fun _ => 0) (fun _ => 0) (fun _ => 0) a1 = some o ∧ f_X7_off 0 0 0 0 0 0 (fun _ => 0) (fun _ => 0) (fun _ => 0) (fun _ => 0) (fun _ => 0) (fun _ => 0) (fun _ => 0) (fun _ => 0) (fun _ => 0) (fun _ => 0) (fun _ => 0) (fun _ => 0) (fun _ => 0) (fun _ => 0) (fun _ => 0) (fun _ => 0) (fun _ => 0) (fun _ => 0) (fun _ => 0) (fun _ => 0) (fun _ => 0) (fun _ => 0) (fun _ => 0) (fun _ => 0) 0 0 0 0 0 0 (fun _ => 0) (fun _ => 0) (fun _ => 0) (fun _ => 0) (fun _ => 0) (fun _ => 0) (fun _ => 0) (fun _ => 0) (fun _ => 0) (fun _ => 0) (fun _ => 0) (fun _ => 0) (fun _ => 0) a1 = some o2 ∧ o.1 = o2.1 := by
  rw [z6_told]
  rcases z_known a1 with ⟨h6, h7⟩ | rfl
  · refine ex_of ?_
    unfold f_X6_off f_X7_off
    rw [h6, h7]
    rfl
  · exact ex_of (by decide +kernel)
theorem q1_28 (a1 a2 : Int32) : ∃ o o2, f_X6_span_N (0 : Int32) (0 : Int32) (0 : Int32) (0 : Int32) (0 : Int32) (fun _ => 0) (fun _ => 0) (fun _ => 0) (fun _ => 0) (fun _ => 0) (fun _ => 0) (fun _ => 0) (fun _ => 0) (fun _ => 0) (fun _ => 0) (fun _ => 0) (fun _ => 0) (fun _ => 0) (fun _ => 0) o6.2.2.2.2.2.2.2.2.2.1 (0 : Int32) (fun _ => 0) (fun _ => 0) (fun _ => 0) (0 : Int32) (0 : Int32) (0 : Int32) (-1 : Int32) (fun _ => 0) (fun _ => 0) (fun _ => 0) (fun _ => 0) (0 : Int32) (0 : Int32) (fun _ => 0) (fun _ => 0) (fun _ => 0) (fun _ => 0) (fun _ => 0) (0 : Int32) (fun _ => 0) (fun _ => 0) (fun _ => 0) (fun _ => 0) (fun _ => 0) (fun _ => 0) (fun _ => 0) a1 a2 = some o ∧ f_X7_span 0 0 0 0 0 0 (fun _ => 0) (fun _ => 0) (fun _ => 0) (fun _ => 0) (fun _ => 0) (fun _ => 0) (fun _ => 0) (fun _ => 0) (fun _ => 0) (fun _ => 0) (fun _ => 0) (fun _ => 0) (fun _ => 0) (fun _ => 0) (fun _ => 0) (fun _ => 0) (fun _ => 0) (fun _ => 0) (fun _ => 0) (fun _ => 0) (fun _ => 0) (fun _ => 0) (fun _ => 0) (fun _ => 0) 0 0 0 0 0 0 (fun _ => 0) (fun _ => 0) (fun _ => 0) (fun _ => 0) (fun _ => 0) (fun _ => 0) (fun _ => 0) (fun _ => 0) (fun _ => 0) (fun _ => 0) (fun _ => 0) (fun _ => 0) (fun _ => 0) a1 a2 = some o2 ∧ o.1 = o2.1 := by
  refine ex_of ?_
  unfold f_X6_span_N f_X7_span
  rw [z6_isPass, z7_isPass]
  rfl
theorem q1_29 (a1 a2 : Int32) : ∃ o o2, f_X6_rainSpan_N (0 : Int32) (0 : Int32) (0 : Int32) (0 : Int32) (0 : Int32) (fun _ => 0) (fun _ => 0) (fun _ => 0) (fun _ => 0) (fun _ => 0) (fun _ => 0) (fun _ => 0) (fun _ => 0) (fun _ => 0) (fun _ => 0) (fun _ => 0) (fun _ => 0) (fun _ => 0) (fun _ => 0) o6.2.2.2.2.2.2.2.2.2.1 (0 : Int32) (fun _ => 0) (fun _ => 0) (fun _ => 0) (0 : Int32) (0 : Int32) (0 : Int32) (-1 : Int32) (fun _ => 0) (fun _ => 0) (fun _ => 0) (fun _ => 0) (0 : Int32) (0 : Int32) (fun _ => 0) (fun _ => 0) (fun _ => 0) (fun _ => 0) (fun _ => 0) (0 : Int32) (fun _ => 0) (fun _ => 0) (fun _ => 0) (fun _ => 0) (fun _ => 0) (fun _ => 0) (fun _ => 0) a1 a2 = some o ∧ f_X7_rainSpan 0 0 0 0 0 0 (fun _ => 0) (fun _ => 0) (fun _ => 0) (fun _ => 0) (fun _ => 0) (fun _ => 0) (fun _ => 0) (fun _ => 0) (fun _ => 0) (fun _ => 0) (fun _ => 0) (fun _ => 0) (fun _ => 0) (fun _ => 0) (fun _ => 0) (fun _ => 0) (fun _ => 0) (fun _ => 0) (fun _ => 0) (fun _ => 0) (fun _ => 0) (fun _ => 0) (fun _ => 0) (fun _ => 0) 0 0 0 0 0 0 (fun _ => 0) (fun _ => 0) (fun _ => 0) (fun _ => 0) (fun _ => 0) (fun _ => 0) (fun _ => 0) (fun _ => 0) (fun _ => 0) (fun _ => 0) (fun _ => 0) (fun _ => 0) (fun _ => 0) a1 a2 = some o2 ∧ o.1 = o2.1 := by
  refine ex_of ?_
  unfold f_X6_rainSpan_N f_X7_rainSpan
  rw [z_in a1]
  · by_cases h : a1 < 0
    · rw [if_pos h]; rfl
    · rw [if_neg h, if_pos (Int32.not_lt.mp h)]; rfl
  · decide
theorem q1_30 (a1 a2 a3 a4 : Int32) : ∃ o o2, f_X6_pairs_N (0 : Int32) (0 : Int32) (0 : Int32) (0 : Int32) (0 : Int32) (fun _ => 0) (fun _ => 0) (fun _ => 0) (fun _ => 0) (fun _ => 0) (fun _ => 0) (fun _ => 0) (fun _ => 0) (fun _ => 0) (fun _ => 0) (fun _ => 0) (fun _ => 0) (fun _ => 0) (fun _ => 0) o6.2.2.2.2.2.2.2.2.2.1 (fun _ => 0) (fun _ => 0) (fun _ => 0) (0 : Int32) (0 : Int32) (0 : Int32) (0 : Int32) (-2 : Int32) (-1 : Int32) (fun _ => 0) (fun _ => 0) (fun _ => 0) (fun _ => 0) (0 : Int32) (0 : Int32) (fun _ => 0) (fun _ => 0) (fun _ => 0) (fun _ => 0) (fun _ => 0) (0 : Int32) (fun _ => 0) (fun _ => 0) (fun _ => 0) (fun _ => 0) (fun _ => 0) (fun _ => 0) (fun _ => 0) a1 a2 a3 a4 = some o ∧ f_X7_pairs 0 0 0 0 0 0 (fun _ => 0) (fun _ => 0) (fun _ => 0) (fun _ => 0) (fun _ => 0) (fun _ => 0) (fun _ => 0) (fun _ => 0) (fun _ => 0) (fun _ => 0) (fun _ => 0) (fun _ => 0) (fun _ => 0) (fun _ => 0) (fun _ => 0) (fun _ => 0) (fun _ => 0) (fun _ => 0) (fun _ => 0) (fun _ => 0) (fun _ => 0) (fun _ => 0) (fun _ => 0) (fun _ => 0) 0 0 0 0 0 0 (fun _ => 0) (fun _ => 0) (fun _ => 0) (fun _ => 0) (fun _ => 0) (fun _ => 0) (fun _ => 0) (fun _ => 0) (fun _ => 0) (fun _ => 0) (fun _ => 0) (fun _ => 0) (fun _ => 0) a1 a2 a3 a4 = some o2 ∧ o.1 = o2.1 := by
  refine ex_of ?_
  unfold f_X6_pairs_N f_X7_pairs
  rw [z6_arePair, z7_canPair]
  rfl
theorem q1_31 (a1 a2 a3 a4 : Int32) : (∃ o o2, f_X6_test_N (0 : Int32) (0 : Int32) (0 : Int32) (0 : Int32) (0 : Int32) (fun _ => 0) (fun _ => 0) (fun _ => 0) (fun _ => 0) (fun _ => 0) (fun _ => 0) (fun _ => 0) (fun _ => 0) (fun _ => 0) (fun _ => 0) (fun _ => 0) (fun _ => 0) (fun _ => 0) (fun _ => 0) o6.2.2.2.2.2.2.2.2.2.1 (fun _ => 0) (fun _ => 0) (fun _ => 0) (0 : Int32) (0 : Int32) (0 : Int32) (0 : Int32) (-2 : Int32) (-1 : Int32) (fun _ => 0) (fun _ => 0) (fun _ => 0) (fun _ => 0) (0 : Int32) (0 : Int32) (fun _ => 0) (fun _ => 0) (fun _ => 0) (fun _ => 0) (fun _ => 0) (0 : Int32) (fun _ => 0) (fun _ => 0) (fun _ => 0) (fun _ => 0) (fun _ => 0) (fun _ => 0) (fun _ => 0) a1 a2 a3 a4 = some (.inl o) ∧ f_X7_test 0 0 0 0 0 0 (fun _ => 0) (fun _ => 0) (fun _ => 0) (fun _ => 0) (fun _ => 0) (fun _ => 0) (fun _ => 0) (fun _ => 0) (fun _ => 0) (fun _ => 0) (fun _ => 0) (fun _ => 0) (fun _ => 0) (fun _ => 0) (fun _ => 0) (fun _ => 0) (fun _ => 0) (fun _ => 0) (fun _ => 0) (fun _ => 0) (fun _ => 0) (fun _ => 0) (fun _ => 0) (fun _ => 0) 0 0 0 0 0 0 (fun _ => 0) (fun _ => 0) (fun _ => 0) (fun _ => 0) (fun _ => 0) (fun _ => 0) (fun _ => 0) (fun _ => 0) (fun _ => 0) (fun _ => 0) (fun _ => 0) (fun _ => 0) (fun _ => 0) (fun _ => 0) a1 a2 a3 a4 = some o2 ∧ o.1 = o2.1) ∨ (∃ o o2, f_X6_test_N (0 : Int32) (0 : Int32) (0 : Int32) (0 : Int32) (0 : Int32) (fun _ => 0) (fun _ => 0) (fun _ => 0) (fun _ => 0) (fun _ => 0) (fun _ => 0) (fun _ => 0) (fun _ => 0) (fun _ => 0) (fun _ => 0) (fun _ => 0) (fun _ => 0) (fun _ => 0) (fun _ => 0) o6.2.2.2.2.2.2.2.2.2.1 (fun _ => 0) (fun _ => 0) (fun _ => 0) (0 : Int32) (0 : Int32) (0 : Int32) (0 : Int32) (-2 : Int32) (-1 : Int32) (fun _ => 0) (fun _ => 0) (fun _ => 0) (fun _ => 0) (0 : Int32) (0 : Int32) (fun _ => 0) (fun _ => 0) (fun _ => 0) (fun _ => 0) (fun _ => 0) (0 : Int32) (fun _ => 0) (fun _ => 0) (fun _ => 0) (fun _ => 0) (fun _ => 0) (fun _ => 0) (fun _ => 0) a1 a2 a3 a4 = some (.inr o) ∧ f_X7_test 0 0 0 0 0 0 (fun _ => 0) (fun _ => 0) (fun _ => 0) (fun _ => 0) (fun _ => 0) (fun _ => 0) (fun _ => 0) (fun _ => 0) (fun _ => 0) (fun _ => 0) (fun _ => 0) (fun _ => 0) (fun _ => 0) (fun _ => 0) (fun _ => 0) (fun _ => 0) (fun _ => 0) (fun _ => 0) (fun _ => 0) (fun _ => 0) (fun _ => 0) (fun _ => 0) (fun _ => 0) (fun _ => 0) 0 0 0 0 0 0 (fun _ => 0) (fun _ => 0) (fun _ => 0) (fun _ => 0) (fun _ => 0) (fun _ => 0) (fun _ => 0) (fun _ => 0) (fun _ => 0) (fun _ => 0) (fun _ => 0) (fun _ => 0) (fun _ => 0) (fun _ => 0) a1 a2 a3 a4 = some o2 ∧ o.1 = o2.1) := by
  refine Or.inl (exl_of ?_)
  unfold f_X6_test_N f_X7_test
  rw [z6_arePair, z7_canPair]
  rfl
theorem q1_33 (a1 : Int32) : ∃ o o2, f_X6_hold o6.2.1 o6.2.2.1 o6.2.2.2.1 o6.2.2.2.2.1 o6.2.2.2.2.2.1 o6.2.2.2.2.2.2.1 o6.2.2.2.2.2.2.2.1 o6.2.2.2.2.2.2.2.2.1 o6.1 (0 : Int32) (fun _ => 0) (fun _ => 0) (fun _ => 0) (fun _ => 0) (fun _ => 0) (fun _ => 0) (fun _ => 0) (0 : Int32) (fun _ => 0) (fun _ => 0) (fun _ => 0) (fun _ => 0) (fun _ => 0) (fun _ => 0) (fun _ => 0) (0 : Int32) (fun _ => 0) (fun _ => 0) (fun _ => 0) (fun _ => 0) (fun _ => 0) (fun _ => 0) (fun _ => 0) a1 = some o ∧ f_X7_hold 0 (fun _ => 0) (fun _ => 0) (fun _ => 0) (fun _ => 0) a1 = some o2 ∧ o.1 = o2.1 := by
  rcases z_slot a1 with ⟨h6, h7⟩ | rfl | rfl | rfl
  · refine ex_of ?_
    unfold f_X6_hold f_X7_hold
    rw [h6, h7]
    rfl
  · exact ex_of (by decide +kernel)
  · exact ex_of (by decide +kernel)
  · exact ex_of (by decide +kernel)
theorem q1_34 (a1 : Int32) : ∃ o o2, f_X6_restore o6.1 (0 : Int32) (fun _ => 0) (fun _ => 0) (fun _ => 0) (fun _ => 0) (fun _ => 0) (fun _ => 0) (fun _ => 0) (0 : Int32) (fun _ => 0) (fun _ => 0) (fun _ => 0) (fun _ => 0) (fun _ => 0) (fun _ => 0) (fun _ => 0) (0 : Int32) (fun _ => 0) (fun _ => 0) (fun _ => 0) (fun _ => 0) (fun _ => 0) (fun _ => 0) (fun _ => 0) o6.2.1 o6.2.2.1 o6.2.2.2.1 o6.2.2.2.2.1 o6.2.2.2.2.2.1 o6.2.2.2.2.2.2.1 o6.2.2.2.2.2.2.2.1 o6.2.2.2.2.2.2.2.2.1 a1 = some o ∧ f_X7_restore (fun _ => 0) (fun _ => 0) (fun _ => 0) 0 (fun _ => 0) a1 = some o2 ∧ o.1 = o2.1 := by
  rcases z_slot a1 with ⟨h6, h7⟩ | rfl | rfl | rfl
  · refine ex_of ?_
    unfold f_X6_restore f_X7_restore
    rw [h6, h7]
    rfl
  · exact ex_of (by decide +kernel)
  · exact ex_of (by decide +kernel)
  · exact ex_of (by decide +kernel)
theorem q1_35 (a1 : Int32) : ∃ o o2, f_X6_count (0 : Int32) o6.1 (0 : Int32) (0 : Int32) (0 : Int32) (0 : Int32) (0 : Int32) o6.2.1 o6.2.2.1 o6.2.2.2.2.2.2.2.2.2.1 a1 = some o ∧ f_X7_count 0 0 0 0 (fun _ => 0) (fun _ => 0) (fun _ => 0) (fun _ => 0) (fun _ => 0) (fun _ => 0) (fun _ => 0) a1 = some o2 ∧ o = o2 := by
  by_cases h0 : a1 = 0
  · rw [h0]
    exact ex_of (by decide +kernel)
  by_cases h1 : a1 = 1
  · rw [h1]
    exact ex_of (by decide +kernel)
  by_cases h2 : a1 = 2
  · rw [h2]
    exact ex_of (by decide +kernel)
  by_cases h3 : a1 = 3
  · rw [h3]
    exact ex_of (by decide +kernel)
  by_cases h4 : a1 = 4
  · rw [h4]
    exact ex_of (by decide +kernel)
  by_cases h5 : a1 = 5
  · rw [h5]
    exact ex_of (by decide +kernel)
  by_cases h6 : a1 = 6
  · rw [h6]
    exact ex_of (by decide +kernel)
  by_cases h7 : a1 = 7
  · rw [h7]
    exact ex_of (by decide +kernel)
  by_cases h8 : a1 = 8
  · rw [h8]
    exact ex_of (by decide +kernel)
  by_cases h9 : a1 = 9
  · rw [h9]
    exact ex_of (by decide +kernel)
  refine ex_of ?_
  unfold f_X6_count f_X7_count
  rw [if_neg h0, if_neg h1, if_neg h2, if_neg h3, if_neg h4, if_neg h5, if_neg h6, if_neg h7, if_neg h8, if_neg h9]
  rw [if_neg h0, if_neg h1, if_neg h2, if_neg h3, if_neg h4, if_neg h5, if_neg h6, if_neg h7, if_neg h8, if_neg h9]
  rfl
