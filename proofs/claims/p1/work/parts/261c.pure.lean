theorem z_oneDay (v_g_room : (Nat → Int32)) (v_g_passFrom : (Nat → Int32)) (v_g_passTo : (Nat → Int32)) (v_g_riverCell : (Nat → Int32)) (v_g_riverLevel : (Nat → Int32)) (v_g_riverSalt : (Nat → Int32)) (v_g_villageCell : (Nat → Int32)) (v_g_need : (Nat → Int32)) (v_g_lawEnd : (Nat → Int32)) (v_g_code : (Nat → Int32)) (v_p_pumpTakes : Int32) (v_p_pumpFrom : Int32) (v_p_pumpTo : Int32) (v_p_wanting : (Nat → Int32)) (v_p_passWidth : (Nat → Int32)) (v_p_riverWidth : (Nat → Int32)) (v_p_rain : (Nat → Int32)) (v_c_pumped : Int32) (v_c_today : Int32) (v_c_lacked : (Nat → Int32)) (v_c_level : (Nat → Int32)) (v_c_water : (Nat → Int32)) (v_c_salt : (Nat → Int64)) (v_c_stack : (Nat → Int32)) (v_d_day : Int32) (v_d_water : (Nat → Int32)) (v_d_salt : (Nat → Int64)) (v_d_seen : (Nat → Int32)) (v_d_took : (Nat → Int32)) (v_d_dryDays : (Nat → Int32)) (v_d_firstDry : (Nat → Int32)) (v_d_total : (Nat → Int32)) : f_X0_oneDay 0 0 0 0 0 v_g_room v_g_passFrom v_g_passTo v_g_riverCell v_g_riverLevel v_g_riverSalt v_g_villageCell v_g_need v_g_lawEnd v_g_code (-1) v_p_pumpTakes v_p_pumpFrom v_p_pumpTo v_p_wanting v_p_passWidth v_p_riverWidth v_p_rain v_c_pumped v_c_today v_c_lacked v_c_level v_c_water v_c_salt v_c_stack v_d_day v_d_water v_d_salt v_d_seen v_d_took v_d_dryDays v_d_firstDry v_d_total = some (0, 0, v_c_lacked, v_c_level, v_c_water, v_c_salt, v_c_stack, v_d_day + 1, v_d_water, v_d_salt, v_d_seen, v_d_took, v_d_dryDays, v_d_firstDry, v_d_total) := by
  unfold f_X0_oneDay f_X0_morning
  by_cases h : (v_d_day - v_d_day / 7 * 7) = 0
  · rw [if_pos h]; rfl
  · rw [if_neg h]; rfl
theorem z_goesBy (v_m_changedAt : Int32) (v_m_pumpMuch : Int32) (v_m_pumpFrom : Int32) (v_m_pumpTo : Int32) (v_m_room : (Nat → Int32)) (v_m_passOne : (Nat → Int32)) (v_m_passOther : (Nat → Int32)) (v_m_riverCell : (Nat → Int32)) (v_m_riverLevel : (Nat → Int32)) (v_m_riverWide : (Nat → Int32)) (v_m_riverSalt : (Nat → Int32)) (v_m_home : (Nat → Int32)) (v_m_need : (Nat → Int32)) (v_m_lawFrom : (Nat → Int32)) (v_m_lawTo : (Nat → Int32)) (v_m_code : (Nat → Int32)) (v_m_codeInt : (Nat → Int32)) (v_m_wants : (Nat → Int32)) (v_m_isOff : (Nat → Int32)) (v_m_wide : (Nat → Int32)) (v_m_rainNow : (Nat → Int32)) (v_m_isBroken : Int32) (v_m_rowDay : Int32) (v_m_takenAll : Int64) (v_m_riversAll : Int64) (v_m_variables : (Nat → Int32)) (v_m_pile : (Nat → Int32)) (v_m_row : (Nat → Int64)) (v_m_taken : (Nat → Int64)) (v_m_isDry : (Nat → Int32)) (v_m_wouldLack : (Nat → Int32)) (v_m_more : (Nat → Int64)) (v_m_moreSalt : (Nat → Int64)) : ∃ m1 m2, f_X7_goesBy 0 (-1) v_m_changedAt (-1) v_m_pumpMuch v_m_pumpFrom v_m_pumpTo (fun _ => 0) v_m_room (fun _ => 0) v_m_passOne v_m_passOther (fun _ => 0) v_m_riverCell v_m_riverLevel v_m_riverWide v_m_riverSalt (fun _ => 0) (fun _ => 0) v_m_home v_m_need v_m_lawFrom v_m_lawTo v_m_code v_m_codeInt v_m_wants v_m_isOff v_m_wide v_m_rainNow v_m_isBroken v_m_rowDay v_m_takenAll v_m_riversAll v_m_variables v_m_pile v_m_row v_m_taken v_m_isDry v_m_wouldLack v_m_more v_m_moreSalt = some (v_m_isBroken, v_m_rowDay + 1, v_m_takenAll, v_m_riversAll, v_m_variables, v_m_pile, v_m_row, v_m_taken, v_m_isDry, v_m_wouldLack, m1, m2) := by
  unfold f_X7_goesBy f_X7_sees
  by_cases h : (v_m_rowDay - v_m_rowDay / 7 * 7) = 0
  · rw [if_pos h]; exact ⟨_, _, rfl⟩
  · rw [if_neg h]; exact ⟨_, _, rfl⟩
set_option maxRecDepth 100000 in
theorem z34 (k16 : Int32 → (Nat → Int32) → (Nat → Int32) → (Nat → Int32) → (Nat → Int32) → Int32 → Int32 → (Nat → Int32) → (Nat → Int32) → (Nat → Int32) → (Nat → Int64) → (Nat → Int32) → Int32 → (Nat → Int32) → (Nat → Int64) → (Nat → Int32) → (Nat → Int32) → (Nat → Int32) → (Nat → Int32) → (Nat → Int32) → Int32 → Int32 → Option (Int32 × Int32 × (Nat → Int32) × (Nat → Int32) × (Nat → Int32) × (Nat → Int32) × Int32 × Int32 × (Nat → Int32) × (Nat → Int32) × (Nat → Int32) × (Nat → Int64) × (Nat → Int32) × Int32 × (Nat → Int32) × (Nat → Int64) × (Nat → Int32) × (Nat → Int32) × (Nat → Int32) × (Nat → Int32) × (Nat → Int32))) (v_p_pumpCell : Int32) (v_p_wanting : (Nat → Int32)) (v_p_passWidth : (Nat → Int32)) (v_p_riverWidth : (Nat → Int32)) (v_p_rain : (Nat → Int32)) (v_c_pumped : Int32) (v_c_today : Int32) (v_c_lacked : (Nat → Int32)) (v_c_level : (Nat → Int32)) (v_c_water : (Nat → Int32)) (v_c_salt : (Nat → Int64)) (v_c_stack : (Nat → Int32)) (v_d_day : Int32) (v_d_water : (Nat → Int32)) (v_d_salt : (Nat → Int64)) (v_d_seen : (Nat → Int32)) (v_d_took : (Nat → Int32)) (v_d_dryDays : (Nat → Int32)) (v_d_firstDry : (Nat → Int32)) (v_d_total : (Nat → Int32)) (x1 : Int32) (x2 : Int32) : f_X6_firstOf_b34 k16 (0 : Int32) (0 : Int32) (0 : Int32) (0 : Int32) (0 : Int32) (fun _ => 0) (fun _ => 0) (fun _ => 0) (fun _ => 0) (fun _ => 0) (fun _ => 0) (fun _ => 0) (fun _ => 0) (fun _ => 0) (fun _ => 0) (0 : Int32) (0 : Int32) (0 : Int32) fuel v_p_pumpCell v_p_wanting v_p_passWidth v_p_riverWidth v_p_rain v_c_pumped v_c_today v_c_lacked v_c_level v_c_water v_c_salt v_c_stack v_d_day v_d_water v_d_salt v_d_seen v_d_took v_d_dryDays v_d_firstDry v_d_total x1 x2 0 = k16 v_p_pumpCell v_p_wanting v_p_passWidth v_p_riverWidth v_p_rain v_c_pumped v_c_today v_c_lacked v_c_level v_c_water v_c_salt v_c_stack v_d_day v_d_water v_d_salt v_d_seen v_d_took v_d_dryDays v_d_firstDry v_d_total x1 (x2 + 1) := rfl
set_option maxRecDepth 100000 in
theorem z26 (k15 : Int32 → Int32 → Int32 → Int32 → Int64 → Int64 → (Nat → Int32) → (Nat → Int32) → (Nat → Int64) → (Nat → Int32) → (Nat → Int32) → (Nat → Int32) → (Nat → Int32) → (Nat → Int64) → (Nat → Int32) → (Nat → Int32) → (Nat → Int64) → (Nat → Int64) → Int32 → Int32 → Option (Int32 × Int32 × Int32 × Int32 × Int32 × Int64 × Int64 × (Nat → Int32) × (Nat → Int32) × (Nat → Int64) × (Nat → Int32) × (Nat → Int32) × (Nat → Int32) × (Nat → Int32) × (Nat → Int64) × (Nat → Int32) × (Nat → Int32) × (Nat → Int64) × (Nat → Int64))) (v_m_isBroken : Int32) (v_m_rowDay : Int32) (v_m_changed : Int32) (v_m_pumpCell : Int32) (v_m_takenAll : Int64) (v_m_riversAll : Int64) (v_m_variables : (Nat → Int32)) (v_m_pile : (Nat → Int32)) (v_m_row : (Nat → Int64)) (v_m_wants : (Nat → Int32)) (v_m_isOff : (Nat → Int32)) (v_m_wide : (Nat → Int32)) (v_m_rainNow : (Nat → Int32)) (v_m_taken : (Nat → Int64)) (v_m_isDry : (Nat → Int32)) (v_m_wouldLack : (Nat → Int32)) (v_m_more : (Nat → Int64)) (v_m_moreSalt : (Nat → Int64)) (x1 : Int32) (x2 : Int32) : f_X7_firstOf_b26 k15 0 0 0 0 0 (fun _ => 0) (fun _ => 0) (fun _ => 0) (fun _ => 0) (fun _ => 0) (fun _ => 0) (fun _ => 0) (fun _ => 0) (fun _ => 0) (fun _ => 0) (fun _ => 0) (fun _ => 0) (fun _ => 0) (fun _ => 0) (fun _ => 0) (fun _ => 0) (fun _ => 0) (fun _ => 0) fuel v_m_isBroken v_m_rowDay v_m_changed v_m_pumpCell v_m_takenAll v_m_riversAll v_m_variables v_m_pile v_m_row v_m_wants v_m_isOff v_m_wide v_m_rainNow v_m_taken v_m_isDry v_m_wouldLack v_m_more v_m_moreSalt x1 x2 0 = k15 v_m_isBroken v_m_rowDay v_m_changed v_m_pumpCell v_m_takenAll v_m_riversAll v_m_variables v_m_pile v_m_row v_m_wants v_m_isOff v_m_wide v_m_rainNow v_m_taken v_m_isDry v_m_wouldLack v_m_more v_m_moreSalt x1 (x2 + 1) := rfl
set_option maxRecDepth 100000 in
theorem z77 (k32 : Int32 → (Nat → Int32) → (Nat → Int32) → (Nat → Int32) → (Nat → Int32) → Int32 → Int32 → (Nat → Int32) → (Nat → Int32) → (Nat → Int32) → (Nat → Int64) → (Nat → Int32) → Int32 → (Nat → Int32) → (Nat → Int64) → (Nat → Int32) → (Nat → Int32) → (Nat → Int32) → (Nat → Int32) → (Nat → Int32) → Int32 → Int32 → Int32 → Int32 → Int32 → Option (Int32 × Int32 × (Nat → Int32) × (Nat → Int32) × (Nat → Int32) × (Nat → Int32) × Int32 × Int32 × (Nat → Int32) × (Nat → Int32) × (Nat → Int32) × (Nat → Int64) × (Nat → Int32) × Int32 × (Nat → Int32) × (Nat → Int64) × (Nat → Int32) × (Nat → Int32) × (Nat → Int32) × (Nat → Int32) × (Nat → Int32))) (v_p_pumpCell : Int32) (v_p_wanting : (Nat → Int32)) (v_p_passWidth : (Nat → Int32)) (v_p_riverWidth : (Nat → Int32)) (v_p_rain : (Nat → Int32)) (v_c_pumped : Int32) (v_c_today : Int32) (v_c_lacked : (Nat → Int32)) (v_c_level : (Nat → Int32)) (v_c_water : (Nat → Int32)) (v_c_salt : (Nat → Int64)) (v_c_stack : (Nat → Int32)) (v_d_day : Int32) (v_d_water : (Nat → Int32)) (v_d_salt : (Nat → Int64)) (v_d_seen : (Nat → Int32)) (v_d_took : (Nat → Int32)) (v_d_dryDays : (Nat → Int32)) (v_d_firstDry : (Nat → Int32)) (v_d_total : (Nat → Int32)) (x1 : Int32) (x2 : Int32) (x3 : Int32) (x4 : Int32) (x5 : Int32) : f_X6_balance_b77 k32 (0 : Int32) (0 : Int32) (0 : Int32) (0 : Int32) (0 : Int32) (fun _ => 0) (fun _ => 0) (fun _ => 0) (fun _ => 0) (fun _ => 0) (fun _ => 0) (fun _ => 0) (fun _ => 0) (fun _ => 0) (fun _ => 0) (0 : Int32) (0 : Int32) (0 : Int32) o6.2.2.1 fuel v_p_pumpCell v_p_wanting v_p_passWidth v_p_riverWidth v_p_rain v_c_pumped v_c_today v_c_lacked v_c_level v_c_water v_c_salt v_c_stack v_d_day v_d_water v_d_salt v_d_seen v_d_took v_d_dryDays v_d_firstDry v_d_total x1 x2 x3 x4 x5 0 = k32 v_p_pumpCell v_p_wanting v_p_passWidth v_p_riverWidth v_p_rain v_c_pumped v_c_today v_c_lacked v_c_level v_c_water v_c_salt v_c_stack v_d_day v_d_water v_d_salt v_d_seen v_d_took v_d_dryDays v_d_firstDry v_d_total x1 x2 x3 x4 (x5 + 1) := rfl
set_option maxRecDepth 100000 in
set_option maxHeartbeats 4000000 in
theorem zl_run6 : ∀ (k q : Nat), k < q → ∀ (v_p_wanting : (Nat → Int32)) (v_p_passWidth : (Nat → Int32)) (v_p_riverWidth : (Nat → Int32)) (v_p_rain : (Nat → Int32)) (v_c_pumped : Int32) (v_c_today : Int32) (v_c_lacked : (Nat → Int32)) (v_c_level : (Nat → Int32)) (v_c_water : (Nat → Int32)) (v_c_salt : (Nat → Int64)) (v_c_stack : (Nat → Int32)) (v_n_water : (Nat → Int32)) (v_n_salt : (Nat → Int64)) (v_n_seen : (Nat → Int32)) (v_n_took : (Nat → Int32)) (v_n_dryDays : (Nat → Int32)) (v_n_firstDry : (Nat → Int32)) (v_n_total : (Nat → Int32)) (j N : Nat), j + k = N → N ≤ 400 → ∃ o, f_X6_run_b26 (0 : Int32) (0 : Int32) (0 : Int32) (0 : Int32) (0 : Int32) (fun _ => 0) (fun _ => 0) (fun _ => 0) (fun _ => 0) (fun _ => 0) (fun _ => 0) (fun _ => 0) (fun _ => 0) (fun _ => 0) (fun _ => 0) (0 : Int32) (0 : Int32) (0 : Int32) q (-1) v_p_wanting v_p_passWidth v_p_riverWidth v_p_rain v_c_pumped v_c_today v_c_lacked v_c_level v_c_water v_c_salt v_c_stack (nI j) v_n_water v_n_salt v_n_seen v_n_took v_n_dryDays v_n_firstDry v_n_total (nI N) (nI j) = some o ∧ o.1 = nI N := by
  intro k
  induction k with
  | zero =>
    intro q hq v_p_wanting v_p_passWidth v_p_riverWidth v_p_rain v_c_pumped v_c_today v_c_lacked v_c_level v_c_water v_c_salt v_c_stack v_n_water v_n_salt v_n_seen v_n_took v_n_dryDays v_n_firstDry v_n_total j N h1 h2
    obtain ⟨q, rfl⟩ : ∃ z, q = z + 1 := ⟨q - 1, by omega⟩
    have e : N = j := by omega
    subst e
    exact ⟨_, if_pos (Int32.le_refl _), rfl⟩
  | succ k ih =>
    intro q hq v_p_wanting v_p_passWidth v_p_riverWidth v_p_rain v_c_pumped v_c_today v_c_lacked v_c_level v_c_water v_c_salt v_c_stack v_n_water v_n_salt v_n_seen v_n_took v_n_dryDays v_n_firstDry v_n_total j N h1 h2
    obtain ⟨q, rfl⟩ : ∃ z, q = z + 1 := ⟨q - 1, by omega⟩
    have hn : ¬ nI N ≤ nI j := fun h => absurd ((nI_leI (by omega) (by omega)).mp h) (by omega)
    obtain ⟨o, ho, hr⟩ := ih q (by omega) v_p_wanting v_p_passWidth v_p_riverWidth v_p_rain 0 0 v_c_lacked v_c_level v_c_water v_c_salt v_c_stack v_n_water v_n_salt v_n_seen v_n_took v_n_dryDays v_n_firstDry v_n_total (j + 1) N (by omega) h2
    rw [nI_succ] at ho
    refine ⟨o, ?_, hr⟩
    show f_X6_run_b26_st (f_X6_run_b26 (0 : Int32) (0 : Int32) (0 : Int32) (0 : Int32) (0 : Int32) (fun _ => 0) (fun _ => 0) (fun _ => 0) (fun _ => 0) (fun _ => 0) (fun _ => 0) (fun _ => 0) (fun _ => 0) (fun _ => 0) (fun _ => 0) (0 : Int32) (0 : Int32) (0 : Int32) q) (0 : Int32) (0 : Int32) (0 : Int32) (0 : Int32) (0 : Int32) (fun _ => 0) (fun _ => 0) (fun _ => 0) (fun _ => 0) (fun _ => 0) (fun _ => 0) (fun _ => 0) (fun _ => 0) (fun _ => 0) (fun _ => 0) (0 : Int32) (0 : Int32) (0 : Int32) (-1) v_p_wanting v_p_passWidth v_p_riverWidth v_p_rain v_c_pumped v_c_today v_c_lacked v_c_level v_c_water v_c_salt v_c_stack (nI j) v_n_water v_n_salt v_n_seen v_n_took v_n_dryDays v_n_firstDry v_n_total (nI N) (nI j) = some o
    unfold f_X6_run_b26_st
    rw [if_neg hn, z_oneDay]
    exact ho
set_option maxRecDepth 100000 in
set_option maxHeartbeats 4000000 in
theorem zl_run7 : ∀ (k q : Nat), k < q → ∀ (v_m_isBroken : Int32) (v_m_day : Int32) (v_m_takenAll : Int64) (v_m_riversAll : Int64) (v_m_variables : (Nat → Int32)) (v_m_pile : (Nat → Int32)) (v_m_now : (Nat → Int64)) (v_m_row : (Nat → Int64)) (v_m_wants : (Nat → Int32)) (v_m_isOff : (Nat → Int32)) (v_m_wide : (Nat → Int32)) (v_m_rainNow : (Nat → Int32)) (v_m_taken : (Nat → Int64)) (v_m_isDry : (Nat → Int32)) (v_m_wouldLack : (Nat → Int32)) (v_m_more : (Nat → Int64)) (v_m_moreSalt : (Nat → Int64)) (j N : Nat), j + k = N → N ≤ 400 → ∃ o, f_X7_run_b19 0 0 0 0 0 (fun _ => 0) (fun _ => 0) (fun _ => 0) (fun _ => 0) (fun _ => 0) (fun _ => 0) (fun _ => 0) (fun _ => 0) (fun _ => 0) (fun _ => 0) (fun _ => 0) (fun _ => 0) (fun _ => 0) (fun _ => 0) (fun _ => 0) (fun _ => 0) (fun _ => 0) (fun _ => 0) q v_m_isBroken v_m_day (nI j) (-1) (-1) v_m_takenAll v_m_riversAll v_m_variables v_m_pile v_m_now v_m_row v_m_wants v_m_isOff v_m_wide v_m_rainNow v_m_taken v_m_isDry v_m_wouldLack v_m_more v_m_moreSalt (nI N) (nI j) = some o ∧ o.1 = nI N := by
  intro k
  induction k with
  | zero =>
    intro q hq v_m_isBroken v_m_day v_m_takenAll v_m_riversAll v_m_variables v_m_pile v_m_now v_m_row v_m_wants v_m_isOff v_m_wide v_m_rainNow v_m_taken v_m_isDry v_m_wouldLack v_m_more v_m_moreSalt j N h1 h2
    obtain ⟨q, rfl⟩ : ∃ z, q = z + 1 := ⟨q - 1, by omega⟩
    have e : N = j := by omega
    subst e
    exact ⟨_, (if_pos (Int32.le_refl _)).trans rfl, rfl⟩
  | succ k ih =>
    intro q hq v_m_isBroken v_m_day v_m_takenAll v_m_riversAll v_m_variables v_m_pile v_m_now v_m_row v_m_wants v_m_isOff v_m_wide v_m_rainNow v_m_taken v_m_isDry v_m_wouldLack v_m_more v_m_moreSalt j N h1 h2
    obtain ⟨q, rfl⟩ : ∃ z, q = z + 1 := ⟨q - 1, by omega⟩
    have hn : ¬ nI N ≤ nI j := fun h => absurd ((nI_leI (by omega) (by omega)).mp h) (by omega)
    obtain ⟨m1, m2, hg⟩ := z_goesBy 0 0 0 0 (fun _ => 0) (fun _ => 0) (fun _ => 0) (fun _ => 0) (fun _ => 0) (fun _ => 0) (fun _ => 0) (fun _ => 0) (fun _ => 0) (fun _ => 0) (fun _ => 0) (fun _ => 0) (fun _ => 0) v_m_wants v_m_isOff v_m_wide v_m_rainNow v_m_isBroken (nI j) v_m_takenAll v_m_riversAll v_m_variables v_m_pile v_m_row v_m_taken v_m_isDry v_m_wouldLack v_m_more v_m_moreSalt
    obtain ⟨o, ho, hr⟩ := ih q (by omega) v_m_isBroken v_m_day v_m_takenAll v_m_riversAll v_m_variables v_m_pile v_m_now v_m_row v_m_wants v_m_isOff v_m_wide v_m_rainNow v_m_taken v_m_isDry v_m_wouldLack m1 m2 (j + 1) N (by omega) h2
    rw [nI_succ] at ho
    refine ⟨o, ?_, hr⟩
    show f_X7_run_b19_st (f_X7_run_b19 0 0 0 0 0 (fun _ => 0) (fun _ => 0) (fun _ => 0) (fun _ => 0) (fun _ => 0) (fun _ => 0) (fun _ => 0) (fun _ => 0) (fun _ => 0) (fun _ => 0) (fun _ => 0) (fun _ => 0) (fun _ => 0) (fun _ => 0) (fun _ => 0) (fun _ => 0) (fun _ => 0) (fun _ => 0) q) 0 0 0 0 0 (fun _ => 0) (fun _ => 0) (fun _ => 0) (fun _ => 0) (fun _ => 0) (fun _ => 0) (fun _ => 0) (fun _ => 0) (fun _ => 0) (fun _ => 0) (fun _ => 0) (fun _ => 0) (fun _ => 0) (fun _ => 0) (fun _ => 0) (fun _ => 0) (fun _ => 0) (fun _ => 0) v_m_isBroken v_m_day (nI j) (-1) (-1) v_m_takenAll v_m_riversAll v_m_variables v_m_pile v_m_now v_m_row v_m_wants v_m_isOff v_m_wide v_m_rainNow v_m_taken v_m_isDry v_m_wouldLack v_m_more v_m_moreSalt (nI N) (nI j) = some o
    unfold f_X7_run_b19_st
    rw [if_neg hn, hg]
    exact ho
set_option maxRecDepth 100000 in
set_option maxHeartbeats 4000000 in
theorem zl_first6 : ∀ (k q : Nat), k < q → ∀ (v_p_wanting : (Nat → Int32)) (v_p_passWidth : (Nat → Int32)) (v_p_riverWidth : (Nat → Int32)) (v_p_rain : (Nat → Int32)) (v_c_pumped : Int32) (v_c_today : Int32) (v_c_lacked : (Nat → Int32)) (v_c_level : (Nat → Int32)) (v_c_water : (Nat → Int32)) (v_c_salt : (Nat → Int64)) (v_c_stack : (Nat → Int32)) (v_d_day : Int32) (v_d_water : (Nat → Int32)) (v_d_salt : (Nat → Int64)) (v_d_seen : (Nat → Int32)) (v_d_took : (Nat → Int32)) (v_d_dryDays : (Nat → Int32)) (v_d_firstDry : (Nat → Int32)) (v_d_total : (Nat → Int32)) (j N : Nat), j + k = N → N ≤ 400 → ∃ o, f_X6_firstOf_b16 (0 : Int32) (0 : Int32) (0 : Int32) (0 : Int32) (0 : Int32) (fun _ => 0) (fun _ => 0) (fun _ => 0) (fun _ => 0) (fun _ => 0) (fun _ => 0) (fun _ => 0) (fun _ => 0) (fun _ => 0) (fun _ => 0) (0 : Int32) (0 : Int32) (0 : Int32) q (-1) v_p_wanting v_p_passWidth v_p_riverWidth v_p_rain v_c_pumped v_c_today v_c_lacked v_c_level v_c_water v_c_salt v_c_stack v_d_day v_d_water v_d_salt v_d_seen v_d_took v_d_dryDays v_d_firstDry v_d_total (nI N) (nI j) = some o ∧ o.1 = -2 := by
  intro k
  induction k with
  | zero =>
    intro q hq v_p_wanting v_p_passWidth v_p_riverWidth v_p_rain v_c_pumped v_c_today v_c_lacked v_c_level v_c_water v_c_salt v_c_stack v_d_day v_d_water v_d_salt v_d_seen v_d_took v_d_dryDays v_d_firstDry v_d_total j N h1 h2
    obtain ⟨q, rfl⟩ : ∃ z, q = z + 1 := ⟨q - 1, by omega⟩
    have e : N = j := by omega
    subst e
    exact ⟨_, if_pos (Int32.le_refl _), rfl⟩
  | succ k ih =>
    intro q hq v_p_wanting v_p_passWidth v_p_riverWidth v_p_rain v_c_pumped v_c_today v_c_lacked v_c_level v_c_water v_c_salt v_c_stack v_d_day v_d_water v_d_salt v_d_seen v_d_took v_d_dryDays v_d_firstDry v_d_total j N h1 h2
    obtain ⟨q, rfl⟩ : ∃ z, q = z + 1 := ⟨q - 1, by omega⟩
    have hn : ¬ nI N ≤ nI j := fun h => absurd ((nI_leI (by omega) (by omega)).mp h) (by omega)
    obtain ⟨o, ho, hr⟩ := ih q (by omega) v_p_wanting v_p_passWidth v_p_riverWidth v_p_rain 0 0 v_c_lacked v_c_level v_c_water v_c_salt v_c_stack (v_d_day + 1) v_d_water v_d_salt v_d_seen v_d_took v_d_dryDays v_d_firstDry v_d_total (j + 1) N (by omega) h2
    rw [nI_succ] at ho
    refine ⟨o, ?_, hr⟩
    show f_X6_firstOf_b16_st (f_X6_firstOf_b16 (0 : Int32) (0 : Int32) (0 : Int32) (0 : Int32) (0 : Int32) (fun _ => 0) (fun _ => 0) (fun _ => 0) (fun _ => 0) (fun _ => 0) (fun _ => 0) (fun _ => 0) (fun _ => 0) (fun _ => 0) (fun _ => 0) (0 : Int32) (0 : Int32) (0 : Int32) q) (0 : Int32) (0 : Int32) (0 : Int32) (0 : Int32) (0 : Int32) (fun _ => 0) (fun _ => 0) (fun _ => 0) (fun _ => 0) (fun _ => 0) (fun _ => 0) (fun _ => 0) (fun _ => 0) (fun _ => 0) (fun _ => 0) (0 : Int32) (0 : Int32) (0 : Int32) (-1) v_p_wanting v_p_passWidth v_p_riverWidth v_p_rain v_c_pumped v_c_today v_c_lacked v_c_level v_c_water v_c_salt v_c_stack v_d_day v_d_water v_d_salt v_d_seen v_d_took v_d_dryDays v_d_firstDry v_d_total (nI N) (nI j) = some o
    unfold f_X6_firstOf_b16_st
    rw [if_neg hn, z_oneDay]
    dsimp only [bd, un15]
    rw [z34]
    exact ho
set_option maxRecDepth 100000 in
set_option maxHeartbeats 4000000 in
theorem zl_first7 : ∀ (k q : Nat), k < q → ∀ (v_m_isBroken : Int32) (v_m_rowDay : Int32) (v_m_takenAll : Int64) (v_m_riversAll : Int64) (v_m_variables : (Nat → Int32)) (v_m_pile : (Nat → Int32)) (v_m_row : (Nat → Int64)) (v_m_wants : (Nat → Int32)) (v_m_isOff : (Nat → Int32)) (v_m_wide : (Nat → Int32)) (v_m_rainNow : (Nat → Int32)) (v_m_taken : (Nat → Int64)) (v_m_isDry : (Nat → Int32)) (v_m_wouldLack : (Nat → Int32)) (v_m_more : (Nat → Int64)) (v_m_moreSalt : (Nat → Int64)) (j N : Nat), j + k = N → N ≤ 400 → ∃ o, f_X7_firstOf_b15 0 0 0 0 0 (fun _ => 0) (fun _ => 0) (fun _ => 0) (fun _ => 0) (fun _ => 0) (fun _ => 0) (fun _ => 0) (fun _ => 0) (fun _ => 0) (fun _ => 0) (fun _ => 0) (fun _ => 0) (fun _ => 0) (fun _ => 0) (fun _ => 0) (fun _ => 0) (fun _ => 0) (fun _ => 0) q v_m_isBroken v_m_rowDay (-1) (-1) v_m_takenAll v_m_riversAll v_m_variables v_m_pile v_m_row v_m_wants v_m_isOff v_m_wide v_m_rainNow v_m_taken v_m_isDry v_m_wouldLack v_m_more v_m_moreSalt (nI N) (nI j) = some o ∧ o.1 = -2 := by
  intro k
  induction k with
  | zero =>
    intro q hq v_m_isBroken v_m_rowDay v_m_takenAll v_m_riversAll v_m_variables v_m_pile v_m_row v_m_wants v_m_isOff v_m_wide v_m_rainNow v_m_taken v_m_isDry v_m_wouldLack v_m_more v_m_moreSalt j N h1 h2
    obtain ⟨q, rfl⟩ : ∃ z, q = z + 1 := ⟨q - 1, by omega⟩
    have e : N = j := by omega
    subst e
    exact ⟨_, if_pos (Int32.le_refl _), rfl⟩
  | succ k ih =>
    intro q hq v_m_isBroken v_m_rowDay v_m_takenAll v_m_riversAll v_m_variables v_m_pile v_m_row v_m_wants v_m_isOff v_m_wide v_m_rainNow v_m_taken v_m_isDry v_m_wouldLack v_m_more v_m_moreSalt j N h1 h2
    obtain ⟨q, rfl⟩ : ∃ z, q = z + 1 := ⟨q - 1, by omega⟩
    have hn : ¬ nI N ≤ nI j := fun h => absurd ((nI_leI (by omega) (by omega)).mp h) (by omega)
    obtain ⟨m1, m2, hg⟩ := z_goesBy 0 0 0 0 (fun _ => 0) (fun _ => 0) (fun _ => 0) (fun _ => 0) (fun _ => 0) (fun _ => 0) (fun _ => 0) (fun _ => 0) (fun _ => 0) (fun _ => 0) (fun _ => 0) (fun _ => 0) (fun _ => 0) v_m_wants v_m_isOff v_m_wide v_m_rainNow v_m_isBroken v_m_rowDay v_m_takenAll v_m_riversAll v_m_variables v_m_pile v_m_row v_m_taken v_m_isDry v_m_wouldLack v_m_more v_m_moreSalt
    obtain ⟨o, ho, hr⟩ := ih q (by omega) v_m_isBroken (v_m_rowDay + 1) v_m_takenAll v_m_riversAll v_m_variables v_m_pile v_m_row v_m_wants v_m_isOff v_m_wide v_m_rainNow v_m_taken v_m_isDry v_m_wouldLack m1 m2 (j + 1) N (by omega) h2
    rw [nI_succ] at ho
    refine ⟨o, ?_, hr⟩
    show f_X7_firstOf_b15_st (f_X7_firstOf_b15 0 0 0 0 0 (fun _ => 0) (fun _ => 0) (fun _ => 0) (fun _ => 0) (fun _ => 0) (fun _ => 0) (fun _ => 0) (fun _ => 0) (fun _ => 0) (fun _ => 0) (fun _ => 0) (fun _ => 0) (fun _ => 0) (fun _ => 0) (fun _ => 0) (fun _ => 0) (fun _ => 0) (fun _ => 0) q) 0 0 0 0 0 (fun _ => 0) (fun _ => 0) (fun _ => 0) (fun _ => 0) (fun _ => 0) (fun _ => 0) (fun _ => 0) (fun _ => 0) (fun _ => 0) (fun _ => 0) (fun _ => 0) (fun _ => 0) (fun _ => 0) (fun _ => 0) (fun _ => 0) (fun _ => 0) (fun _ => 0) (fun _ => 0) v_m_isBroken v_m_rowDay (-1) (-1) v_m_takenAll v_m_riversAll v_m_variables v_m_pile v_m_row v_m_wants v_m_isOff v_m_wide v_m_rainNow v_m_taken v_m_isDry v_m_wouldLack v_m_more v_m_moreSalt (nI N) (nI j) = some o
    unfold f_X7_firstOf_b15_st
    rw [if_neg hn, hg]
    dsimp only [bd, un12]
    rw [z26]
    exact ho
theorem z_rain6 (r : Nat → Int32) (d : Int32) : f_X0_rainOf 0 r d = some 0 := by
  unfold f_X0_rainOf
  exact if_neg (by decide)
theorem z_rain7 (r : Nat → Int32) (d : Int32) : f_X7_rainOf 0 (fun _ => 0) r d = some 0 := rfl
theorem z_n7 : f_X7_n 0 (fun _ => 0) = some 0 := rfl
theorem z_allW6 (w : Nat → Int32) : f_X1_allWater w 0 = some 0 := rfl
theorem z_allW7 (w : Nat → Int64) : f_X7_allWater 0 (fun _ => 0) w = some 0 := rfl
set_option maxRecDepth 100000 in
set_option maxHeartbeats 4000000 in
theorem zl_bal6 : ∀ (k q : Nat), k < q → ∀ (v_p_wanting : (Nat → Int32)) (v_p_passWidth : (Nat → Int32)) (v_p_riverWidth : (Nat → Int32)) (v_p_rain : (Nat → Int32)) (v_c_pumped : Int32) (v_c_today : Int32) (v_c_lacked : (Nat → Int32)) (v_c_level : (Nat → Int32)) (v_c_water : (Nat → Int32)) (v_c_salt : (Nat → Int64)) (v_c_stack : (Nat → Int32)) (v_d_day : Int32) (v_d_water : (Nat → Int32)) (v_d_salt : (Nat → Int64)) (v_d_seen : (Nat → Int32)) (v_d_took : (Nat → Int32)) (v_d_dryDays : (Nat → Int32)) (v_d_firstDry : (Nat → Int32)) (v_d_total : (Nat → Int32)) (x2 : Int32) (j N : Nat), j + k = N → N ≤ 400 → ∃ o, f_X6_balance_b32 (0 : Int32) (0 : Int32) (0 : Int32) (0 : Int32) (0 : Int32) (fun _ => 0) (fun _ => 0) (fun _ => 0) (fun _ => 0) (fun _ => 0) (fun _ => 0) (fun _ => 0) (fun _ => 0) (fun _ => 0) (fun _ => 0) (0 : Int32) (0 : Int32) (0 : Int32) o6.2.2.1 q (-1) v_p_wanting v_p_passWidth v_p_riverWidth v_p_rain v_c_pumped v_c_today v_c_lacked v_c_level v_c_water v_c_salt v_c_stack v_d_day v_d_water v_d_salt v_d_seen v_d_took v_d_dryDays v_d_firstDry v_d_total (nI N) x2 0 0 (nI j) = some o ∧ o.1 = 0 := by
  intro k
  induction k with
  | zero =>
    intro q hq v_p_wanting v_p_passWidth v_p_riverWidth v_p_rain v_c_pumped v_c_today v_c_lacked v_c_level v_c_water v_c_salt v_c_stack v_d_day v_d_water v_d_salt v_d_seen v_d_took v_d_dryDays v_d_firstDry v_d_total x2 j N h1 h2
    obtain ⟨q, rfl⟩ : ∃ z, q = z + 1 := ⟨q - 1, by omega⟩
    have e : N = j := by omega
    subst e
    show ∃ o, f_X6_balance_b32_st (f_X6_balance_b32 (0 : Int32) (0 : Int32) (0 : Int32) (0 : Int32) (0 : Int32) (fun _ => 0) (fun _ => 0) (fun _ => 0) (fun _ => 0) (fun _ => 0) (fun _ => 0) (fun _ => 0) (fun _ => 0) (fun _ => 0) (fun _ => 0) (0 : Int32) (0 : Int32) (0 : Int32) o6.2.2.1 q) (0 : Int32) (0 : Int32) (0 : Int32) (0 : Int32) (0 : Int32) (fun _ => 0) (fun _ => 0) (fun _ => 0) (fun _ => 0) (fun _ => 0) (fun _ => 0) (fun _ => 0) (fun _ => 0) (fun _ => 0) (fun _ => 0) (0 : Int32) (0 : Int32) (0 : Int32) o6.2.2.1 (-1) v_p_wanting v_p_passWidth v_p_riverWidth v_p_rain v_c_pumped v_c_today v_c_lacked v_c_level v_c_water v_c_salt v_c_stack v_d_day v_d_water v_d_salt v_d_seen v_d_took v_d_dryDays v_d_firstDry v_d_total (nI N) x2 0 0 (nI N) = some o ∧ o.1 = 0
    unfold f_X6_balance_b32_st
    rw [if_pos (Int32.le_refl _), z_allW6, z_allW6]
    dsimp only [bd]
    by_cases w0 : x2 = 0
    · rw [if_pos w0]; exact ⟨_, rfl, rfl⟩
    rw [if_neg w0]
    by_cases w1 : x2 = 1
    · rw [if_pos w1]; exact ⟨_, rfl, rfl⟩
    rw [if_neg w1]
    by_cases w2 : x2 = 2
    · rw [if_pos w2]; exact ⟨_, rfl, rfl⟩
    rw [if_neg w2]; exact ⟨_, rfl, rfl⟩
  | succ k ih =>
    intro q hq v_p_wanting v_p_passWidth v_p_riverWidth v_p_rain v_c_pumped v_c_today v_c_lacked v_c_level v_c_water v_c_salt v_c_stack v_d_day v_d_water v_d_salt v_d_seen v_d_took v_d_dryDays v_d_firstDry v_d_total x2 j N h1 h2
    obtain ⟨q, rfl⟩ : ∃ z, q = z + 1 := ⟨q - 1, by omega⟩
    have hn : ¬ nI N ≤ nI j := fun h => absurd ((nI_leI (by omega) (by omega)).mp h) (by omega)
    obtain ⟨o, ho, hr⟩ := ih q (by omega) v_p_wanting v_p_passWidth v_p_riverWidth v_p_rain 0 0 v_c_lacked v_c_level v_c_water v_c_salt v_c_stack (v_d_day + 1) v_d_water v_d_salt v_d_seen v_d_took v_d_dryDays v_d_firstDry v_d_total x2 (j + 1) N (by omega) h2
    rw [nI_succ] at ho
    refine ⟨o, ?_, hr⟩
    show f_X6_balance_b32_st (f_X6_balance_b32 (0 : Int32) (0 : Int32) (0 : Int32) (0 : Int32) (0 : Int32) (fun _ => 0) (fun _ => 0) (fun _ => 0) (fun _ => 0) (fun _ => 0) (fun _ => 0) (fun _ => 0) (fun _ => 0) (fun _ => 0) (fun _ => 0) (0 : Int32) (0 : Int32) (0 : Int32) o6.2.2.1 q) (0 : Int32) (0 : Int32) (0 : Int32) (0 : Int32) (0 : Int32) (fun _ => 0) (fun _ => 0) (fun _ => 0) (fun _ => 0) (fun _ => 0) (fun _ => 0) (fun _ => 0) (fun _ => 0) (fun _ => 0) (fun _ => 0) (0 : Int32) (0 : Int32) (0 : Int32) o6.2.2.1 (-1) v_p_wanting v_p_passWidth v_p_riverWidth v_p_rain v_c_pumped v_c_today v_c_lacked v_c_level v_c_water v_c_salt v_c_stack v_d_day v_d_water v_d_salt v_d_seen v_d_took v_d_dryDays v_d_firstDry v_d_total (nI N) x2 0 0 (nI j) = some o
    unfold f_X6_balance_b32_st
    rw [if_neg hn, z_rain6, z_oneDay]
    dsimp only [bd, un15]
    rw [z77]
    exact ho
set_option maxRecDepth 100000 in
set_option maxHeartbeats 4000000 in
theorem zl_bal7 : ∀ (k q : Nat), k < q → ∀ (v_m_isBroken : Int32) (v_m_rowDay : Int32) (v_m_variables : (Nat → Int32)) (v_m_pile : (Nat → Int32)) (v_m_row : (Nat → Int64)) (v_m_wants : (Nat → Int32)) (v_m_isOff : (Nat → Int32)) (v_m_wide : (Nat → Int32)) (v_m_rainNow : (Nat → Int32)) (v_m_taken : (Nat → Int64)) (v_m_isDry : (Nat → Int32)) (v_m_wouldLack : (Nat → Int32)) (v_m_more : (Nat → Int64)) (v_m_moreSalt : (Nat → Int64)) (x2 : Int32) (j N : Nat), j + k = N → N ≤ 400 → ∃ o, f_X7_balance_b35 0 0 0 0 0 (fun _ => 0) (fun _ => 0) (fun _ => 0) (fun _ => 0) (fun _ => 0) (fun _ => 0) (fun _ => 0) (fun _ => 0) (fun _ => 0) (fun _ => 0) (fun _ => 0) (fun _ => 0) (fun _ => 0) (fun _ => 0) (fun _ => 0) (fun _ => 0) (fun _ => 0) (fun _ => 0) q v_m_isBroken v_m_rowDay (-1) (-1) 0 0 v_m_variables v_m_pile v_m_row v_m_wants v_m_isOff v_m_wide v_m_rainNow v_m_taken v_m_isDry v_m_wouldLack v_m_more v_m_moreSalt (nI N) x2 0 0 (nI j) = some o ∧ o.1 = 0 := by
  intro k
  induction k with
  | zero =>
    intro q hq v_m_isBroken v_m_rowDay v_m_variables v_m_pile v_m_row v_m_wants v_m_isOff v_m_wide v_m_rainNow v_m_taken v_m_isDry v_m_wouldLack v_m_more v_m_moreSalt x2 j N h1 h2
    obtain ⟨q, rfl⟩ : ∃ z, q = z + 1 := ⟨q - 1, by omega⟩
    have e : N = j := by omega
    subst e
    show ∃ o, f_X7_balance_b35_st (f_X7_balance_b35 0 0 0 0 0 (fun _ => 0) (fun _ => 0) (fun _ => 0) (fun _ => 0) (fun _ => 0) (fun _ => 0) (fun _ => 0) (fun _ => 0) (fun _ => 0) (fun _ => 0) (fun _ => 0) (fun _ => 0) (fun _ => 0) (fun _ => 0) (fun _ => 0) (fun _ => 0) (fun _ => 0) (fun _ => 0) q) 0 0 0 0 0 (fun _ => 0) (fun _ => 0) (fun _ => 0) (fun _ => 0) (fun _ => 0) (fun _ => 0) (fun _ => 0) (fun _ => 0) (fun _ => 0) (fun _ => 0) (fun _ => 0) (fun _ => 0) (fun _ => 0) (fun _ => 0) (fun _ => 0) (fun _ => 0) (fun _ => 0) (fun _ => 0) v_m_isBroken v_m_rowDay (-1) (-1) 0 0 v_m_variables v_m_pile v_m_row v_m_wants v_m_isOff v_m_wide v_m_rainNow v_m_taken v_m_isDry v_m_wouldLack v_m_more v_m_moreSalt (nI N) x2 0 0 (nI N) = some o ∧ o.1 = 0
    unfold f_X7_balance_b35_st
    rw [if_pos (Int32.le_refl _)]
    by_cases w0 : x2 = 0
    · rw [if_pos w0]; exact ⟨_, rfl, rfl⟩
    rw [if_neg w0]
    by_cases w1 : x2 = 1
    · rw [if_pos w1]; exact ⟨_, rfl, rfl⟩
    rw [if_neg w1]
    by_cases w2 : x2 = 2
    · rw [if_pos w2]; exact ⟨_, rfl, rfl⟩
    rw [if_neg w2]; exact ⟨_, rfl, rfl⟩
  | succ k ih =>
    intro q hq v_m_isBroken v_m_rowDay v_m_variables v_m_pile v_m_row v_m_wants v_m_isOff v_m_wide v_m_rainNow v_m_taken v_m_isDry v_m_wouldLack v_m_more v_m_moreSalt x2 j N h1 h2
    obtain ⟨q, rfl⟩ : ∃ z, q = z + 1 := ⟨q - 1, by omega⟩
    have hn : ¬ nI N ≤ nI j := fun h => absurd ((nI_leI (by omega) (by omega)).mp h) (by omega)
    obtain ⟨m1, m2, hg⟩ := z_goesBy 0 0 0 0 (fun _ => 0) (fun _ => 0) (fun _ => 0) (fun _ => 0) (fun _ => 0) (fun _ => 0) (fun _ => 0) (fun _ => 0) (fun _ => 0) (fun _ => 0) (fun _ => 0) (fun _ => 0) (fun _ => 0) v_m_wants v_m_isOff v_m_wide v_m_rainNow v_m_isBroken v_m_rowDay 0 0 v_m_variables v_m_pile v_m_row v_m_taken v_m_isDry v_m_wouldLack v_m_more v_m_moreSalt
    obtain ⟨o, ho, hr⟩ := ih q (by omega) v_m_isBroken (v_m_rowDay + 1) v_m_variables v_m_pile v_m_row v_m_wants v_m_isOff v_m_wide v_m_rainNow v_m_taken v_m_isDry v_m_wouldLack m1 m2 x2 (j + 1) N (by omega) h2
    rw [nI_succ] at ho
    refine ⟨o, ?_, hr⟩
    show f_X7_balance_b35_st (f_X7_balance_b35 0 0 0 0 0 (fun _ => 0) (fun _ => 0) (fun _ => 0) (fun _ => 0) (fun _ => 0) (fun _ => 0) (fun _ => 0) (fun _ => 0) (fun _ => 0) (fun _ => 0) (fun _ => 0) (fun _ => 0) (fun _ => 0) (fun _ => 0) (fun _ => 0) (fun _ => 0) (fun _ => 0) (fun _ => 0) q) 0 0 0 0 0 (fun _ => 0) (fun _ => 0) (fun _ => 0) (fun _ => 0) (fun _ => 0) (fun _ => 0) (fun _ => 0) (fun _ => 0) (fun _ => 0) (fun _ => 0) (fun _ => 0) (fun _ => 0) (fun _ => 0) (fun _ => 0) (fun _ => 0) (fun _ => 0) (fun _ => 0) (fun _ => 0) v_m_isBroken v_m_rowDay (-1) (-1) 0 0 v_m_variables v_m_pile v_m_row v_m_wants v_m_isOff v_m_wide v_m_rainNow v_m_taken v_m_isDry v_m_wouldLack v_m_more v_m_moreSalt (nI N) x2 0 0 (nI j) = some o
    unfold f_X7_balance_b35_st
    rw [if_neg hn, z_rain7, z_n7, hg]
    exact ho
