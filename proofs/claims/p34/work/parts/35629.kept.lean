/-! test: what is kept of the LEVELS on a day -/
/-- a step taken n times -/
def itN {α : Type} (f : α → Option α) : Nat → α → Option α
  | 0 => fun s => some s
  | n + 1 => fun s => bd (itN f n s) f
theorem itN_s {α : Type} {f : α → Option α} {n : Nat} {s t u : α} (h : itN f n s = some t) (g : f t = some u) : itN f (n + 1) s = some u := by
  show bd (itN f n s) f = some u
  rw [h]
  exact g
theorem itN_le {α : Type} {f : α → Option α} {s : α} {n : Nat} : ∀ (m : Nat) (u : α), n ≤ m → itN f m s = some u → ∃ t, itN f n s = some t := by
  intro m
  induction m with
  | zero => intro u h e; exact ⟨u, by rw [show n = 0 by omega]; exact e⟩
  | succ m ih =>
    intro u h e
    by_cases q : n = m + 1
    · exact ⟨u, by rw [q]; exact e⟩
    · obtain ⟨t, ht, _⟩ := bd_some (show bd (itN f m s) f = some u from e)
      exact ih t (by omega) ht
theorem pa_be {α β : Type} {f : Option α} {k : α → Option β} {P : β → Prop} (q : ∀ a, f = some a → pa (k a) P) : pa (bd f k) P := by
  cases f with
  | none => exact pa_none
  | some v => exact q v rfl
theorem pa_mapS {α β : Type} {f : Option β} {P : α ⊕ β → Prop} (h : pa f (fun b => P (.inr b))) : pa (mapS f : Option (α ⊕ β)) P := by
  cases f with
  | none => exact pa_none
  | some v => exact pa_some (h v rfl)
theorem pj_mapS {α β γ : Type} {f : Option β} {g : Option γ} {R : α ⊕ β → γ → Prop} (h : pj f g (fun b c => R (.inr b) c)) : pj (mapS f : Option (α ⊕ β)) g R := by
  cases f with
  | none => exact pj_nl
  | some v => exact pj_of (P := fun a => a = .inr v) (Q := fun c => R (.inr v) c) (pa_some rfl) (fun c ec => h v c rfl ec) (fun a c ha hc => by rw [ha]; exact hc)
abbrev CS : Type := Int32 × Int32 × (Nat → Int32) × (Nat → Int32) × (Nat → Int32) × (Nat → Int64) × (Nat → Int32) × Int32 × (Nat → Int32) × (Nat → Int64) × (Nat → Int32) × (Nat → Int32) × (Nat → Int32) × (Nat → Int32) × (Nat → Int32)
/-- the class's day, as a step -/
def cDay (v_g_cells : Int32) (v_g_passes : Int32) (v_g_rivers : Int32) (v_g_villages : Int32) (v_g_rains : Int32) (v_g_room : Nat → Int32) (v_g_passFrom : Nat → Int32) (v_g_passTo : Nat → Int32) (v_g_riverCell : Nat → Int32) (v_g_riverLevel : Nat → Int32) (v_g_riverSalt : Nat → Int32) (v_g_villageCell : Nat → Int32) (v_g_need : Nat → Int32) (v_g_lawEnd : Nat → Int32) (v_g_code : Nat → Int32) (v_p_pumpCell : Int32) (v_p_pumpTakes : Int32) (v_p_pumpFrom : Int32) (v_p_pumpTo : Int32) (v_p_wanting : Nat → Int32) (v_p_passWidth : Nat → Int32) (v_p_riverWidth : Nat → Int32) (v_p_rain : Nat → Int32) (s : CS) : Option CS := un15 s (fun c0 c1 c2 c3 c4 c5 c6 c7 c8 c9 c10 c11 c12 c13 c14 => f_X0_oneDay v_g_cells v_g_passes v_g_rivers v_g_villages v_g_rains v_g_room v_g_passFrom v_g_passTo v_g_riverCell v_g_riverLevel v_g_riverSalt v_g_villageCell v_g_need v_g_lawEnd v_g_code v_p_pumpCell v_p_pumpTakes v_p_pumpFrom v_p_pumpTo v_p_wanting v_p_passWidth v_p_riverWidth v_p_rain c0 c1 c2 c3 c4 c5 c6 c7 c8 c9 c10 c11 c12 c13 c14)
/-- as it begins -/
def BGS (gw : Nat → Int32) (s : CS) : Prop := s.2.2.2.2.2.2.2.1 = 0 ∧ (∀ i, i < 12 → s.2.2.2.2.2.2.2.2.1 i = gw i ∧ s.2.2.2.2.2.2.2.2.2.1 i = 0 ∧ s.2.2.2.2.2.2.2.2.2.2.1 i = 0) ∧ ∀ i, i < 6 → s.2.2.2.2.2.2.2.2.2.2.2.1 i = 0 ∧ s.2.2.2.2.2.2.2.2.2.2.2.2.1 i = 0 ∧ s.2.2.2.2.2.2.2.2.2.2.2.2.2.1 i = -2 ∧ s.2.2.2.2.2.2.2.2.2.2.2.2.2.2 i = 0
/-- the LEVELS of the day q are kept in the fit-th row -/
def KEPT (f : CS → Option CS) (gw : Nat → Int32) (q : Nat) (room : Nat → Int32) (ce : Int) (fit : Nat) (pl : Nat → Int32) : Prop := ∃ s0 s : CS, BGS gw s0 ∧ itN f q s0 = some s ∧ ∀ c : Nat, (c : Int) < ce → pl (12 * fit + c) = s.2.2.2.2.2.2.2.2.1 c / room c
theorem c_kl26 {ce : Int32} {room wat pl0 : Nat → Int32} {F : Nat} (hc : 0 ≤ ce.toInt ∧ ce.toInt ≤ 12) (hF : F ≤ 120) (hr : ∀ c : Nat, (c : Int) < ce.toInt → 1 ≤ (room c).toInt) : ∀ (n : Nat) (pl : Nat → Int32) (x1 x2 : Int32) (i : Nat), x1.toInt = 12 * (F : Int) → x2.toInt = (i : Int) → (i : Int) ≤ ce.toInt → (∀ c, c < i → pl (12 * F + c) = wat c / room c) → (∀ j, j < 12 * F → pl j = pl0 j) → pa (f_X2_keepLevels_S_b26 ce room wat n pl x1 x2) (fun o => (∀ c : Nat, (c : Int) < ce.toInt → o (12 * F + c) = wat c / room c) ∧ ∀ j, j < 12 * F → o j = pl0 j) := by
  intro n
  induction n with
  | zero => intro pl x1 x2 i _ _ _ _ _; exact pa_none
  | succ n ih =>
    intro pl x1 x2 i h1 h2 hi hk h0
    show pa (f_X2_keepLevels_S_b26_st (f_X2_keepLevels_S_b26 ce room wat n) ce room wat pl x1 x2) _
    unfold f_X2_keepLevels_S_b26_st
    have t : (x1 + x2).toInt = x1.toInt + x2.toInt := Jvm.Kit.i32_add (by omega) (by omega)
    refine pa_if (fun z => pa_some ⟨fun c hc2 => hk c (by have := ti_le z; omega), h0⟩) (fun z => pa_if (fun k => ?_) (fun _ => pa_ck (fun _ => ?_)))
    · have k2 := ti_le k
      have e : (1452 : Int32).toInt = 1452 := rfl
      have := ti_nle z
      omega
    · have z2 := ti_nle z
      have t1 := add_k (x := x2) (v := 1) (k := 1) rfl (by omega) (by omega)
      have e2 : x2.toNatClampNeg = i := by have : (x2.toNatClampNeg : Int) = x2.toInt := cl_k (by omega); omega
      have e12 : (x1 + x2).toNatClampNeg = 12 * F + i := by have : ((x1 + x2).toNatClampNeg : Int) = (x1 + x2).toInt := cl_k (by omega); omega
      refine pa_bd (c_lev (q := x2) (by rw [e2]; exact hr i (by omega))) (fun o ho => pa_ck (fun _ => pa_nx ?_))
      rw [e12]
      refine ih _ x1 (x2 + 1) (i + 1) h1 (by omega) (by omega) (fun c hc2 => ?_) (fun j hj => ?_)
      · by_cases q : c = i
        · rw [q, up_at, ho, e2]
        · rw [up_ne (by omega)]
          exact hk c (by omega)
      · rw [up_ne (by omega)]
        exact h0 j hj
theorem c_keepS {fit ce : Int32} {room wat pl : Nat → Int32} {F : Nat} (hc : 0 ≤ ce.toInt ∧ ce.toInt ≤ 12) (hF : F ≤ 120) (hr : ∀ c : Nat, (c : Int) < ce.toInt → 1 ≤ (room c).toInt) (ef : fit.toInt = (F : Int)) : pa (f_X2_keepLevels_S_b16 fit ce room wat pl) (fun o => (∀ c : Nat, (c : Int) < ce.toInt → o (12 * F + c) = wat c / room c) ∧ ∀ j, j < 12 * F → o j = pl j) := by
  unfold f_X2_keepLevels_S_b16
  have e : (12 : Int32).toInt = 12 := rfl
  refine c_kl26 hc hF hr fuel pl _ 0 0 ?_ rfl hc.1 (fun c h => absurd h (Nat.not_lt_zero c)) (fun j _ => rfl)
  rw [Jvm.Kit.i32_mul (by rw [e]; omega) (by rw [e]; omega), e]
  omega
set_option maxHeartbeats 4000000 in
theorem c_fk_S {v_e_fitting : Int32} {v_e_toldDay : Nat → Int32} {v_e_toldCell : Nat → Int32} {v_e_toldLevel : Nat → Int32} {v_g_cells : Int32} {v_g_passes : Int32} {v_g_rivers : Int32} {v_g_villages : Int32} {v_g_rains : Int32} {v_g_room : Nat → Int32} {v_g_passFrom : Nat → Int32} {v_g_passTo : Nat → Int32} {v_g_riverCell : Nat → Int32} {v_g_riverLevel : Nat → Int32} {v_g_riverSalt : Nat → Int32} {v_g_villageCell : Nat → Int32} {v_g_need : Nat → Int32} {v_g_lawEnd : Nat → Int32} {v_g_code : Nat → Int32} {v_p_pumpCell : Int32} {v_p_pumpTakes : Int32} {v_p_pumpFrom : Int32} {v_p_pumpTo : Int32} {v_p_wanting : Nat → Int32} {v_p_passWidth : Nat → Int32} {v_p_riverWidth : Nat → Int32} {v_p_rain : Nat → Int32} {s0 : CS} {q F : Nat} {gw pl0 : Nat → Int32} (hc : 0 ≤ v_g_cells.toInt ∧ v_g_cells.toInt ≤ 12) (hF : F ≤ 120) (hr : ∀ c : Nat, (c : Int) < v_g_cells.toInt → 1 ≤ (v_g_room c).toInt) (ef : v_e_fitting.toInt = (F : Int)) (hB : BGS gw s0) : ∀ (n : Nat) (v_c_pumped : Int32) (v_c_today : Int32) (v_c_lacked : Nat → Int32) (v_c_level : Nat → Int32) (v_c_water : Nat → Int32) (v_c_salt : Nat → Int64) (v_c_stack : Nat → Int32) (v_d_day : Int32) (v_d_water : Nat → Int32) (v_d_salt : Nat → Int64) (v_d_seen : Nat → Int32) (v_d_took : Nat → Int32) (v_d_dryDays : Nat → Int32) (v_d_firstDry : Nat → Int32) (v_d_total : Nat → Int32) (v_pl_0 : Nat → Int32) (x1 : Int32) (x2 : Int32) (x3 : Int32) (x4 : Int32) (i : Nat), x4.toInt = (i : Int) → (i : Int) ≤ x3.toInt + 1 → x2.toInt = (q : Int) → x2.toInt ≤ x3.toInt → x3.toInt ≤ 500 → ((i : Int) ≤ x3.toInt → itN (cDay v_g_cells v_g_passes v_g_rivers v_g_villages v_g_rains v_g_room v_g_passFrom v_g_passTo v_g_riverCell v_g_riverLevel v_g_riverSalt v_g_villageCell v_g_need v_g_lawEnd v_g_code v_p_pumpCell v_p_pumpTakes v_p_pumpFrom v_p_pumpTo v_p_wanting v_p_passWidth v_p_riverWidth v_p_rain) i s0 = some (v_c_pumped, v_c_today, v_c_lacked, v_c_level, v_c_water, v_c_salt, v_c_stack, v_d_day, v_d_water, v_d_salt, v_d_seen, v_d_took, v_d_dryDays, v_d_firstDry, v_d_total)) → ((∀ j, j < 12 * F → v_pl_0 j = pl0 j) ∧ (q < i → KEPT (cDay v_g_cells v_g_passes v_g_rivers v_g_villages v_g_rains v_g_room v_g_passFrom v_g_passTo v_g_riverCell v_g_riverLevel v_g_riverSalt v_g_villageCell v_g_need v_g_lawEnd v_g_code v_p_pumpCell v_p_pumpTakes v_p_pumpFrom v_p_pumpTo v_p_wanting v_p_passWidth v_p_riverWidth v_p_rain) gw q v_g_room v_g_cells.toInt F v_pl_0)) → pa (f_X2_fits_S_b24 v_e_fitting v_e_toldDay v_e_toldCell v_e_toldLevel v_g_cells v_g_passes v_g_rivers v_g_villages v_g_rains v_g_room v_g_passFrom v_g_passTo v_g_riverCell v_g_riverLevel v_g_riverSalt v_g_villageCell v_g_need v_g_lawEnd v_g_code v_p_pumpCell v_p_pumpTakes v_p_pumpFrom v_p_pumpTo v_p_wanting v_p_passWidth v_p_riverWidth v_p_rain n v_c_pumped v_c_today v_c_lacked v_c_level v_c_water v_c_salt v_c_stack v_d_day v_d_water v_d_salt v_d_seen v_d_took v_d_dryDays v_d_firstDry v_d_total v_pl_0 x1 x2 x3 x4) (fun o => (∀ j, j < 12 * F → o.2.2.2.2.2.2.2.2.2.2.2.2.2.2.2.2 j = pl0 j) ∧ (o.1 = 1 → KEPT (cDay v_g_cells v_g_passes v_g_rivers v_g_villages v_g_rains v_g_room v_g_passFrom v_g_passTo v_g_riverCell v_g_riverLevel v_g_riverSalt v_g_villageCell v_g_need v_g_lawEnd v_g_code v_p_pumpCell v_p_pumpTakes v_p_pumpFrom v_p_pumpTo v_p_wanting v_p_passWidth v_p_riverWidth v_p_rain) gw q v_g_room v_g_cells.toInt F o.2.2.2.2.2.2.2.2.2.2.2.2.2.2.2.2) ∧ (o.1 = 0 ∨ o.1 = 1)) := by
  intro n
  induction n with
  | zero => intro v_c_pumped v_c_today v_c_lacked v_c_level v_c_water v_c_salt v_c_stack v_d_day v_d_water v_d_salt v_d_seen v_d_took v_d_dryDays v_d_firstDry v_d_total v_pl_0 x1 x2 x3 x4 i _ _ _ _ _ _ _; exact pa_none
  | succ n ih =>
    intro v_c_pumped v_c_today v_c_lacked v_c_level v_c_water v_c_salt v_c_stack v_d_day v_d_water v_d_salt v_d_seen v_d_took v_d_dryDays v_d_firstDry v_d_total v_pl_0 x1 x2 x3 x4 i h4 hi h2 h23 h3 hI hK
    show pa (f_X2_fits_S_b24_st (f_X2_fits_S_b24 v_e_fitting v_e_toldDay v_e_toldCell v_e_toldLevel v_g_cells v_g_passes v_g_rivers v_g_villages v_g_rains v_g_room v_g_passFrom v_g_passTo v_g_riverCell v_g_riverLevel v_g_riverSalt v_g_villageCell v_g_need v_g_lawEnd v_g_code v_p_pumpCell v_p_pumpTakes v_p_pumpFrom v_p_pumpTo v_p_wanting v_p_passWidth v_p_riverWidth v_p_rain n) v_e_fitting v_e_toldDay v_e_toldCell v_e_toldLevel v_g_cells v_g_passes v_g_rivers v_g_villages v_g_rains v_g_room v_g_passFrom v_g_passTo v_g_riverCell v_g_riverLevel v_g_riverSalt v_g_villageCell v_g_need v_g_lawEnd v_g_code v_p_pumpCell v_p_pumpTakes v_p_pumpFrom v_p_pumpTo v_p_wanting v_p_passWidth v_p_riverWidth v_p_rain v_c_pumped v_c_today v_c_lacked v_c_level v_c_water v_c_salt v_c_stack v_d_day v_d_water v_d_salt v_d_seen v_d_took v_d_dryDays v_d_firstDry v_d_total v_pl_0 x1 x2 x3 x4) _
    unfold f_X2_fits_S_b24_st
    refine pa_if (fun z => pa_some ⟨hK.1, fun _ => hK.2 (by have := ti_lt z; omega), Or.inr rfl⟩) (fun z => ?_)
    have z2 := ti_nlt z
    have t1 := add_k (x := x4) (v := 1) (k := 1) rfl (by omega) (by omega)
    have tail : ∀ pl' : Nat → Int32, (∀ j, j < 12 * F → pl' j = pl0 j) → (q < i + 1 → KEPT (cDay v_g_cells v_g_passes v_g_rivers v_g_villages v_g_rains v_g_room v_g_passFrom v_g_passTo v_g_riverCell v_g_riverLevel v_g_riverSalt v_g_villageCell v_g_need v_g_lawEnd v_g_code v_p_pumpCell v_p_pumpTakes v_p_pumpFrom v_p_pumpTo v_p_wanting v_p_passWidth v_p_riverWidth v_p_rain) gw q v_g_room v_g_cells.toInt F pl') → pa (f_X2_fits_S_b52 (f_X2_fits_S_b24 v_e_fitting v_e_toldDay v_e_toldCell v_e_toldLevel v_g_cells v_g_passes v_g_rivers v_g_villages v_g_rains v_g_room v_g_passFrom v_g_passTo v_g_riverCell v_g_riverLevel v_g_riverSalt v_g_villageCell v_g_need v_g_lawEnd v_g_code v_p_pumpCell v_p_pumpTakes v_p_pumpFrom v_p_pumpTo v_p_wanting v_p_passWidth v_p_riverWidth v_p_rain n) v_e_fitting v_e_toldDay v_e_toldCell v_e_toldLevel v_g_cells v_g_passes v_g_rivers v_g_villages v_g_rains v_g_room v_g_passFrom v_g_passTo v_g_riverCell v_g_riverLevel v_g_riverSalt v_g_villageCell v_g_need v_g_lawEnd v_g_code v_p_pumpCell v_p_pumpTakes v_p_pumpFrom v_p_pumpTo v_p_wanting v_p_passWidth v_p_riverWidth v_p_rain v_c_pumped v_c_today v_c_lacked v_c_level v_c_water v_c_salt v_c_stack v_d_day v_d_water v_d_salt v_d_seen v_d_took v_d_dryDays v_d_firstDry v_d_total pl' x1 x2 x3 x4) (fun o => (∀ j, j < 12 * F → o.2.2.2.2.2.2.2.2.2.2.2.2.2.2.2.2 j = pl0 j) ∧ (o.1 = 1 → KEPT (cDay v_g_cells v_g_passes v_g_rivers v_g_villages v_g_rains v_g_room v_g_passFrom v_g_passTo v_g_riverCell v_g_riverLevel v_g_riverSalt v_g_villageCell v_g_need v_g_lawEnd v_g_code v_p_pumpCell v_p_pumpTakes v_p_pumpFrom v_p_pumpTo v_p_wanting v_p_passWidth v_p_riverWidth v_p_rain) gw q v_g_room v_g_cells.toInt F o.2.2.2.2.2.2.2.2.2.2.2.2.2.2.2.2) ∧ (o.1 = 0 ∨ o.1 = 1)) := by
      intro pl' hp0 hp1
      unfold f_X2_fits_S_b52
      refine pa_if (fun k => ih _ _ _ _ _ _ _ _ _ _ _ _ _ _ _ _ _ _ _ _ (i + 1) (by omega) (by omega) h2 h23 h3 (fun k2 => ?_) ⟨hp0, hp1⟩) (fun k => ?_)
      · have := ti_le k
        omega
      · have k2 := ti_nle k
        refine pa_be (fun o e => ?_)
        obtain ⟨b0, b1, b2, b3, b4, b5, b6, b7, b8, b9, b10, b11, b12, b13, b14⟩ := o
        exact ih _ _ _ _ _ _ _ _ _ _ _ _ _ _ _ _ _ _ _ _ (i + 1) (by omega) (by omega) h2 h23 h3 (fun _ => itN_s (hI (by omega)) e) ⟨hp0, hp1⟩
    refine pa_bd (pa_T _) (fun o2 _ => pa_if (fun _ => pa_if (fun k => ?_) (fun k => ?_)) (fun _ => pa_some ⟨hK.1, fun e => absurd (show (0 : Int32) = 1 from e) (by decide), Or.inl rfl⟩))
    · unfold f_X2_keepLevels_S
      refine pa_bd (c_keepS hc hF hr ef) (fun pl' hpl => tail pl' (fun j hj => (hpl.2 j hj).trans (hK.1 j hj)) (fun _ => ?_))
      have eq_ : i = q := by rw [k] at h4; omega
      rw [← eq_]
      exact ⟨s0, (v_c_pumped, v_c_today, v_c_lacked, v_c_level, v_c_water, v_c_salt, v_c_stack, v_d_day, v_d_water, v_d_salt, v_d_seen, v_d_took, v_d_dryDays, v_d_firstDry, v_d_total), hB, hI (by omega), hpl.1⟩
    · exact tail v_pl_0 hK.1 (fun h => hK.2 (by
        have : ¬ i = q := fun e => k (Int32.toInt_inj.mp (by omega))
        omega))
set_option maxHeartbeats 4000000 in
theorem c_fk_N {v_e_fitting : Int32} {v_e_toldDay : Nat → Int32} {v_e_toldCell : Nat → Int32} {v_e_toldLevel : Nat → Int32} {v_g_cells : Int32} {v_g_passes : Int32} {v_g_rivers : Int32} {v_g_villages : Int32} {v_g_rains : Int32} {v_g_room : Nat → Int32} {v_g_passFrom : Nat → Int32} {v_g_passTo : Nat → Int32} {v_g_riverCell : Nat → Int32} {v_g_riverLevel : Nat → Int32} {v_g_riverSalt : Nat → Int32} {v_g_villageCell : Nat → Int32} {v_g_need : Nat → Int32} {v_g_lawEnd : Nat → Int32} {v_g_code : Nat → Int32} {v_p_pumpCell : Int32} {v_p_pumpTakes : Int32} {v_p_pumpFrom : Int32} {v_p_pumpTo : Int32} {v_p_wanting : Nat → Int32} {v_p_passWidth : Nat → Int32} {v_p_riverWidth : Nat → Int32} {v_p_rain : Nat → Int32} {s0 : CS} {q F : Nat} {gw : Nat → Int32} (hc : 0 ≤ v_g_cells.toInt ∧ v_g_cells.toInt ≤ 12) (hF : F ≤ 120) (hr : ∀ c : Nat, (c : Int) < v_g_cells.toInt → 1 ≤ (v_g_room c).toInt) (ef : v_e_fitting.toInt = (F : Int)) (hB : BGS gw s0) (F0 : F = 0) : ∀ (n : Nat) (v_c_pumped : Int32) (v_c_today : Int32) (v_c_lacked : Nat → Int32) (v_c_level : Nat → Int32) (v_c_water : Nat → Int32) (v_c_salt : Nat → Int64) (v_c_stack : Nat → Int32) (v_d_day : Int32) (v_d_water : Nat → Int32) (v_d_salt : Nat → Int64) (v_d_seen : Nat → Int32) (v_d_took : Nat → Int32) (v_d_dryDays : Nat → Int32) (v_d_firstDry : Nat → Int32) (v_d_total : Nat → Int32) (x1 : Int32) (x2 : Int32) (x3 : Int32) (x4 : Int32) (i : Nat), x4.toInt = (i : Int) → i ≤ q → x2.toInt = (q : Int) → x2.toInt ≤ x3.toInt → x3.toInt ≤ 500 → itN (cDay v_g_cells v_g_passes v_g_rivers v_g_villages v_g_rains v_g_room v_g_passFrom v_g_passTo v_g_riverCell v_g_riverLevel v_g_riverSalt v_g_villageCell v_g_need v_g_lawEnd v_g_code v_p_pumpCell v_p_pumpTakes v_p_pumpFrom v_p_pumpTo v_p_wanting v_p_passWidth v_p_riverWidth v_p_rain) i s0 = some (v_c_pumped, v_c_today, v_c_lacked, v_c_level, v_c_water, v_c_salt, v_c_stack, v_d_day, v_d_water, v_d_salt, v_d_seen, v_d_took, v_d_dryDays, v_d_firstDry, v_d_total) → pa (f_X2_fits_N_b24 v_e_fitting v_e_toldDay v_e_toldCell v_e_toldLevel v_g_cells v_g_passes v_g_rivers v_g_villages v_g_rains v_g_room v_g_passFrom v_g_passTo v_g_riverCell v_g_riverLevel v_g_riverSalt v_g_villageCell v_g_need v_g_lawEnd v_g_code v_p_pumpCell v_p_pumpTakes v_p_pumpFrom v_p_pumpTo v_p_wanting v_p_passWidth v_p_riverWidth v_p_rain n v_c_pumped v_c_today v_c_lacked v_c_level v_c_water v_c_salt v_c_stack v_d_day v_d_water v_d_salt v_d_seen v_d_took v_d_dryDays v_d_firstDry v_d_total x1 x2 x3 x4) (fun a => (∃ t, a = .inl t ∧ t.1 = 0) ∨ ∃ t, a = .inr t ∧ (t.1 = 1 → KEPT (cDay v_g_cells v_g_passes v_g_rivers v_g_villages v_g_rains v_g_room v_g_passFrom v_g_passTo v_g_riverCell v_g_riverLevel v_g_riverSalt v_g_villageCell v_g_need v_g_lawEnd v_g_code v_p_pumpCell v_p_pumpTakes v_p_pumpFrom v_p_pumpTo v_p_wanting v_p_passWidth v_p_riverWidth v_p_rain) gw q v_g_room v_g_cells.toInt F (t.2.2.2.2.2.2.2.2.2.2.2.2.2.2.2.2)) ∧ (t.1 = 0 ∨ t.1 = 1)) := by
  intro n
  induction n with
  | zero => intro v_c_pumped v_c_today v_c_lacked v_c_level v_c_water v_c_salt v_c_stack v_d_day v_d_water v_d_salt v_d_seen v_d_took v_d_dryDays v_d_firstDry v_d_total x1 x2 x3 x4 i _ _ _ _ _ _; exact pa_none
  | succ n ih =>
    intro v_c_pumped v_c_today v_c_lacked v_c_level v_c_water v_c_salt v_c_stack v_d_day v_d_water v_d_salt v_d_seen v_d_took v_d_dryDays v_d_firstDry v_d_total x1 x2 x3 x4 i h4 hi h2 h23 h3 hI
    show pa (f_X2_fits_N_b24_st (f_X2_fits_N_b24 v_e_fitting v_e_toldDay v_e_toldCell v_e_toldLevel v_g_cells v_g_passes v_g_rivers v_g_villages v_g_rains v_g_room v_g_passFrom v_g_passTo v_g_riverCell v_g_riverLevel v_g_riverSalt v_g_villageCell v_g_need v_g_lawEnd v_g_code v_p_pumpCell v_p_pumpTakes v_p_pumpFrom v_p_pumpTo v_p_wanting v_p_passWidth v_p_riverWidth v_p_rain n) v_e_fitting v_e_toldDay v_e_toldCell v_e_toldLevel v_g_cells v_g_passes v_g_rivers v_g_villages v_g_rains v_g_room v_g_passFrom v_g_passTo v_g_riverCell v_g_riverLevel v_g_riverSalt v_g_villageCell v_g_need v_g_lawEnd v_g_code v_p_pumpCell v_p_pumpTakes v_p_pumpFrom v_p_pumpTo v_p_wanting v_p_passWidth v_p_riverWidth v_p_rain v_c_pumped v_c_today v_c_lacked v_c_level v_c_water v_c_salt v_c_stack v_d_day v_d_water v_d_salt v_d_seen v_d_took v_d_dryDays v_d_firstDry v_d_total x1 x2 x3 x4) _
    unfold f_X2_fits_N_b24_st
    refine pa_if (fun z => ?_) (fun z => ?_)
    · have := ti_lt z
      omega
    have z2 := ti_nlt z
    have t1 := add_k (x := x4) (v := 1) (k := 1) rfl (by omega) (by omega)
    refine pa_bd (pa_T _) (fun o2 _ => pa_if (fun _ => pa_if (fun k => ?_) (fun k => ?_)) (fun _ => pa_some (Or.inl ⟨_, rfl, rfl⟩)))
    · unfold f_X2_keepLevels_N
      refine pa_bd (c_keepS hc hF hr ef) (fun pl' hpl => pa_mapS ?_)
      have eq_ : i = q := by rw [k] at h4; omega
      have kk : KEPT (cDay v_g_cells v_g_passes v_g_rivers v_g_villages v_g_rains v_g_room v_g_passFrom v_g_passTo v_g_riverCell v_g_riverLevel v_g_riverSalt v_g_villageCell v_g_need v_g_lawEnd v_g_code v_p_pumpCell v_p_pumpTakes v_p_pumpFrom v_p_pumpTo v_p_wanting v_p_passWidth v_p_riverWidth v_p_rain) gw q v_g_room v_g_cells.toInt F pl' := by
        rw [← eq_]
        exact ⟨s0, (v_c_pumped, v_c_today, v_c_lacked, v_c_level, v_c_water, v_c_salt, v_c_stack, v_d_day, v_d_water, v_d_salt, v_d_seen, v_d_took, v_d_dryDays, v_d_firstDry, v_d_total), hB, hI, hpl.1⟩
      have go : ∀ (m : Nat) (v_c_pumped : Int32) (v_c_today : Int32) (v_c_lacked : Nat → Int32) (v_c_level : Nat → Int32) (v_c_water : Nat → Int32) (v_c_salt : Nat → Int64) (v_c_stack : Nat → Int32) (v_d_day : Int32) (v_d_water : Nat → Int32) (v_d_salt : Nat → Int64) (v_d_seen : Nat → Int32) (v_d_took : Nat → Int32) (v_d_dryDays : Nat → Int32) (v_d_firstDry : Nat → Int32) (v_d_total : Nat → Int32) (v_pl_0 : Nat → Int32) (x1 : Int32) (x2 : Int32) (x3 : Int32) (x4 : Int32) (j : Nat), x4.toInt = (j : Int) → (j : Int) ≤ x3.toInt + 1 → x2.toInt = (q : Int) → x2.toInt ≤ x3.toInt → x3.toInt ≤ 500 → ((j : Int) ≤ x3.toInt → itN (cDay v_g_cells v_g_passes v_g_rivers v_g_villages v_g_rains v_g_room v_g_passFrom v_g_passTo v_g_riverCell v_g_riverLevel v_g_riverSalt v_g_villageCell v_g_need v_g_lawEnd v_g_code v_p_pumpCell v_p_pumpTakes v_p_pumpFrom v_p_pumpTo v_p_wanting v_p_passWidth v_p_riverWidth v_p_rain) j s0 = some (v_c_pumped, v_c_today, v_c_lacked, v_c_level, v_c_water, v_c_salt, v_c_stack, v_d_day, v_d_water, v_d_salt, v_d_seen, v_d_took, v_d_dryDays, v_d_firstDry, v_d_total)) → KEPT (cDay v_g_cells v_g_passes v_g_rivers v_g_villages v_g_rains v_g_room v_g_passFrom v_g_passTo v_g_riverCell v_g_riverLevel v_g_riverSalt v_g_villageCell v_g_need v_g_lawEnd v_g_code v_p_pumpCell v_p_pumpTakes v_p_pumpFrom v_p_pumpTo v_p_wanting v_p_passWidth v_p_riverWidth v_p_rain) gw q v_g_room v_g_cells.toInt F v_pl_0 → pa (f_X2_fits_S_b24 v_e_fitting v_e_toldDay v_e_toldCell v_e_toldLevel v_g_cells v_g_passes v_g_rivers v_g_villages v_g_rains v_g_room v_g_passFrom v_g_passTo v_g_riverCell v_g_riverLevel v_g_riverSalt v_g_villageCell v_g_need v_g_lawEnd v_g_code v_p_pumpCell v_p_pumpTakes v_p_pumpFrom v_p_pumpTo v_p_wanting v_p_passWidth v_p_riverWidth v_p_rain m v_c_pumped v_c_today v_c_lacked v_c_level v_c_water v_c_salt v_c_stack v_d_day v_d_water v_d_salt v_d_seen v_d_took v_d_dryDays v_d_firstDry v_d_total v_pl_0 x1 x2 x3 x4) (fun o => (o.1 = 1 → KEPT (cDay v_g_cells v_g_passes v_g_rivers v_g_villages v_g_rains v_g_room v_g_passFrom v_g_passTo v_g_riverCell v_g_riverLevel v_g_riverSalt v_g_villageCell v_g_need v_g_lawEnd v_g_code v_p_pumpCell v_p_pumpTakes v_p_pumpFrom v_p_pumpTo v_p_wanting v_p_passWidth v_p_riverWidth v_p_rain) gw q v_g_room v_g_cells.toInt F (o.2.2.2.2.2.2.2.2.2.2.2.2.2.2.2.2)) ∧ (o.1 = 0 ∨ o.1 = 1)) := fun m v_c_pumped v_c_today v_c_lacked v_c_level v_c_water v_c_salt v_c_stack v_d_day v_d_water v_d_salt v_d_seen v_d_took v_d_dryDays v_d_firstDry v_d_total v_pl_0 x1 x2 x3 x4 j a1 a2 a3 a4 a5 a6 a7 => pa_w (c_fk_S (pl0 := v_pl_0) hc hF hr ef hB m v_c_pumped v_c_today v_c_lacked v_c_level v_c_water v_c_salt v_c_stack v_d_day v_d_water v_d_salt v_d_seen v_d_took v_d_dryDays v_d_firstDry v_d_total v_pl_0 x1 x2 x3 x4 j a1 a2 a3 a4 a5 a6 ⟨fun _ _ => rfl, fun _ => a7⟩) (fun o ho => ho.2)
      refine pa_w (P := fun o => (o.1 = 1 → KEPT (cDay v_g_cells v_g_passes v_g_rivers v_g_villages v_g_rains v_g_room v_g_passFrom v_g_passTo v_g_riverCell v_g_riverLevel v_g_riverSalt v_g_villageCell v_g_need v_g_lawEnd v_g_code v_p_pumpCell v_p_pumpTakes v_p_pumpFrom v_p_pumpTo v_p_wanting v_p_passWidth v_p_riverWidth v_p_rain) gw q v_g_room v_g_cells.toInt F (o.2.2.2.2.2.2.2.2.2.2.2.2.2.2.2.2)) ∧ (o.1 = 0 ∨ o.1 = 1)) ?_ (fun o ho => Or.inr ⟨o, rfl, ho⟩)
      unfold f_X2_fits_S_b52
      refine pa_if (fun k3 => go fuel _ _ _ _ _ _ _ _ _ _ _ _ _ _ _ _ _ _ _ _ (i + 1) (by omega) (by omega) h2 h23 h3 (fun k2 => ?_) kk) (fun k3 => ?_)
      · have := ti_le k3
        omega
      · have k2 := ti_nle k3
        refine pa_be (fun o e => ?_)
        obtain ⟨b0, b1, b2, b3, b4, b5, b6, b7, b8, b9, b10, b11, b12, b13, b14⟩ := o
        exact go fuel _ _ _ _ _ _ _ _ _ _ _ _ _ _ _ _ _ _ _ _ (i + 1) (by omega) (by omega) h2 h23 h3 (fun _ => itN_s hI e) kk
    · have ne : ¬ i = q := fun e => k (Int32.toInt_inj.mp (by omega))
      unfold f_X2_fits_N_b52
      refine pa_if (fun k3 => ?_) (fun k3 => ?_)
      · have := ti_le k3
        omega
      · refine pa_be (fun o e => ?_)
        obtain ⟨b0, b1, b2, b3, b4, b5, b6, b7, b8, b9, b10, b11, b12, b13, b14⟩ := o
        exact ih _ _ _ _ _ _ _ _ _ _ _ _ _ _ _ _ _ _ _ (i + 1) (by omega) (by omega) h2 h23 h3 (itN_s hI e)
theorem c_oday {v_g_cells : Int32} {v_g_passes : Int32} {v_g_rivers : Int32} {v_g_villages : Int32} {v_g_rains : Int32} {v_g_room : Nat → Int32} {v_g_passFrom : Nat → Int32} {v_g_passTo : Nat → Int32} {v_g_riverCell : Nat → Int32} {v_g_riverLevel : Nat → Int32} {v_g_riverSalt : Nat → Int32} {v_g_villageCell : Nat → Int32} {v_g_need : Nat → Int32} {v_g_lawEnd : Nat → Int32} {v_g_code : Nat → Int32} {v_p_pumpCell : Int32} {v_p_pumpTakes : Int32} {v_p_pumpFrom : Int32} {v_p_pumpTo : Int32} {v_p_wanting : Nat → Int32} {v_p_passWidth : Nat → Int32} {v_p_riverWidth : Nat → Int32} {v_p_rain : Nat → Int32} {v_c_pumped : Int32} {v_c_today : Int32} {v_c_lacked : Nat → Int32} {v_c_level : Nat → Int32} {v_c_water : Nat → Int32} {v_c_salt : Nat → Int64} {v_c_stack : Nat → Int32} {v_d_day : Int32} {v_d_water : Nat → Int32} {v_d_salt : Nat → Int64} {v_d_seen : Nat → Int32} {v_d_took : Nat → Int32} {v_d_dryDays : Nat → Int32} {v_d_firstDry : Nat → Int32} {v_d_total : Nat → Int32} : pa (f_X0_oneDay v_g_cells v_g_passes v_g_rivers v_g_villages v_g_rains v_g_room v_g_passFrom v_g_passTo v_g_riverCell v_g_riverLevel v_g_riverSalt v_g_villageCell v_g_need v_g_lawEnd v_g_code v_p_pumpCell v_p_pumpTakes v_p_pumpFrom v_p_pumpTo v_p_wanting v_p_passWidth v_p_riverWidth v_p_rain v_c_pumped v_c_today v_c_lacked v_c_level v_c_water v_c_salt v_c_stack v_d_day v_d_water v_d_salt v_d_seen v_d_took v_d_dryDays v_d_firstDry v_d_total) (fun o => o.2.2.2.2.2.2.2.1 = v_d_day + 1) := by
  unfold f_X0_oneDay
  exact pa_bd3 (pa_T _) (fun _ _ _ _ => pa_bd8 (pa_T _) (fun _ _ _ _ _ _ _ _ _ => pa_bd3 (pa_T _) (fun _ _ _ _ => pa_bd3 (pa_T _) (fun _ _ _ _ => c_od22 fuel _ _ _ _ _ _ _ _ _ _ _ _ _ _ _ _))))
set_option maxHeartbeats 4000000 in
theorem c_24k_S {v_e_fitting : Int32} {v_e_toldDay : Nat → Int32} {v_e_toldCell : Nat → Int32} {v_e_toldLevel : Nat → Int32} {v_g_cells : Int32} {v_g_passes : Int32} {v_g_rivers : Int32} {v_g_villages : Int32} {v_g_rains : Int32} {v_g_room : Nat → Int32} {v_g_passFrom : Nat → Int32} {v_g_passTo : Nat → Int32} {v_g_riverCell : Nat → Int32} {v_g_riverLevel : Nat → Int32} {v_g_riverSalt : Nat → Int32} {v_g_villageCell : Nat → Int32} {v_g_need : Nat → Int32} {v_g_lawEnd : Nat → Int32} {v_g_code : Nat → Int32} {v_p_pumpCell : Int32} {v_p_pumpTakes : Int32} {v_p_pumpFrom : Int32} {v_p_pumpTo : Int32} {v_p_wanting : Nat → Int32} {v_p_passWidth : Nat → Int32} {v_p_riverWidth : Nat → Int32} {v_p_rain : Nat → Int32} : ∀ (n : Nat) (v_c_pumped : Int32) (v_c_today : Int32) (v_c_lacked : Nat → Int32) (v_c_level : Nat → Int32) (v_c_water : Nat → Int32) (v_c_salt : Nat → Int64) (v_c_stack : Nat → Int32) (v_d_day : Int32) (v_d_water : Nat → Int32) (v_d_salt : Nat → Int64) (v_d_seen : Nat → Int32) (v_d_took : Nat → Int32) (v_d_dryDays : Nat → Int32) (v_d_firstDry : Nat → Int32) (v_d_total : Nat → Int32) (v_pl_0 : Nat → Int32) (x1 : Int32) (x2 : Int32) (x3 : Int32) (x4 : Int32), 0 ≤ x1.toInt ∧ x1.toInt ≤ 20 → (∀ i : Nat, (i : Int) < x1.toInt → 1 ≤ (v_g_room (v_e_toldCell i).toNatClampNeg).toInt) → v_d_day = x4 → 0 ≤ x4.toInt → x4.toInt ≤ 1000 → x3.toInt ≤ 500 → (∀ i : Nat, (i : Int) < x1.toInt → (v_e_toldDay i).toInt < x4.toInt) → pa (f_X2_fits_S_b24 v_e_fitting v_e_toldDay v_e_toldCell v_e_toldLevel v_g_cells v_g_passes v_g_rivers v_g_villages v_g_rains v_g_room v_g_passFrom v_g_passTo v_g_riverCell v_g_riverLevel v_g_riverSalt v_g_villageCell v_g_need v_g_lawEnd v_g_code v_p_pumpCell v_p_pumpTakes v_p_pumpFrom v_p_pumpTo v_p_wanting v_p_passWidth v_p_riverWidth v_p_rain n v_c_pumped v_c_today v_c_lacked v_c_level v_c_water v_c_salt v_c_stack v_d_day v_d_water v_d_salt v_d_seen v_d_took v_d_dryDays v_d_firstDry v_d_total v_pl_0 x1 x2 x3 x4) (fun a => a.1 = 1) := by
  intro n
  induction n with
  | zero => intro v_c_pumped v_c_today v_c_lacked v_c_level v_c_water v_c_salt v_c_stack v_d_day v_d_water v_d_salt v_d_seen v_d_took v_d_dryDays v_d_firstDry v_d_total v_pl_0 x1 x2 x3 x4 _ _ _ _ _ _ _; exact pa_none
  | succ n ih =>
    intro v_c_pumped v_c_today v_c_lacked v_c_level v_c_water v_c_salt v_c_stack v_d_day v_d_water v_d_salt v_d_seen v_d_took v_d_dryDays v_d_firstDry v_d_total v_pl_0 x1 x2 x3 x4 hK1 hro hd h4 h5 h3 hT
    show pa (f_X2_fits_S_b24_st (f_X2_fits_S_b24 v_e_fitting v_e_toldDay v_e_toldCell v_e_toldLevel v_g_cells v_g_passes v_g_rivers v_g_villages v_g_rains v_g_room v_g_passFrom v_g_passTo v_g_riverCell v_g_riverLevel v_g_riverSalt v_g_villageCell v_g_need v_g_lawEnd v_g_code v_p_pumpCell v_p_pumpTakes v_p_pumpFrom v_p_pumpTo v_p_wanting v_p_passWidth v_p_riverWidth v_p_rain n) v_e_fitting v_e_toldDay v_e_toldCell v_e_toldLevel v_g_cells v_g_passes v_g_rivers v_g_villages v_g_rains v_g_room v_g_passFrom v_g_passTo v_g_riverCell v_g_riverLevel v_g_riverSalt v_g_villageCell v_g_need v_g_lawEnd v_g_code v_p_pumpCell v_p_pumpTakes v_p_pumpFrom v_p_pumpTo v_p_wanting v_p_passWidth v_p_riverWidth v_p_rain v_c_pumped v_c_today v_c_lacked v_c_level v_c_water v_c_salt v_c_stack v_d_day v_d_water v_d_salt v_d_seen v_d_took v_d_dryDays v_d_firstDry v_d_total v_pl_0 x1 x2 x3 x4) _
    unfold f_X2_fits_S_b24_st
    refine pa_if (fun _ => pa_some rfl) (fun z => ?_)
    have g := ti_nlt z
    have t1 := add_k (x := x4) (v := 1) (k := 1) rfl (by omega) (by omega)
    have ho : pa (f_X2_offToday v_e_toldDay v_e_toldCell v_e_toldLevel v_g_room v_d_day v_d_water x1) (OFT x1 (MIS v_e_toldDay v_e_toldCell v_e_toldLevel v_g_room v_d_water v_d_day)) := by
      unfold f_X2_offToday
      exact c_off fuel x1 0 (by decide) (by show (0 : Int) ≤ _; exact hK1.1) hK1.2 hro (fun i hi => absurd hi (by show ¬ (i : Int) < 0; omega))
    have tail : ∀ pl' : Nat → Int32, pa (f_X2_fits_S_b52 (f_X2_fits_S_b24 v_e_fitting v_e_toldDay v_e_toldCell v_e_toldLevel v_g_cells v_g_passes v_g_rivers v_g_villages v_g_rains v_g_room v_g_passFrom v_g_passTo v_g_riverCell v_g_riverLevel v_g_riverSalt v_g_villageCell v_g_need v_g_lawEnd v_g_code v_p_pumpCell v_p_pumpTakes v_p_pumpFrom v_p_pumpTo v_p_wanting v_p_passWidth v_p_riverWidth v_p_rain n) v_e_fitting v_e_toldDay v_e_toldCell v_e_toldLevel v_g_cells v_g_passes v_g_rivers v_g_villages v_g_rains v_g_room v_g_passFrom v_g_passTo v_g_riverCell v_g_riverLevel v_g_riverSalt v_g_villageCell v_g_need v_g_lawEnd v_g_code v_p_pumpCell v_p_pumpTakes v_p_pumpFrom v_p_pumpTo v_p_wanting v_p_passWidth v_p_riverWidth v_p_rain v_c_pumped v_c_today v_c_lacked v_c_level v_c_water v_c_salt v_c_stack v_d_day v_d_water v_d_salt v_d_seen v_d_took v_d_dryDays v_d_firstDry v_d_total pl' x1 x2 x3 x4) (fun a => a.1 = 1) := by
      intro pl'
      unfold f_X2_fits_S_b52
      refine pa_if (fun k => pa_w (c_24e_S n _ _ _ _ _ _ _ _ _ _ _ _ _ _ _ _ _ _ _ _ (by have := ti_le k; omega)) (fun o ho => ho)) (fun _ => pa_bd15 c_oday (fun a0 a1 a2 a3 a4 a5 a6 a7 a8 a9 a10 a11 a12 a13 a14 ha => ?_))
      have ha : a7 = v_d_day + 1 := ha
      exact ih _ _ _ _ _ _ _ _ _ _ _ _ _ _ _ _ _ _ _ _ hK1 hro (by rw [ha, hd]) (by omega) (by omega) h3 (fun i hi => by have := hT i hi; omega)
    refine pa_bd ho (fun o2 ho2 => ?_)
    have e2 : o2 = -2 := by
      rcases ho2 with ⟨e, _⟩ | ⟨o0, o1, om, _⟩
      · exact e
      · have eo : (o2.toNatClampNeg : Int) = o2.toInt := cl_k o0
        have h := hT o2.toNatClampNeg (by omega)
        have om1 : v_e_toldDay o2.toNatClampNeg = v_d_day := om.1
        rw [om1, hd] at h
        omega
    exact pa_if (fun _ => pa_if (fun _ => pa_bd (pa_T _) (fun pl' _ => tail pl')) (fun _ => tail _)) (fun k => absurd e2 k)
set_option maxHeartbeats 4000000 in
theorem c_24k_N {v_e_fitting : Int32} {v_e_toldDay : Nat → Int32} {v_e_toldCell : Nat → Int32} {v_e_toldLevel : Nat → Int32} {v_g_cells : Int32} {v_g_passes : Int32} {v_g_rivers : Int32} {v_g_villages : Int32} {v_g_rains : Int32} {v_g_room : Nat → Int32} {v_g_passFrom : Nat → Int32} {v_g_passTo : Nat → Int32} {v_g_riverCell : Nat → Int32} {v_g_riverLevel : Nat → Int32} {v_g_riverSalt : Nat → Int32} {v_g_villageCell : Nat → Int32} {v_g_need : Nat → Int32} {v_g_lawEnd : Nat → Int32} {v_g_code : Nat → Int32} {v_p_pumpCell : Int32} {v_p_pumpTakes : Int32} {v_p_pumpFrom : Int32} {v_p_pumpTo : Int32} {v_p_wanting : Nat → Int32} {v_p_passWidth : Nat → Int32} {v_p_riverWidth : Nat → Int32} {v_p_rain : Nat → Int32} : ∀ (n : Nat) (v_c_pumped : Int32) (v_c_today : Int32) (v_c_lacked : Nat → Int32) (v_c_level : Nat → Int32) (v_c_water : Nat → Int32) (v_c_salt : Nat → Int64) (v_c_stack : Nat → Int32) (v_d_day : Int32) (v_d_water : Nat → Int32) (v_d_salt : Nat → Int64) (v_d_seen : Nat → Int32) (v_d_took : Nat → Int32) (v_d_dryDays : Nat → Int32) (v_d_firstDry : Nat → Int32) (v_d_total : Nat → Int32) (x1 : Int32) (x2 : Int32) (x3 : Int32) (x4 : Int32), 0 ≤ x1.toInt ∧ x1.toInt ≤ 20 → (∀ i : Nat, (i : Int) < x1.toInt → 1 ≤ (v_g_room (v_e_toldCell i).toNatClampNeg).toInt) → v_d_day = x4 → 0 ≤ x4.toInt → x4.toInt ≤ 1000 → x3.toInt ≤ 500 → (∀ i : Nat, (i : Int) < x1.toInt → (v_e_toldDay i).toInt < x4.toInt) → pa (f_X2_fits_N_b24 v_e_fitting v_e_toldDay v_e_toldCell v_e_toldLevel v_g_cells v_g_passes v_g_rivers v_g_villages v_g_rains v_g_room v_g_passFrom v_g_passTo v_g_riverCell v_g_riverLevel v_g_riverSalt v_g_villageCell v_g_need v_g_lawEnd v_g_code v_p_pumpCell v_p_pumpTakes v_p_pumpFrom v_p_pumpTo v_p_wanting v_p_passWidth v_p_riverWidth v_p_rain n v_c_pumped v_c_today v_c_lacked v_c_level v_c_water v_c_salt v_c_stack v_d_day v_d_water v_d_salt v_d_seen v_d_took v_d_dryDays v_d_firstDry v_d_total x1 x2 x3 x4) (fun a => (∃ t, a = .inl t ∧ t.1 = 1) ∨ ∃ t, a = .inr t ∧ t.1 = 1) := by
  intro n
  induction n with
  | zero => intro v_c_pumped v_c_today v_c_lacked v_c_level v_c_water v_c_salt v_c_stack v_d_day v_d_water v_d_salt v_d_seen v_d_took v_d_dryDays v_d_firstDry v_d_total x1 x2 x3 x4 _ _ _ _ _ _ _; exact pa_none
  | succ n ih =>
    intro v_c_pumped v_c_today v_c_lacked v_c_level v_c_water v_c_salt v_c_stack v_d_day v_d_water v_d_salt v_d_seen v_d_took v_d_dryDays v_d_firstDry v_d_total x1 x2 x3 x4 hK1 hro hd h4 h5 h3 hT
    show pa (f_X2_fits_N_b24_st (f_X2_fits_N_b24 v_e_fitting v_e_toldDay v_e_toldCell v_e_toldLevel v_g_cells v_g_passes v_g_rivers v_g_villages v_g_rains v_g_room v_g_passFrom v_g_passTo v_g_riverCell v_g_riverLevel v_g_riverSalt v_g_villageCell v_g_need v_g_lawEnd v_g_code v_p_pumpCell v_p_pumpTakes v_p_pumpFrom v_p_pumpTo v_p_wanting v_p_passWidth v_p_riverWidth v_p_rain n) v_e_fitting v_e_toldDay v_e_toldCell v_e_toldLevel v_g_cells v_g_passes v_g_rivers v_g_villages v_g_rains v_g_room v_g_passFrom v_g_passTo v_g_riverCell v_g_riverLevel v_g_riverSalt v_g_villageCell v_g_need v_g_lawEnd v_g_code v_p_pumpCell v_p_pumpTakes v_p_pumpFrom v_p_pumpTo v_p_wanting v_p_passWidth v_p_riverWidth v_p_rain v_c_pumped v_c_today v_c_lacked v_c_level v_c_water v_c_salt v_c_stack v_d_day v_d_water v_d_salt v_d_seen v_d_took v_d_dryDays v_d_firstDry v_d_total x1 x2 x3 x4) _
    unfold f_X2_fits_N_b24_st
    refine pa_if (fun _ => pa_some (Or.inl ⟨_, rfl, rfl⟩)) (fun z => ?_)
    have g := ti_nlt z
    have t1 := add_k (x := x4) (v := 1) (k := 1) rfl (by omega) (by omega)
    have ho : pa (f_X2_offToday v_e_toldDay v_e_toldCell v_e_toldLevel v_g_room v_d_day v_d_water x1) (OFT x1 (MIS v_e_toldDay v_e_toldCell v_e_toldLevel v_g_room v_d_water v_d_day)) := by
      unfold f_X2_offToday
      exact c_off fuel x1 0 (by decide) (by show (0 : Int) ≤ _; exact hK1.1) hK1.2 hro (fun i hi => absurd hi (by show ¬ (i : Int) < 0; omega))
    refine pa_bd ho (fun o2 ho2 => ?_)
    have e2 : o2 = -2 := by
      rcases ho2 with ⟨e, _⟩ | ⟨o0, o1, om, _⟩
      · exact e
      · have eo : (o2.toNatClampNeg : Int) = o2.toInt := cl_k o0
        have h := hT o2.toNatClampNeg (by omega)
        have om1 : v_e_toldDay o2.toNatClampNeg = v_d_day := om.1
        rw [om1, hd] at h
        omega
    refine pa_if (fun _ => pa_if (fun _ => pa_bd (pa_T _) (fun pl' _ => pa_mapS ?_)) (fun _ => ?_)) (fun k => absurd e2 k)
    · refine pa_w (P := fun a => a.1 = 1) ?_ (fun o ho => Or.inr ⟨o, rfl, ho⟩)
      unfold f_X2_fits_S_b52
      refine pa_if (fun k => c_24e_S fuel _ _ _ _ _ _ _ _ _ _ _ _ _ _ _ _ _ _ _ _ (by have := ti_le k; omega)) (fun _ => pa_bd15 c_oday (fun a0 a1 a2 a3 a4 a5 a6 a7 a8 a9 a10 a11 a12 a13 a14 ha => ?_))
      have ha : a7 = v_d_day + 1 := ha
      exact c_24k_S fuel _ _ _ _ _ _ _ _ _ _ _ _ _ _ _ _ _ _ _ _ hK1 hro (by rw [ha, hd]) (by omega) (by omega) h3 (fun i hi => by have := hT i hi; omega)
    · unfold f_X2_fits_N_b52
      refine pa_if (fun k => pa_w (c_24e_N n _ _ _ _ _ _ _ _ _ _ _ _ _ _ _ _ _ _ _ (by have := ti_le k; omega)) (fun o ho => Or.inl ho)) (fun _ => pa_bd15 c_oday (fun a0 a1 a2 a3 a4 a5 a6 a7 a8 a9 a10 a11 a12 a13 a14 ha => ?_))
      have ha : a7 = v_d_day + 1 := ha
      exact ih _ _ _ _ _ _ _ _ _ _ _ _ _ _ _ _ _ _ _ hK1 hro (by rw [ha, hd]) (by omega) (by omega) h3 (fun i hi => by have := hT i hi; omega)
