/-! what a pump does to a day -/
theorem bd_go {α β : Type} {x : Option α} {k : α → Option β} {a : α} {r : Option β} (h : x = some a) (g : k a = r) : bd x k = r := by rw [h]; exact g
theorem bd_s {α β : Type} {a : α} {k : α → Option β} : bd (some a) k = k a := rfl
theorem itN_cg {α : Type} {f g : α → Option α} {s : α} : ∀ n : Nat, (∀ j, j < n → ∀ t, itN f j s = some t → f t = g t) → itN f n s = itN g n s := by
  intro n
  induction n with
  | zero => intro _; rfl
  | succ n ih =>
    intro h
    have e := ih (fun j hj => h j (by omega))
    show bd (itN f n s) f = bd (itN g n s) g
    rw [← e]
    cases q : itN f n s with
    | none => rfl
    | some t => exact h n (by omega) t q
theorem itN_ex {α : Type} {f : α → Option α} (h : ∀ s, ∃ t, f s = some t) : ∀ (n : Nat) (s : α), ∃ t, itN f n s = some t := by
  intro n
  induction n with
  | zero => intro s; exact ⟨s, rfl⟩
  | succ n ih =>
    intro s
    obtain ⟨t, ht⟩ := ih s
    obtain ⟨u, hu⟩ := h t
    exact ⟨u, itN_s ht hu⟩
theorem itN_rel {α : Type} {f g : α → Option α} {R : α → α → Prop} {s s2 : α} (hR : R s s2) : ∀ n : Nat, (∀ j, j < n → ∀ t t2 u, itN f j s = some t → itN g j s2 = some t2 → R t t2 → f t = some u → ∃ u2, g t2 = some u2 ∧ R u u2) → ∀ t, itN f n s = some t → ∃ t2, itN g n s2 = some t2 ∧ R t t2 := by
  intro n
  induction n with
  | zero => intro _ t h; exact ⟨s2, rfl, by rw [← Option.some.inj (show some s = some t from h)]; exact hR⟩
  | succ n ih =>
    intro h t e
    obtain ⟨u, hu, e2⟩ := bd_some (show bd (itN f n s) f = some t from e)
    obtain ⟨u2, hu2, r⟩ := ih (fun j hj => h j (by omega)) u hu
    obtain ⟨t2, ht2, r2⟩ := h n (by omega) u u2 t hu hu2 r e2
    exact ⟨t2, itN_s hu2 ht2, r2⟩
theorem itN_add {α : Type} {f : α → Option α} {s t : α} {m : Nat} (h : itN f m s = some t) : ∀ n : Nat, itN f (m + n) s = itN f n t := by
  intro n
  induction n with
  | zero => exact h
  | succ n ih =>
    show bd (itN f (m + n) s) f = bd (itN f n t) f
    rw [ih]
theorem c_pm107 {v_g_rivers : Int32} {v_g_riverCell v_g_riverLevel v_g_riverSalt v_p_riverWidth : Nat → Int32} : ∀ (n : Nat) (v_c_pumped : Int32) (v_c_today : Int32) (v_c_lacked v_c_level v_c_water : Nat → Int32) (v_c_salt : Nat → Int64) (v_c_stack : Nat → Int32) (v_d_day : Int32) (v_d_water : Nat → Int32) (v_d_salt : Nat → Int64) (v_d_seen v_d_took v_d_dryDays v_d_firstDry v_d_total : Nat → Int32) (x2 : Int32), pa (f_X0_oneDay_b107 v_g_rivers v_g_riverCell v_g_riverLevel v_g_riverSalt v_p_riverWidth n v_c_pumped v_c_today v_c_lacked v_c_level v_c_water v_c_salt v_c_stack v_d_day v_d_water v_d_salt v_d_seen v_d_took v_d_dryDays v_d_firstDry v_d_total x2) (fun o => o.1 = v_c_pumped) := by
  intro n
  induction n with
  | zero => intro _ _ _ _ _ _ _ _ _ _ _ _ _ _ _ _; exact pa_none
  | succ n ih =>
    intro v_c_pumped v_c_today v_c_lacked v_c_level v_c_water v_c_salt v_c_stack v_d_day v_d_water v_d_salt v_d_seen v_d_took v_d_dryDays v_d_firstDry v_d_total x2
    show pa (f_X0_oneDay_b107_st (f_X0_oneDay_b107 v_g_rivers v_g_riverCell v_g_riverLevel v_g_riverSalt v_p_riverWidth n) v_g_rivers v_g_riverCell v_g_riverLevel v_g_riverSalt v_p_riverWidth v_c_pumped v_c_today v_c_lacked v_c_level v_c_water v_c_salt v_c_stack v_d_day v_d_water v_d_salt v_d_seen v_d_took v_d_dryDays v_d_firstDry v_d_total x2) _
    unfold f_X0_oneDay_b107_st
    exact pa_if (fun _ => pa_some rfl) (fun _ => pa_bd2 (pa_T _) (fun _ _ _ => ih _ _ _ _ _ _ _ _ _ _ _ _ _ _ _ _))
theorem c_pm22 {v_g_passes v_g_rivers : Int32} {v_g_passFrom v_g_passTo v_g_riverCell v_g_riverLevel v_g_riverSalt v_p_passWidth v_p_riverWidth : Nat → Int32} : ∀ (n : Nat) (v_c_pumped : Int32) (v_c_today : Int32) (v_c_lacked v_c_level v_c_water : Nat → Int32) (v_c_salt : Nat → Int64) (v_c_stack : Nat → Int32) (v_d_day : Int32) (v_d_water : Nat → Int32) (v_d_salt : Nat → Int64) (v_d_seen v_d_took v_d_dryDays v_d_firstDry v_d_total : Nat → Int32) (x2 : Int32), pa (f_X0_oneDay_b22 v_g_passes v_g_rivers v_g_passFrom v_g_passTo v_g_riverCell v_g_riverLevel v_g_riverSalt v_p_passWidth v_p_riverWidth n v_c_pumped v_c_today v_c_lacked v_c_level v_c_water v_c_salt v_c_stack v_d_day v_d_water v_d_salt v_d_seen v_d_took v_d_dryDays v_d_firstDry v_d_total x2) (fun o => o.1 = v_c_pumped) := by
  intro n
  induction n with
  | zero => intro _ _ _ _ _ _ _ _ _ _ _ _ _ _ _ _; exact pa_none
  | succ n ih =>
    intro v_c_pumped v_c_today v_c_lacked v_c_level v_c_water v_c_salt v_c_stack v_d_day v_d_water v_d_salt v_d_seen v_d_took v_d_dryDays v_d_firstDry v_d_total x2
    show pa (f_X0_oneDay_b22_st (f_X0_oneDay_b22 v_g_passes v_g_rivers v_g_passFrom v_g_passTo v_g_riverCell v_g_riverLevel v_g_riverSalt v_p_passWidth v_p_riverWidth n) v_g_passes v_g_rivers v_g_passFrom v_g_passTo v_g_riverCell v_g_riverLevel v_g_riverSalt v_p_passWidth v_p_riverWidth v_c_pumped v_c_today v_c_lacked v_c_level v_c_water v_c_salt v_c_stack v_d_day v_d_water v_d_salt v_d_seen v_d_took v_d_dryDays v_d_firstDry v_d_total x2) _
    unfold f_X0_oneDay_b22_st
    exact pa_if (fun _ => c_pm107 _ _ _ _ _ _ _ _ _ _ _ _ _ _ _ _ _) (fun _ => pa_bd (pa_T _) (fun _ _ => pa_if (fun _ => pa_if (fun _ => ih _ _ _ _ _ _ _ _ _ _ _ _ _ _ _ _) (fun _ => pa_ck (fun _ => pa_ck (fun _ => pa_bd2 (pa_T _) (fun _ _ _ => ih _ _ _ _ _ _ _ _ _ _ _ _ _ _ _ _))))) (fun _ => pa_ck (fun _ => pa_ck (fun _ => pa_bd2 (pa_T _) (fun _ _ _ => ih _ _ _ _ _ _ _ _ _ _ _ _ _ _ _ _))))))
theorem c_ig107 {v_g_rivers : Int32} {v_g_riverCell v_g_riverLevel v_g_riverSalt v_p_riverWidth : Nat → Int32} : ∀ (n : Nat) (cp cq : Int32) (v_c_today : Int32) (v_c_lacked v_c_level v_c_water : Nat → Int32) (v_c_salt : Nat → Int64) (v_c_stack : Nat → Int32) (v_d_day : Int32) (v_d_water : Nat → Int32) (v_d_salt : Nat → Int64) (v_d_seen v_d_took v_d_dryDays v_d_firstDry v_d_total : Nat → Int32) (x2 : Int32), pa (f_X0_oneDay_b107 v_g_rivers v_g_riverCell v_g_riverLevel v_g_riverSalt v_p_riverWidth n cp v_c_today v_c_lacked v_c_level v_c_water v_c_salt v_c_stack v_d_day v_d_water v_d_salt v_d_seen v_d_took v_d_dryDays v_d_firstDry v_d_total x2) (fun t => f_X0_oneDay_b107 v_g_rivers v_g_riverCell v_g_riverLevel v_g_riverSalt v_p_riverWidth n cq v_c_today v_c_lacked v_c_level v_c_water v_c_salt v_c_stack v_d_day v_d_water v_d_salt v_d_seen v_d_took v_d_dryDays v_d_firstDry v_d_total x2 = some (cq, t.2)) := by
  intro n
  induction n with
  | zero => intro _ _ _ _ _ _ _ _ _ _ _ _ _ _ _ _ _; exact pa_none
  | succ n ih =>
    intro cp cq v_c_today v_c_lacked v_c_level v_c_water v_c_salt v_c_stack v_d_day v_d_water v_d_salt v_d_seen v_d_took v_d_dryDays v_d_firstDry v_d_total x2
    show pa (f_X0_oneDay_b107_st (f_X0_oneDay_b107 v_g_rivers v_g_riverCell v_g_riverLevel v_g_riverSalt v_p_riverWidth n) v_g_rivers v_g_riverCell v_g_riverLevel v_g_riverSalt v_p_riverWidth cp v_c_today v_c_lacked v_c_level v_c_water v_c_salt v_c_stack v_d_day v_d_water v_d_salt v_d_seen v_d_took v_d_dryDays v_d_firstDry v_d_total x2) (fun t => f_X0_oneDay_b107_st (f_X0_oneDay_b107 v_g_rivers v_g_riverCell v_g_riverLevel v_g_riverSalt v_p_riverWidth n) v_g_rivers v_g_riverCell v_g_riverLevel v_g_riverSalt v_p_riverWidth cq v_c_today v_c_lacked v_c_level v_c_water v_c_salt v_c_stack v_d_day v_d_water v_d_salt v_d_seen v_d_took v_d_dryDays v_d_firstDry v_d_total x2 = some (cq, t.2))
    unfold f_X0_oneDay_b107_st
    refine pa_if (fun k => ?_) (fun k => ?_)
    · rw [if_pos k]; exact pa_some rfl
    · rw [if_neg k]
      refine pa_be (fun q hq => ?_)
      rw [hq, bd_s]
      exact ih _ _ _ _ _ _ _ _ _ _ _ _ _ _ _ _ _
theorem c_ig22 {v_g_passes v_g_rivers : Int32} {v_g_passFrom v_g_passTo v_g_riverCell v_g_riverLevel v_g_riverSalt v_p_passWidth v_p_riverWidth : Nat → Int32} : ∀ (n : Nat) (cp cq : Int32) (v_c_today : Int32) (v_c_lacked v_c_level v_c_water : Nat → Int32) (v_c_salt : Nat → Int64) (v_c_stack : Nat → Int32) (v_d_day : Int32) (v_d_water : Nat → Int32) (v_d_salt : Nat → Int64) (v_d_seen v_d_took v_d_dryDays v_d_firstDry v_d_total : Nat → Int32) (x2 : Int32), pa (f_X0_oneDay_b22 v_g_passes v_g_rivers v_g_passFrom v_g_passTo v_g_riverCell v_g_riverLevel v_g_riverSalt v_p_passWidth v_p_riverWidth n cp v_c_today v_c_lacked v_c_level v_c_water v_c_salt v_c_stack v_d_day v_d_water v_d_salt v_d_seen v_d_took v_d_dryDays v_d_firstDry v_d_total x2) (fun t => f_X0_oneDay_b22 v_g_passes v_g_rivers v_g_passFrom v_g_passTo v_g_riverCell v_g_riverLevel v_g_riverSalt v_p_passWidth v_p_riverWidth n cq v_c_today v_c_lacked v_c_level v_c_water v_c_salt v_c_stack v_d_day v_d_water v_d_salt v_d_seen v_d_took v_d_dryDays v_d_firstDry v_d_total x2 = some (cq, t.2)) := by
  intro n
  induction n with
  | zero => intro _ _ _ _ _ _ _ _ _ _ _ _ _ _ _ _ _; exact pa_none
  | succ n ih =>
    intro cp cq v_c_today v_c_lacked v_c_level v_c_water v_c_salt v_c_stack v_d_day v_d_water v_d_salt v_d_seen v_d_took v_d_dryDays v_d_firstDry v_d_total x2
    show pa (f_X0_oneDay_b22_st (f_X0_oneDay_b22 v_g_passes v_g_rivers v_g_passFrom v_g_passTo v_g_riverCell v_g_riverLevel v_g_riverSalt v_p_passWidth v_p_riverWidth n) v_g_passes v_g_rivers v_g_passFrom v_g_passTo v_g_riverCell v_g_riverLevel v_g_riverSalt v_p_passWidth v_p_riverWidth cp v_c_today v_c_lacked v_c_level v_c_water v_c_salt v_c_stack v_d_day v_d_water v_d_salt v_d_seen v_d_took v_d_dryDays v_d_firstDry v_d_total x2) (fun t => f_X0_oneDay_b22_st (f_X0_oneDay_b22 v_g_passes v_g_rivers v_g_passFrom v_g_passTo v_g_riverCell v_g_riverLevel v_g_riverSalt v_p_passWidth v_p_riverWidth n) v_g_passes v_g_rivers v_g_passFrom v_g_passTo v_g_riverCell v_g_riverLevel v_g_riverSalt v_p_passWidth v_p_riverWidth cq v_c_today v_c_lacked v_c_level v_c_water v_c_salt v_c_stack v_d_day v_d_water v_d_salt v_d_seen v_d_took v_d_dryDays v_d_firstDry v_d_total x2 = some (cq, t.2))
    unfold f_X0_oneDay_b22_st
    refine pa_if (fun k => ?_) (fun k => ?_)
    · rw [if_pos k]; exact c_ig107 _ _ _ _ _ _ _ _ _ _ _ _ _ _ _ _ _ _
    · rw [if_neg k]
      refine pa_be (fun q hq => ?_)
      rw [hq, bd_s]
      refine pa_if (fun k2 => ?_) (fun k2 => ?_)
      · rw [if_pos k2]
        refine pa_if (fun k3 => ?_) (fun k3 => ?_)
        · rw [if_pos k3]; exact ih _ _ _ _ _ _ _ _ _ _ _ _ _ _ _ _ _
        · rw [if_neg k3]
          refine pa_ck (fun k4 => ?_)
          rw [k4]
          refine pa_ck (fun k5 => ?_)
          refine pa_be (fun q2 hq2 => ?_)
          rw [hq2, bd_s]
          exact ih _ _ _ _ _ _ _ _ _ _ _ _ _ _ _ _ _
      · rw [if_neg k2]
        refine pa_ck (fun k4 => ?_)
        rw [k4]
        refine pa_ck (fun k5 => ?_)
        refine pa_be (fun q2 hq2 => ?_)
        rw [hq2, bd_s]
        exact ih _ _ _ _ _ _ _ _ _ _ _ _ _ _ _ _ _
theorem pon_01 {pc pf pt d : Int32} : f_X4_pumpsOn pc pf pt d = some 0 ∨ f_X4_pumpsOn pc pf pt d = some 1 := by
  unfold f_X4_pumpsOn
  by_cases a : pc = -1
  · exact Or.inl (if_pos a)
  · rw [if_neg a]
    by_cases b : d < pf
    · exact Or.inl (if_pos b)
    · rw [if_neg b]
      by_cases c : pt < d
      · exact Or.inl (if_pos c)
      · exact Or.inr (if_neg c)
theorem pon_none {pf pt d : Int32} : f_X4_pumpsOn (-1) pf pt d = some 0 := by
  unfold f_X4_pumpsOn
  exact if_pos rfl
theorem pon_lo {pc pf pt d : Int32} (h : d.toInt < pf.toInt) : f_X4_pumpsOn pc pf pt d = some 0 := by
  unfold f_X4_pumpsOn
  by_cases a : pc = -1
  · exact if_pos a
  · rw [if_neg a]
    exact if_pos (Int32.lt_iff_toInt_lt.mpr h)
theorem pon_hi {pc pf pt d : Int32} (h : pt.toInt < d.toInt) : f_X4_pumpsOn pc pf pt d = some 0 := by
  unfold f_X4_pumpsOn
  by_cases a : pc = -1
  · exact if_pos a
  · rw [if_neg a]
    by_cases b : d < pf
    · exact if_pos b
    · rw [if_neg b]
      exact if_pos (Int32.lt_iff_toInt_lt.mpr h)
theorem pon_on {pc pf pt d : Int32} (h : 0 ≤ pc.toInt) (h1 : pf.toInt ≤ d.toInt) (h2 : d.toInt ≤ pt.toInt) : f_X4_pumpsOn pc pf pt d = some 1 := by
  unfold f_X4_pumpsOn
  have a : ¬ pc = -1 := fun e => by rw [e] at h; exact absurd h (by decide)
  rw [if_neg a, if_neg (fun b => by have := ti_lt b; omega), if_neg (fun b => by have := ti_lt b; omega)]
theorem tbp_0 {pc px pf pt d : Int32} (h : f_X4_pumpsOn pc pf pt d = some 0) (cp : Int32) (w : Nat → Int32) (s : Nat → Int64) : f_X0_takeByPump pc px pf pt d cp w s = some (0, w, s) := by
  unfold f_X0_takeByPump
  refine bd_go h ?_
  exact if_pos rfl
theorem tbp_1 {pc px pf pt d : Int32} (h : f_X4_pumpsOn pc pf pt d = some 1) (cp : Int32) (w : Nat → Int32) (s : Nat → Int64) : f_X0_takeByPump pc px pf pt d cp w s = ck (inb pc 12) (bd (f_X1_draw w s pc (if w pc.toNatClampNeg < px then w pc.toNatClampNeg else px)) (fun q => some ((if w pc.toNatClampNeg < px then w pc.toNatClampNeg else px), q.1, q.2))) := by
  unfold f_X0_takeByPump
  refine bd_go h ?_
  exact if_neg (by decide)
theorem tbp_g {pc x pf pt d g cp : Int32} {w : Nat → Int32} {s : Nat → Int64} {o : Int32 × (Nat → Int32) × (Nat → Int64)} (h : f_X4_pumpsOn pc pf pt d = some 1) (e : f_X0_takeByPump pc x pf pt d cp w s = some o) (hg : o.1.toInt ≤ g.toInt) (hx : g.toInt < x.toInt) : f_X0_takeByPump pc g pf pt d cp w s = some o := by
  rw [tbp_1 h] at e
  rw [tbp_1 h]
  obtain ⟨hc, e⟩ := ck_some e
  obtain ⟨q, hq, e2⟩ := bd_some e
  have e4 : (if w pc.toNatClampNeg < x then w pc.toNatClampNeg else x) = o.1 := by rw [← Option.some.inj e2]
  have e5 : (if w pc.toNatClampNeg < g then w pc.toNatClampNeg else g) = (if w pc.toNatClampNeg < x then w pc.toNatClampNeg else x) := by
    by_cases k : w pc.toNatClampNeg < x
    · rw [if_pos k] at e4
      rw [if_pos k]
      by_cases k2 : w pc.toNatClampNeg < g
      · exact if_pos k2
      · rw [if_neg k2]
        have a1 := ti_nlt k2
        rw [← e4] at hg
        exact Int32.toInt_inj.mp (by omega)
    · rw [if_neg k] at e4
      rw [← e4] at hg
      omega
  rw [hc, e5]
  exact e
theorem tbp_z {pc x pf pt d cp : Int32} {w : Nat → Int32} {s : Nat → Int64} {o : Int32 × (Nat → Int32) × (Nat → Int64)} (h : f_X4_pumpsOn pc pf pt d = some 1) (e : f_X0_takeByPump pc x pf pt d cp w s = some o) (hz : o.1.toInt ≤ 0) : o.2 = (w, s) := by
  rw [tbp_1 h] at e
  obtain ⟨_, e⟩ := ck_some e
  obtain ⟨q, hq, e2⟩ := bd_some e
  have e4 : (if w pc.toNatClampNeg < x then w pc.toNatClampNeg else x) = o.1 := by rw [← Option.some.inj e2]
  have e6 : (q.1, q.2) = o.2 := by rw [← Option.some.inj e2]
  rw [e4] at hq
  unfold f_X1_draw at hq
  rw [if_pos (Int32.lt_iff_toInt_lt.mpr (by have : (1 : Int32).toInt = 1 := rfl; omega))] at hq
  rw [← e6, ← Option.some.inj hq]
theorem cD_off {v_g_cells v_g_passes v_g_rivers v_g_villages v_g_rains : Int32} {v_g_room v_g_passFrom v_g_passTo v_g_riverCell v_g_riverLevel v_g_riverSalt v_g_villageCell v_g_need v_g_lawEnd v_g_code : Nat → Int32} {pc px pf pt pc2 px2 pf2 pt2 : Int32} {v_p_wanting v_p_passWidth v_p_riverWidth v_p_rain : Nat → Int32} {s : CS} (h1 : f_X4_pumpsOn pc pf pt s.2.2.2.2.2.2.2.1 = some 0) (h2 : f_X4_pumpsOn pc2 pf2 pt2 s.2.2.2.2.2.2.2.1 = some 0) : cDay v_g_cells v_g_passes v_g_rivers v_g_villages v_g_rains v_g_room v_g_passFrom v_g_passTo v_g_riverCell v_g_riverLevel v_g_riverSalt v_g_villageCell v_g_need v_g_lawEnd v_g_code pc px pf pt v_p_wanting v_p_passWidth v_p_riverWidth v_p_rain s = cDay v_g_cells v_g_passes v_g_rivers v_g_villages v_g_rains v_g_room v_g_passFrom v_g_passTo v_g_riverCell v_g_riverLevel v_g_riverSalt v_g_villageCell v_g_need v_g_lawEnd v_g_code pc2 px2 pf2 pt2 v_p_wanting v_p_passWidth v_p_riverWidth v_p_rain s := by
  unfold cDay un15 f_X0_oneDay
  simp only [tbp_0 h1, tbp_0 h2]
theorem cD_ig {v_g_cells v_g_passes v_g_rivers v_g_villages v_g_rains : Int32} {v_g_room v_g_passFrom v_g_passTo v_g_riverCell v_g_riverLevel v_g_riverSalt v_g_villageCell v_g_need v_g_lawEnd v_g_code : Nat → Int32} {pc px pf pt : Int32} {v_p_wanting v_p_passWidth v_p_riverWidth v_p_rain : Nat → Int32} {s s2 : CS} (h : s.2 = s2.2) : cDay v_g_cells v_g_passes v_g_rivers v_g_villages v_g_rains v_g_room v_g_passFrom v_g_passTo v_g_riverCell v_g_riverLevel v_g_riverSalt v_g_villageCell v_g_need v_g_lawEnd v_g_code pc px pf pt v_p_wanting v_p_passWidth v_p_riverWidth v_p_rain s = cDay v_g_cells v_g_passes v_g_rivers v_g_villages v_g_rains v_g_room v_g_passFrom v_g_passTo v_g_riverCell v_g_riverLevel v_g_riverSalt v_g_villageCell v_g_need v_g_lawEnd v_g_code pc px pf pt v_p_wanting v_p_passWidth v_p_riverWidth v_p_rain s2 := by
  obtain ⟨a, b⟩ := s
  obtain ⟨a2, b2⟩ := s2
  have h : b = b2 := h
  subst h
  unfold cDay un15 f_X0_oneDay
  rfl
theorem cD_g {v_g_cells v_g_passes v_g_rivers v_g_villages v_g_rains : Int32} {v_g_room v_g_passFrom v_g_passTo v_g_riverCell v_g_riverLevel v_g_riverSalt v_g_villageCell v_g_need v_g_lawEnd v_g_code : Nat → Int32} {pc x pf pt g : Int32} {v_p_wanting v_p_passWidth v_p_riverWidth v_p_rain : Nat → Int32} {s t : CS} (h : f_X4_pumpsOn pc pf pt s.2.2.2.2.2.2.2.1 = some 1) (e : cDay v_g_cells v_g_passes v_g_rivers v_g_villages v_g_rains v_g_room v_g_passFrom v_g_passTo v_g_riverCell v_g_riverLevel v_g_riverSalt v_g_villageCell v_g_need v_g_lawEnd v_g_code pc x pf pt v_p_wanting v_p_passWidth v_p_riverWidth v_p_rain s = some t) (hg : t.1.toInt ≤ g.toInt) (hx : g.toInt < x.toInt) : cDay v_g_cells v_g_passes v_g_rivers v_g_villages v_g_rains v_g_room v_g_passFrom v_g_passTo v_g_riverCell v_g_riverLevel v_g_riverSalt v_g_villageCell v_g_need v_g_lawEnd v_g_code pc g pf pt v_p_wanting v_p_passWidth v_p_riverWidth v_p_rain s = some t := by
  unfold cDay un15 f_X0_oneDay at e
  unfold cDay un15 f_X0_oneDay
  obtain ⟨o1, m1, e⟩ := bd_some e
  refine bd_go m1 ?_
  obtain ⟨o2, m2, e⟩ := bd_some e
  refine bd_go m2 ?_
  obtain ⟨o3, m3, e⟩ := bd_some e
  obtain ⟨o4, m4, e4⟩ := bd_some e
  have ht : t.1 = o3.1 := c_pm22 _ _ _ _ _ _ _ _ _ _ _ _ _ _ _ _ _ t e4
  rw [ht] at hg
  exact bd_go (tbp_g h m3 hg hx) e
theorem cD_z {v_g_cells v_g_passes v_g_rivers v_g_villages v_g_rains : Int32} {v_g_room v_g_passFrom v_g_passTo v_g_riverCell v_g_riverLevel v_g_riverSalt v_g_villageCell v_g_need v_g_lawEnd v_g_code : Nat → Int32} {pc x pf pt pc2 px2 pf2 pt2 : Int32} {v_p_wanting v_p_passWidth v_p_riverWidth v_p_rain : Nat → Int32} {s t : CS} (h : f_X4_pumpsOn pc pf pt s.2.2.2.2.2.2.2.1 = some 1) (h2 : f_X4_pumpsOn pc2 pf2 pt2 s.2.2.2.2.2.2.2.1 = some 0) (e : cDay v_g_cells v_g_passes v_g_rivers v_g_villages v_g_rains v_g_room v_g_passFrom v_g_passTo v_g_riverCell v_g_riverLevel v_g_riverSalt v_g_villageCell v_g_need v_g_lawEnd v_g_code pc x pf pt v_p_wanting v_p_passWidth v_p_riverWidth v_p_rain s = some t) (hz : t.1.toInt ≤ 0) : cDay v_g_cells v_g_passes v_g_rivers v_g_villages v_g_rains v_g_room v_g_passFrom v_g_passTo v_g_riverCell v_g_riverLevel v_g_riverSalt v_g_villageCell v_g_need v_g_lawEnd v_g_code pc2 px2 pf2 pt2 v_p_wanting v_p_passWidth v_p_riverWidth v_p_rain s = some (0, t.2) := by
  unfold cDay un15 f_X0_oneDay at e
  unfold cDay un15 f_X0_oneDay
  obtain ⟨o1, m1, e⟩ := bd_some e
  refine bd_go m1 ?_
  obtain ⟨o2, m2, e⟩ := bd_some e
  refine bd_go m2 ?_
  obtain ⟨o3, m3, e⟩ := bd_some e
  refine bd_go (tbp_0 h2 _ _ _) ?_
  obtain ⟨o3a, o3b⟩ := o3
  obtain ⟨o4, m4, e4⟩ := bd_some e
  have ht : t.1 = o3a := c_pm22 _ _ _ _ _ _ _ _ _ _ _ _ _ _ _ _ _ t e4
  rw [ht] at hz
  have e6 := tbp_z h m3 hz
  subst e6
  refine bd_go m4 ?_
  exact c_ig22 _ _ _ _ _ _ _ _ _ _ _ _ _ _ _ _ _ _ t e4
theorem cD_ex {v_g_cells v_g_passes v_g_rivers v_g_villages v_g_rains : Int32} {v_g_room v_g_passFrom v_g_passTo v_g_riverCell v_g_riverLevel v_g_riverSalt v_g_villageCell v_g_need v_g_lawEnd v_g_code : Nat → Int32} {pc px pf pt : Int32} {v_p_wanting v_p_passWidth v_p_riverWidth v_p_rain : Nat → Int32} (u0 : rg v_g_cells 0 12) (u1 : rg v_g_passes 0 20) (u2 : rg v_g_rivers 0 3) (u3 : rg v_g_villages 0 6) (u4 : rg v_g_rains 0 14) (u5 : ac v_g_passFrom v_g_passes 0 11) (u6 : ac v_g_passTo v_g_passes 0 11) (u7 : ac v_g_riverCell v_g_rivers 0 11) (u8 : ac v_g_villageCell v_g_villages 0 11) (u9 : al v_g_lawEnd 0 400) (u10 : rg pc (-1) 11) (u11 : rg pf 0 13) (s : CS) : ∃ t, cDay v_g_cells v_g_passes v_g_rivers v_g_villages v_g_rains v_g_room v_g_passFrom v_g_passTo v_g_riverCell v_g_riverLevel v_g_riverSalt v_g_villageCell v_g_need v_g_lawEnd v_g_code pc px pf pt v_p_wanting v_p_passWidth v_p_riverWidth v_p_rain s = some t := by
  obtain ⟨t, ht, _⟩ := s_X0_oneDay v_g_cells v_g_passes v_g_rivers v_g_villages v_g_rains v_g_room v_g_passFrom v_g_passTo v_g_riverCell v_g_riverLevel v_g_riverSalt v_g_villageCell v_g_need v_g_lawEnd v_g_code pc px pf pt v_p_wanting v_p_passWidth v_p_riverWidth v_p_rain s.1 s.2.1 s.2.2.1 s.2.2.2.1 s.2.2.2.2.1 s.2.2.2.2.2.1 s.2.2.2.2.2.2.1 s.2.2.2.2.2.2.2.1 s.2.2.2.2.2.2.2.2.1 s.2.2.2.2.2.2.2.2.2.1 s.2.2.2.2.2.2.2.2.2.2.1 s.2.2.2.2.2.2.2.2.2.2.2.1 s.2.2.2.2.2.2.2.2.2.2.2.2.1 s.2.2.2.2.2.2.2.2.2.2.2.2.2.1 s.2.2.2.2.2.2.2.2.2.2.2.2.2.2 u0 u1 u2 u3 u4 u5 u6 u7 u8 u9 u10 u11
  exact ⟨t, ht⟩
theorem cD_day {v_g_cells v_g_passes v_g_rivers v_g_villages v_g_rains : Int32} {v_g_room v_g_passFrom v_g_passTo v_g_riverCell v_g_riverLevel v_g_riverSalt v_g_villageCell v_g_need v_g_lawEnd v_g_code : Nat → Int32} {pc px pf pt : Int32} {v_p_wanting v_p_passWidth v_p_riverWidth v_p_rain : Nat → Int32} {s t : CS} (e : cDay v_g_cells v_g_passes v_g_rivers v_g_villages v_g_rains v_g_room v_g_passFrom v_g_passTo v_g_riverCell v_g_riverLevel v_g_riverSalt v_g_villageCell v_g_need v_g_lawEnd v_g_code pc px pf pt v_p_wanting v_p_passWidth v_p_riverWidth v_p_rain s = some t) : t.2.2.2.2.2.2.2.1 = s.2.2.2.2.2.2.2.1 + 1 := c_oneDay t e
