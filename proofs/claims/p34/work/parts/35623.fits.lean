/-! span and rainSpan: what fits the levels told, on both sides; in both modes of the class -/
theorem PLN_wide {live ch ca_ pc pm pf pt gpc gtk gfr gto : Int32} {vi pp ri ra : Int} {wanting pwc rwc rnc wants off wide rain rw pw' wd' : Nat → Int32} {q v : Int32} (h : PLN live ch ca_ vi pp ri ra pc pm pf pt gpc gtk gfr gto wanting pwc rwc rnc wants off wide rain rw) (h0 : ch = -1) (hp : pp ≤ 20) (e1 : ∀ i : Nat, i < 20 → pw' i = if i = q.toNatClampNeg then v else pwc i) (e2 : wd' = upd wide q.toNatClampNeg v) : PLN live ch ca_ vi pp ri ra pc pm pf pt gpc gtk gfr gto wanting pw' rwc rnc wants off wd' rain rw := by
  refine ⟨h.1, fun x x0 x1 => ⟨fun k => absurd (h0.symm.trans k.1) (by decide), fun k => ?_⟩, h.2.2⟩
  have ex : (x.toNatClampNeg : Int) = x.toInt := cl_k x0
  rw [e1 _ (by omega), e2]
  by_cases z : x.toNatClampNeg = q.toNatClampNeg
  · rw [if_pos z, z, up_at]
  · rw [if_neg z, up_ne z]
    exact (h.2.1 x x0 x1).2 k
theorem PLN_rain {live ch ca_ pc pm pf pt gpc gtk gfr gto : Int32} {vi pp ri ra : Int} {wanting pwc rwc rnc wants off wide rain rw rn' rw' : Nat → Int32} {q v : Int32} (h : PLN live ch ca_ vi pp ri ra pc pm pf pt gpc gtk gfr gto wanting pwc rwc rnc wants off wide rain rw) (hn : ra ≤ 14) (e1 : ∀ i : Nat, i < 14 → rn' i = if i = q.toNatClampNeg then v else rnc i) (e2 : rw' = upd rain q.toNatClampNeg v) : PLN live ch ca_ vi pp ri ra pc pm pf pt gpc gtk gfr gto wanting pwc rwc rn' wants off wide rw' rw := by
  refine ⟨h.1, h.2.1, h.2.2.1, fun i hi => ?_, h.2.2.2.2⟩
  rw [e1 _ (by omega), e2]
  by_cases z : i = q.toNatClampNeg
  · rw [if_pos z, z, up_at]
  · rw [if_neg z, up_ne z]
    exact h.2.2.2.1 i hi
set_option maxHeartbeats 8000000 in
theorem r_59z {α : Type} {f : Option α} {R : α → Int32 × Int32 × Int32 × Int64 × Int64 × (Nat → Int32) × (Nat → Int32) × (Nat → Int64) × (Nat → Int64) × (Nat → Int32) × (Nat → Int32) × (Nat → Int64) × (Nat → Int64) × (Nat → Int32) → Prop} {k50 : Int32 → Int32 → Int64 → Int64 → (Nat → Int32) → (Nat → Int32) → (Nat → Int64) → (Nat → Int64) → (Nat → Int32) → (Nat → Int32) → (Nat → Int64) → (Nat → Int64) → (Nat → Int32) → Int32 → Int32 → Int32 → Int32 → Int32 → Option (Int32 × Int32 × Int32 × Int64 × Int64 × (Nat → Int32) × (Nat → Int32) × (Nat → Int64) × (Nat → Int64) × (Nat → Int32) × (Nat → Int32) × (Nat → Int64) × (Nat → Int64) × (Nat → Int32))} {v_m_live : Int32} {v_m_changed : Int32} {v_m_changedAt : Int32} {v_m_pumpCell : Int32} {v_m_pumpMuch : Int32} {v_m_pumpFrom : Int32} {v_m_pumpTo : Int32} {v_m_cells : Nat → Int32} {v_m_room : Nat → Int32} {v_m_passes : Nat → Int32} {v_m_passOne : Nat → Int32} {v_m_passOther : Nat → Int32} {v_m_rivers : Nat → Int32} {v_m_riverCell : Nat → Int32} {v_m_riverLevel : Nat → Int32} {v_m_riverWide : Nat → Int32} {v_m_riverSalt : Nat → Int32} {v_m_rains : Nat → Int32} {v_m_villages : Nat → Int32} {v_m_home : Nat → Int32} {v_m_need : Nat → Int32} {v_m_lawFrom : Nat → Int32} {v_m_lawTo : Nat → Int32} {v_m_code : Nat → Int32} {v_m_codeInt : Nat → Int32} {v_m_wants : Nat → Int32} {v_m_isOff : Nat → Int32} {v_m_wide : Nat → Int32} {v_m_rainNow : Nat → Int32} {v_m_toldDay : Nat → Int32} {v_m_toldCell : Nat → Int32} {v_m_toldLevel : Nat → Int32} {L : Nat → Prop} : ∀ (m : Nat) (v_m_isBroken : Int32) (v_m_rowDay : Int32) (v_m_takenAll : Int64) (v_m_riversAll : Int64) (v_m_variables : Nat → Int32) (v_m_pile : Nat → Int32) (v_m_row : Nat → Int64) (v_m_taken : Nat → Int64) (v_m_isDry : Nat → Int32) (v_m_wouldLack : Nat → Int32) (v_m_more : Nat → Int64) (v_m_moreSalt : Nat → Int64) (v_m_isOffTold : Nat → Int32) (x1 : Int32) (x2 : Int32) (x3 : Int32) (x4 : Int32) (x5 : Int32) (x6 : Int32), 0 ≤ x6.toInt → x6.toInt ≤ x1.toInt → x1.toInt ≤ 20 → x2 = 0 → (∀ i : Nat, (i : Int) < x1.toInt → pa (f_X7_level v_m_live v_m_room v_m_row (v_m_toldCell i)) (fun o => lg_cmp o (v_m_toldLevel i).toInt64 = 0 ↔ L i)) → (∀ i : Nat, (i : Int) < x6.toInt → ¬ (v_m_toldDay i = x5 ∧ ¬ L i)) → ((∃ i : Nat, (i : Int) < x1.toInt ∧ v_m_toldDay i = x5 ∧ ¬ L i) → ∀ t : Int32 × Int32 × Int32 × Int64 × Int64 × (Nat → Int32) × (Nat → Int32) × (Nat → Int64) × (Nat → Int64) × (Nat → Int32) × (Nat → Int32) × (Nat → Int64) × (Nat → Int64) × (Nat → Int32), t.1 = 0 → pj f (some t) R) → ((∀ i : Nat, (i : Int) < x1.toInt → ¬ (v_m_toldDay i = x5 ∧ ¬ L i)) → pj f (bd (f_X7_goesBy v_m_live v_m_changed v_m_changedAt v_m_pumpCell v_m_pumpMuch v_m_pumpFrom v_m_pumpTo v_m_cells v_m_room v_m_passes v_m_passOne v_m_passOther v_m_rivers v_m_riverCell v_m_riverLevel v_m_riverWide v_m_riverSalt v_m_rains v_m_villages v_m_home v_m_need v_m_lawFrom v_m_lawTo v_m_code v_m_codeInt v_m_wants v_m_isOff v_m_wide v_m_rainNow v_m_isBroken v_m_rowDay v_m_takenAll v_m_riversAll v_m_variables v_m_pile v_m_row v_m_taken v_m_isDry v_m_wouldLack v_m_more v_m_moreSalt) (fun o_2 => un12 o_2 (fun o_2_0 o_2_1 o_2_2 o_2_3 o_2_4 o_2_5 o_2_6 o_2_7 o_2_8 o_2_9 o_2_10 o_2_11 => k50 o_2_0 o_2_1 o_2_2 o_2_3 o_2_4 o_2_5 o_2_6 o_2_7 o_2_8 o_2_9 o_2_10 o_2_11 v_m_isOffTold x1 x2 x3 x4 (x5 + (1 : Int32))))) R) → pj f (f_X7_fits_b59 k50 v_m_live v_m_changed v_m_changedAt v_m_pumpCell v_m_pumpMuch v_m_pumpFrom v_m_pumpTo v_m_cells v_m_room v_m_passes v_m_passOne v_m_passOther v_m_rivers v_m_riverCell v_m_riverLevel v_m_riverWide v_m_riverSalt v_m_rains v_m_villages v_m_home v_m_need v_m_lawFrom v_m_lawTo v_m_code v_m_codeInt v_m_wants v_m_isOff v_m_wide v_m_rainNow v_m_toldDay v_m_toldCell v_m_toldLevel m v_m_isBroken v_m_rowDay v_m_takenAll v_m_riversAll v_m_variables v_m_pile v_m_row v_m_taken v_m_isDry v_m_wouldLack v_m_more v_m_moreSalt v_m_isOffTold x1 x2 x3 x4 x5 x6) R := by
  intro m
  induction m with
  | zero => intro v_m_isBroken v_m_rowDay v_m_takenAll v_m_riversAll v_m_variables v_m_pile v_m_row v_m_taken v_m_isDry v_m_wouldLack v_m_more v_m_moreSalt v_m_isOffTold x1 x2 x3 x4 x5 x6 _ _ _ _ _ _ _ _; exact pj_nr
  | succ m ih =>
    intro v_m_isBroken v_m_rowDay v_m_takenAll v_m_riversAll v_m_variables v_m_pile v_m_row v_m_taken v_m_isDry v_m_wouldLack v_m_more v_m_moreSalt v_m_isOffTold x1 x2 x3 x4 x5 x6 h0 h1 h2 hx2 hL hM hbad hk
    show pj f (f_X7_fits_b59_st (f_X7_fits_b59 k50 v_m_live v_m_changed v_m_changedAt v_m_pumpCell v_m_pumpMuch v_m_pumpFrom v_m_pumpTo v_m_cells v_m_room v_m_passes v_m_passOne v_m_passOther v_m_rivers v_m_riverCell v_m_riverLevel v_m_riverWide v_m_riverSalt v_m_rains v_m_villages v_m_home v_m_need v_m_lawFrom v_m_lawTo v_m_code v_m_codeInt v_m_wants v_m_isOff v_m_wide v_m_rainNow v_m_toldDay v_m_toldCell v_m_toldLevel m) k50 v_m_live v_m_changed v_m_changedAt v_m_pumpCell v_m_pumpMuch v_m_pumpFrom v_m_pumpTo v_m_cells v_m_room v_m_passes v_m_passOne v_m_passOther v_m_rivers v_m_riverCell v_m_riverLevel v_m_riverWide v_m_riverSalt v_m_rains v_m_villages v_m_home v_m_need v_m_lawFrom v_m_lawTo v_m_code v_m_codeInt v_m_wants v_m_isOff v_m_wide v_m_rainNow v_m_toldDay v_m_toldCell v_m_toldLevel v_m_isBroken v_m_rowDay v_m_takenAll v_m_riversAll v_m_variables v_m_pile v_m_row v_m_taken v_m_isDry v_m_wouldLack v_m_more v_m_moreSalt v_m_isOffTold x1 x2 x3 x4 x5 x6) R
    unfold f_X7_fits_b59_st
    have ex : (x6.toNatClampNeg : Int) = x6.toInt := cl_k h0
    refine pj_ifr (fun z => hk (fun i hi => hM i (by have := ti_le z; omega))) (fun z => ?_)
    have g := ti_nle z
    have t1 := add_k (x := x6) (v := 1) (k := 1) rfl (by omega) (by omega)
    have skip_ : ¬ (v_m_toldDay x6.toNatClampNeg = x5 ∧ ¬ L x6.toNatClampNeg) → pj f (f_X7_fits_b59 k50 v_m_live v_m_changed v_m_changedAt v_m_pumpCell v_m_pumpMuch v_m_pumpFrom v_m_pumpTo v_m_cells v_m_room v_m_passes v_m_passOne v_m_passOther v_m_rivers v_m_riverCell v_m_riverLevel v_m_riverWide v_m_riverSalt v_m_rains v_m_villages v_m_home v_m_need v_m_lawFrom v_m_lawTo v_m_code v_m_codeInt v_m_wants v_m_isOff v_m_wide v_m_rainNow v_m_toldDay v_m_toldCell v_m_toldLevel m v_m_isBroken v_m_rowDay v_m_takenAll v_m_riversAll v_m_variables v_m_pile v_m_row v_m_taken v_m_isDry v_m_wouldLack v_m_more v_m_moreSalt v_m_isOffTold x1 x2 x3 x4 x5 (x6 + (1 : Int32))) R := fun hn => ih _ _ _ _ _ _ _ _ _ _ _ _ _ _ _ _ _ _ _ (by omega) (by omega) h2 hx2 hL (fun i hi => by
      by_cases q : i = x6.toNatClampNeg
      · rw [q]; exact hn
      · exact hM i (by omega)) hbad hk
    refine pj_ckr (fun _ => pj_ifr (fun q => pj_ckr (fun _ => pj_br (hL x6.toNatClampNeg (by omega)) (fun o6 h6 => pj_ckr (fun _ => pj_ifr (fun k => skip_ (fun l => l.2 (h6.mp k))) (fun k => pj_ckr (fun _ => pj_nrg (fun a10 e10 => pj_ifr (fun _ => hbad ⟨x6.toNatClampNeg, by omega, q, fun l => k (h6.mpr l)⟩ _ rfl) (fun l => absurd hx2 l)))))))) (fun q => skip_ (fun l => q l.1)))
theorem c_24e_S {v_e_fitting : Int32} {v_e_toldDay : Nat → Int32} {v_e_toldCell : Nat → Int32} {v_e_toldLevel : Nat → Int32} {v_g_cells : Int32} {v_g_passes : Int32} {v_g_rivers : Int32} {v_g_villages : Int32} {v_g_rains : Int32} {v_g_room : Nat → Int32} {v_g_passFrom : Nat → Int32} {v_g_passTo : Nat → Int32} {v_g_riverCell : Nat → Int32} {v_g_riverLevel : Nat → Int32} {v_g_riverSalt : Nat → Int32} {v_g_villageCell : Nat → Int32} {v_g_need : Nat → Int32} {v_g_lawEnd : Nat → Int32} {v_g_code : Nat → Int32} {v_p_pumpCell : Int32} {v_p_pumpTakes : Int32} {v_p_pumpFrom : Int32} {v_p_pumpTo : Int32} {v_p_wanting : Nat → Int32} {v_p_passWidth : Nat → Int32} {v_p_riverWidth : Nat → Int32} {v_p_rain : Nat → Int32} : ∀ (n : Nat) (v_c_pumped : Int32) (v_c_today : Int32) (v_c_lacked : Nat → Int32) (v_c_level : Nat → Int32) (v_c_water : Nat → Int32) (v_c_salt : Nat → Int64) (v_c_stack : Nat → Int32) (v_d_day : Int32) (v_d_water : Nat → Int32) (v_d_salt : Nat → Int64) (v_d_seen : Nat → Int32) (v_d_took : Nat → Int32) (v_d_dryDays : Nat → Int32) (v_d_firstDry : Nat → Int32) (v_d_total : Nat → Int32) (v_pl_0 : Nat → Int32) (x1 : Int32) (x2 : Int32) (x3 : Int32) (x4 : Int32), x3.toInt < x4.toInt → pa (f_X2_fits_S_b24 v_e_fitting v_e_toldDay v_e_toldCell v_e_toldLevel v_g_cells v_g_passes v_g_rivers v_g_villages v_g_rains v_g_room v_g_passFrom v_g_passTo v_g_riverCell v_g_riverLevel v_g_riverSalt v_g_villageCell v_g_need v_g_lawEnd v_g_code v_p_pumpCell v_p_pumpTakes v_p_pumpFrom v_p_pumpTo v_p_wanting v_p_passWidth v_p_riverWidth v_p_rain n v_c_pumped v_c_today v_c_lacked v_c_level v_c_water v_c_salt v_c_stack v_d_day v_d_water v_d_salt v_d_seen v_d_took v_d_dryDays v_d_firstDry v_d_total v_pl_0 x1 x2 x3 x4) (fun a => a.1 = 1) := by
  intro n v_c_pumped v_c_today v_c_lacked v_c_level v_c_water v_c_salt v_c_stack v_d_day v_d_water v_d_salt v_d_seen v_d_took v_d_dryDays v_d_firstDry v_d_total v_pl_0 x1 x2 x3 x4 h
  cases n with
  | zero => exact pa_none
  | succ n =>
    show pa (f_X2_fits_S_b24_st (f_X2_fits_S_b24 v_e_fitting v_e_toldDay v_e_toldCell v_e_toldLevel v_g_cells v_g_passes v_g_rivers v_g_villages v_g_rains v_g_room v_g_passFrom v_g_passTo v_g_riverCell v_g_riverLevel v_g_riverSalt v_g_villageCell v_g_need v_g_lawEnd v_g_code v_p_pumpCell v_p_pumpTakes v_p_pumpFrom v_p_pumpTo v_p_wanting v_p_passWidth v_p_riverWidth v_p_rain n) v_e_fitting v_e_toldDay v_e_toldCell v_e_toldLevel v_g_cells v_g_passes v_g_rivers v_g_villages v_g_rains v_g_room v_g_passFrom v_g_passTo v_g_riverCell v_g_riverLevel v_g_riverSalt v_g_villageCell v_g_need v_g_lawEnd v_g_code v_p_pumpCell v_p_pumpTakes v_p_pumpFrom v_p_pumpTo v_p_wanting v_p_passWidth v_p_riverWidth v_p_rain v_c_pumped v_c_today v_c_lacked v_c_level v_c_water v_c_salt v_c_stack v_d_day v_d_water v_d_salt v_d_seen v_d_took v_d_dryDays v_d_firstDry v_d_total v_pl_0 x1 x2 x3 x4) _
    unfold f_X2_fits_S_b24_st
    refine pa_if (fun _ => pa_some rfl) (fun z => ?_)
    have := ti_nlt z
    omega
set_option maxHeartbeats 4000000 in
theorem c_24z_S {v_e_fitting : Int32} {v_e_toldDay : Nat → Int32} {v_e_toldCell : Nat → Int32} {v_e_toldLevel : Nat → Int32} {v_g_cells : Int32} {v_g_passes : Int32} {v_g_rivers : Int32} {v_g_villages : Int32} {v_g_rains : Int32} {v_g_room : Nat → Int32} {v_g_passFrom : Nat → Int32} {v_g_passTo : Nat → Int32} {v_g_riverCell : Nat → Int32} {v_g_riverLevel : Nat → Int32} {v_g_riverSalt : Nat → Int32} {v_g_villageCell : Nat → Int32} {v_g_need : Nat → Int32} {v_g_lawEnd : Nat → Int32} {v_g_code : Nat → Int32} {v_p_pumpCell : Int32} {v_p_pumpTakes : Int32} {v_p_pumpFrom : Int32} {v_p_pumpTo : Int32} {v_p_wanting : Nat → Int32} {v_p_passWidth : Nat → Int32} {v_p_riverWidth : Nat → Int32} {v_p_rain : Nat → Int32} : ∀ (n : Nat) (v_c_pumped : Int32) (v_c_today : Int32) (v_c_lacked : Nat → Int32) (v_c_level : Nat → Int32) (v_c_water : Nat → Int32) (v_c_salt : Nat → Int64) (v_c_stack : Nat → Int32) (v_d_day : Int32) (v_d_water : Nat → Int32) (v_d_salt : Nat → Int64) (v_d_seen : Nat → Int32) (v_d_took : Nat → Int32) (v_d_dryDays : Nat → Int32) (v_d_firstDry : Nat → Int32) (v_d_total : Nat → Int32) (v_pl_0 : Nat → Int32) (x1 : Int32) (x2 : Int32) (x3 : Int32) (x4 : Int32), x1 = 0 → x2 = -1 → 0 ≤ x4.toInt → x4.toInt ≤ 1000 → x3.toInt ≤ 500 → pa (f_X2_fits_S_b24 v_e_fitting v_e_toldDay v_e_toldCell v_e_toldLevel v_g_cells v_g_passes v_g_rivers v_g_villages v_g_rains v_g_room v_g_passFrom v_g_passTo v_g_riverCell v_g_riverLevel v_g_riverSalt v_g_villageCell v_g_need v_g_lawEnd v_g_code v_p_pumpCell v_p_pumpTakes v_p_pumpFrom v_p_pumpTo v_p_wanting v_p_passWidth v_p_riverWidth v_p_rain n v_c_pumped v_c_today v_c_lacked v_c_level v_c_water v_c_salt v_c_stack v_d_day v_d_water v_d_salt v_d_seen v_d_took v_d_dryDays v_d_firstDry v_d_total v_pl_0 x1 x2 x3 x4) (fun a => a.1 = 1) := by
  intro n
  induction n with
  | zero => intro v_c_pumped v_c_today v_c_lacked v_c_level v_c_water v_c_salt v_c_stack v_d_day v_d_water v_d_salt v_d_seen v_d_took v_d_dryDays v_d_firstDry v_d_total v_pl_0 x1 x2 x3 x4 _ _ _ _ _; exact pa_none
  | succ n ih =>
    intro v_c_pumped v_c_today v_c_lacked v_c_level v_c_water v_c_salt v_c_stack v_d_day v_d_water v_d_salt v_d_seen v_d_took v_d_dryDays v_d_firstDry v_d_total v_pl_0 x1 x2 x3 x4 h1 h2 h4 h5 h3
    show pa (f_X2_fits_S_b24_st (f_X2_fits_S_b24 v_e_fitting v_e_toldDay v_e_toldCell v_e_toldLevel v_g_cells v_g_passes v_g_rivers v_g_villages v_g_rains v_g_room v_g_passFrom v_g_passTo v_g_riverCell v_g_riverLevel v_g_riverSalt v_g_villageCell v_g_need v_g_lawEnd v_g_code v_p_pumpCell v_p_pumpTakes v_p_pumpFrom v_p_pumpTo v_p_wanting v_p_passWidth v_p_riverWidth v_p_rain n) v_e_fitting v_e_toldDay v_e_toldCell v_e_toldLevel v_g_cells v_g_passes v_g_rivers v_g_villages v_g_rains v_g_room v_g_passFrom v_g_passTo v_g_riverCell v_g_riverLevel v_g_riverSalt v_g_villageCell v_g_need v_g_lawEnd v_g_code v_p_pumpCell v_p_pumpTakes v_p_pumpFrom v_p_pumpTo v_p_wanting v_p_passWidth v_p_riverWidth v_p_rain v_c_pumped v_c_today v_c_lacked v_c_level v_c_water v_c_salt v_c_stack v_d_day v_d_water v_d_salt v_d_seen v_d_took v_d_dryDays v_d_firstDry v_d_total v_pl_0 x1 x2 x3 x4) _
    unfold f_X2_fits_S_b24_st
    subst h1
    have m1 : (-1 : Int32).toInt = -1 := by decide
    refine pa_if (fun _ => pa_some rfl) (fun z => ?_)
    have g := ti_nlt z
    have t1 := add_k (x := x4) (v := 1) (k := 1) rfl (by omega) (by omega)
    have ho : pa (f_X2_offToday v_e_toldDay v_e_toldCell v_e_toldLevel v_g_room v_d_day v_d_water 0) (OFT 0 (MIS v_e_toldDay v_e_toldCell v_e_toldLevel v_g_room v_d_water v_d_day)) := by
      unfold f_X2_offToday
      exact c_off fuel 0 0 (by decide) (by decide) (by decide) (fun i hi => absurd hi (by show ¬ (i : Int) < 0; omega)) (fun i hi => absurd hi (by show ¬ (i : Int) < 0; omega))
    refine pa_bd ho (fun o2 ho2 => ?_)
    have e2 : o2 = -2 := by
      rcases ho2 with ⟨e, _⟩ | ⟨a, b, _⟩
      · exact e
      · have b : o2.toInt < 0 := b
        omega
    refine pa_if (fun _ => pa_if (fun k => ?_) (fun _ => ?_)) (fun k => absurd e2 k)
    · have := z_eq m1 (k.trans h2)
      omega
    unfold f_X2_fits_S_b52
    exact pa_if (fun _ => ih _ _ _ _ _ _ _ _ _ _ _ _ _ _ _ _ _ _ _ _ rfl h2 (by omega) (by omega) h3) (fun _ => pa_bd15 pa_tr (fun a0 a1 a2 a3 a4 a5 a6 a7 a8 a9 a10 a11 a12 a13 a14 _ => ih _ _ _ _ _ _ _ _ _ _ _ _ _ _ _ _ _ _ _ _ rfl h2 (by omega) (by omega) h3))
set_option maxHeartbeats 8000000 in
theorem l_fit_S {v_e_fitting : Int32} {v_e_toldDay : Nat → Int32} {v_e_toldCell : Nat → Int32} {v_e_toldLevel : Nat → Int32} {v_g_cells : Int32} {v_g_passes : Int32} {v_g_rivers : Int32} {v_g_villages : Int32} {v_g_rains : Int32} {v_g_room : Nat → Int32} {v_g_passFrom : Nat → Int32} {v_g_passTo : Nat → Int32} {v_g_riverCell : Nat → Int32} {v_g_riverLevel : Nat → Int32} {v_g_riverSalt : Nat → Int32} {v_g_villageCell : Nat → Int32} {v_g_need : Nat → Int32} {v_g_lawEnd : Nat → Int32} {v_g_code : Nat → Int32} {v_p_pumpCell : Int32} {v_p_pumpTakes : Int32} {v_p_pumpFrom : Int32} {v_p_pumpTo : Int32} {v_p_wanting : Nat → Int32} {v_p_passWidth : Nat → Int32} {v_p_riverWidth : Nat → Int32} {v_p_rain : Nat → Int32} {v_m_live : Int32} {v_m_changed : Int32} {v_m_changedAt : Int32} {v_m_pumpCell : Int32} {v_m_pumpMuch : Int32} {v_m_pumpFrom : Int32} {v_m_pumpTo : Int32} {v_m_cells : Nat → Int32} {v_m_room : Nat → Int32} {v_m_passes : Nat → Int32} {v_m_passOne : Nat → Int32} {v_m_passOther : Nat → Int32} {v_m_rivers : Nat → Int32} {v_m_riverCell : Nat → Int32} {v_m_riverLevel : Nat → Int32} {v_m_riverWide : Nat → Int32} {v_m_riverSalt : Nat → Int32} {v_m_rains : Nat → Int32} {v_m_villages : Nat → Int32} {v_m_home : Nat → Int32} {v_m_need : Nat → Int32} {v_m_lawFrom : Nat → Int32} {v_m_lawTo : Nat → Int32} {v_m_code : Nat → Int32} {v_m_codeInt : Nat → Int32} {v_m_wants : Nat → Int32} {v_m_isOff : Nat → Int32} {v_m_wide : Nat → Int32} {v_m_rainNow : Nat → Int32} {v_m_toldDay : Nat → Int32} {v_m_toldCell : Nat → Int32} {v_m_toldLevel : Nat → Int32} {B : Int} (hB : B ≤ 1980000) (y : DY v_m_live v_m_cells v_m_room v_m_passes v_m_passOne v_m_passOther v_m_rivers v_m_riverCell v_m_riverLevel v_m_riverWide v_m_rains v_m_villages v_m_home v_m_lawFrom v_m_lawTo v_m_code v_m_codeInt) (hne : NE v_m_live v_m_villages v_m_need) (G : GL v_m_live v_g_cells v_g_passes v_g_rivers v_g_villages v_g_rains v_g_room v_g_passFrom v_g_passTo v_g_riverCell v_g_riverLevel v_g_riverSalt v_g_villageCell v_g_need v_g_lawEnd v_g_code v_m_cells v_m_room v_m_passes v_m_passOne v_m_passOther v_m_rivers v_m_riverCell v_m_riverLevel v_m_riverSalt v_m_rains v_m_villages v_m_home v_m_need v_m_lawFrom v_m_lawTo v_m_code v_m_codeInt) {K : Int32} (hK1 : 0 ≤ K.toInt ∧ K.toInt ≤ 20) (hTL : (∀ i : Nat, (i : Int) < K.toInt → v_e_toldDay i = v_m_toldDay i ∧ v_e_toldCell i = v_m_toldCell i ∧ v_e_toldLevel i = v_m_toldLevel i)) (hTC : (∀ i : Nat, (i : Int) < K.toInt → 0 ≤ (v_m_toldCell i).toInt ∧ (v_m_toldCell i).toInt < v_g_cells.toInt)) : ∀ (n m : Nat) (v_c_pumped : Int32) (v_c_today : Int32) (v_c_lacked : Nat → Int32) (v_c_level : Nat → Int32) (v_c_water : Nat → Int32) (v_c_salt : Nat → Int64) (v_c_stack : Nat → Int32) (v_d_day : Int32) (v_d_water : Nat → Int32) (v_d_salt : Nat → Int64) (v_d_seen : Nat → Int32) (v_d_took : Nat → Int32) (v_d_dryDays : Nat → Int32) (v_d_firstDry : Nat → Int32) (v_d_total : Nat → Int32) (v_pl_0 : Nat → Int32) (xk : Int32) (xq : Int32) (xl : Int32) (xd : Int32) (v_m_isBroken : Int32) (v_m_rowDay : Int32) (v_m_takenAll : Int64) (v_m_riversAll : Int64) (v_m_variables : Nat → Int32) (v_m_pile : Nat → Int32) (v_m_row : Nat → Int64) (v_m_taken : Nat → Int64) (v_m_isDry : Nat → Int32) (v_m_wouldLack : Nat → Int32) (v_m_more : Nat → Int64) (v_m_moreSalt : Nat → Int64) (v_m_isOffTold : Nat → Int32) (xm : Int32) (xl7 : Int32) (xo : Int32), 0 ≤ xd.toInt → xd.toInt ≤ xl.toInt + 1 → xl.toInt ≤ 199 → xl = xl7 → xq = -1 → xm = 0 → xo = 1 → K = xk → v_d_day = xd → PN v_m_live v_m_cells v_m_passes v_m_rains v_m_wants v_m_wide v_m_rainNow v_m_pumpCell v_m_pumpMuch → PLN v_m_live v_m_changed v_m_changedAt v_g_villages.toInt v_g_passes.toInt v_g_rivers.toInt v_g_rains.toInt v_m_pumpCell v_m_pumpMuch v_m_pumpFrom v_m_pumpTo v_p_pumpCell v_p_pumpTakes v_p_pumpFrom v_p_pumpTo v_p_wanting v_p_passWidth v_p_riverWidth v_p_rain v_m_wants v_m_isOff v_m_wide v_m_rainNow v_m_riverWide → DD v_m_live v_g_cells.toInt v_g_villages.toInt (B + xd.toInt) v_m_cells v_m_room v_d_day v_m_rowDay v_d_water v_d_salt v_d_seen v_d_took v_d_dryDays v_d_firstDry v_d_total v_m_row → pj (f_X2_fits_S_b24 v_e_fitting v_e_toldDay v_e_toldCell v_e_toldLevel v_g_cells v_g_passes v_g_rivers v_g_villages v_g_rains v_g_room v_g_passFrom v_g_passTo v_g_riverCell v_g_riverLevel v_g_riverSalt v_g_villageCell v_g_need v_g_lawEnd v_g_code v_p_pumpCell v_p_pumpTakes v_p_pumpFrom v_p_pumpTo v_p_wanting v_p_passWidth v_p_riverWidth v_p_rain n v_c_pumped v_c_today v_c_lacked v_c_level v_c_water v_c_salt v_c_stack v_d_day v_d_water v_d_salt v_d_seen v_d_took v_d_dryDays v_d_firstDry v_d_total v_pl_0 xk xq xl xd) (f_X7_fits_b50 v_m_live v_m_changed v_m_changedAt v_m_pumpCell v_m_pumpMuch v_m_pumpFrom v_m_pumpTo v_m_cells v_m_room v_m_passes v_m_passOne v_m_passOther v_m_rivers v_m_riverCell v_m_riverLevel v_m_riverWide v_m_riverSalt v_m_rains v_m_villages v_m_home v_m_need v_m_lawFrom v_m_lawTo v_m_code v_m_codeInt v_m_wants v_m_isOff v_m_wide v_m_rainNow v_m_toldDay v_m_toldCell v_m_toldLevel m v_m_isBroken v_m_rowDay v_m_takenAll v_m_riversAll v_m_variables v_m_pile v_m_row v_m_taken v_m_isDry v_m_wouldLack v_m_more v_m_moreSalt v_m_isOffTold xk xm xl7 xo xd) (fun a b => a.1 = b.1) := by
  intro n
  induction n with
  | zero => intro m v_c_pumped v_c_today v_c_lacked v_c_level v_c_water v_c_salt v_c_stack v_d_day v_d_water v_d_salt v_d_seen v_d_took v_d_dryDays v_d_firstDry v_d_total v_pl_0 xk xq xl xd v_m_isBroken v_m_rowDay v_m_takenAll v_m_riversAll v_m_variables v_m_pile v_m_row v_m_taken v_m_isDry v_m_wouldLack v_m_more v_m_moreSalt v_m_isOffTold xm xl7 xo _ _ _ _ _ _ _ _ _ _ _ _; exact pj_nl
  | succ n ih =>
    intro m v_c_pumped v_c_today v_c_lacked v_c_level v_c_water v_c_salt v_c_stack v_d_day v_d_water v_d_salt v_d_seen v_d_took v_d_dryDays v_d_firstDry v_d_total v_pl_0 xk xq xl xd v_m_isBroken v_m_rowDay v_m_takenAll v_m_riversAll v_m_variables v_m_pile v_m_row v_m_taken v_m_isDry v_m_wouldLack v_m_more v_m_moreSalt v_m_isOffTold xm xl7 xo hx0 hx1 hxn hl7 hq hm hxo hK hday p P hD
    cases m with
    | zero => exact pj_nr
    | succ m =>
    show pj (f_X2_fits_S_b24_st (f_X2_fits_S_b24 v_e_fitting v_e_toldDay v_e_toldCell v_e_toldLevel v_g_cells v_g_passes v_g_rivers v_g_villages v_g_rains v_g_room v_g_passFrom v_g_passTo v_g_riverCell v_g_riverLevel v_g_riverSalt v_g_villageCell v_g_need v_g_lawEnd v_g_code v_p_pumpCell v_p_pumpTakes v_p_pumpFrom v_p_pumpTo v_p_wanting v_p_passWidth v_p_riverWidth v_p_rain n) v_e_fitting v_e_toldDay v_e_toldCell v_e_toldLevel v_g_cells v_g_passes v_g_rivers v_g_villages v_g_rains v_g_room v_g_passFrom v_g_passTo v_g_riverCell v_g_riverLevel v_g_riverSalt v_g_villageCell v_g_need v_g_lawEnd v_g_code v_p_pumpCell v_p_pumpTakes v_p_pumpFrom v_p_pumpTo v_p_wanting v_p_passWidth v_p_riverWidth v_p_rain v_c_pumped v_c_today v_c_lacked v_c_level v_c_water v_c_salt v_c_stack v_d_day v_d_water v_d_salt v_d_seen v_d_took v_d_dryDays v_d_firstDry v_d_total v_pl_0 xk xq xl xd) (f_X7_fits_b50_st (f_X7_fits_b50 v_m_live v_m_changed v_m_changedAt v_m_pumpCell v_m_pumpMuch v_m_pumpFrom v_m_pumpTo v_m_cells v_m_room v_m_passes v_m_passOne v_m_passOther v_m_rivers v_m_riverCell v_m_riverLevel v_m_riverWide v_m_riverSalt v_m_rains v_m_villages v_m_home v_m_need v_m_lawFrom v_m_lawTo v_m_code v_m_codeInt v_m_wants v_m_isOff v_m_wide v_m_rainNow v_m_toldDay v_m_toldCell v_m_toldLevel m) v_m_live v_m_changed v_m_changedAt v_m_pumpCell v_m_pumpMuch v_m_pumpFrom v_m_pumpTo v_m_cells v_m_room v_m_passes v_m_passOne v_m_passOther v_m_rivers v_m_riverCell v_m_riverLevel v_m_riverWide v_m_riverSalt v_m_rains v_m_villages v_m_home v_m_need v_m_lawFrom v_m_lawTo v_m_code v_m_codeInt v_m_wants v_m_isOff v_m_wide v_m_rainNow v_m_toldDay v_m_toldCell v_m_toldLevel v_m_isBroken v_m_rowDay v_m_takenAll v_m_riversAll v_m_variables v_m_pile v_m_row v_m_taken v_m_isDry v_m_wouldLack v_m_more v_m_moreSalt v_m_isOffTold xk xm xl7 xo xd) _
    unfold f_X2_fits_S_b24_st f_X7_fits_b50_st
    subst hl7
    subst hK
    have hc12 := y.1.2.1
    rw [G.1] at hc12
    have hc12 : 0 ≤ v_g_cells.toInt ∧ v_g_cells.toInt ≤ 12 := hc12
    have m2 : (-2 : Int32).toInt = -2 := by decide
    have m1 : (-1 : Int32).toInt = -1 := by decide
    refine pj_ifl (fun z => pj_ifr (fun _ => pj_ckr (fun _ => pj_ss hxo.symm)) (fun k => absurd z k)) (fun z => pj_ifr (fun k => absurd k z) (fun _ => ?_))
    have g := ti_nlt z
    have t1 := add_k (x := xd) (v := 1) (k := 1) rfl (by omega) (by omega)
    have hroom : ∀ c : Nat, (c : Int) < v_g_cells.toInt → 1 ≤ (v_g_room c).toInt := fun c hc => by
      rw [G.2.2.2.2.2.1 c hc]
      exact (RW_n y.1 G.1 hD.2.1.2.2 c hc).2.2.1
    have htc : ∀ i : Nat, (i : Int) < K.toInt → (((v_e_toldCell i).toNatClampNeg : Nat) : Int) < v_g_cells.toInt := fun i hi => by
      have k := hTC i hi
      rw [(hTL i hi).2.1]
      have := cl_k k.1
      omega
    have ho : pa (f_X2_offToday v_e_toldDay v_e_toldCell v_e_toldLevel v_g_room v_d_day v_d_water K) (OFT K (MIS v_e_toldDay v_e_toldCell v_e_toldLevel v_g_room v_d_water v_d_day)) := by
      unfold f_X2_offToday
      exact c_off fuel K 0 (by decide) (by show (0 : Int) ≤ _; exact hK1.1) hK1.2 (fun i hi => hroom _ (htc i hi)) (fun i hi => absurd hi (by show ¬ (i : Int) < 0; omega))
    have hmis : ∀ i : Nat, (i : Int) < K.toInt → ((v_m_toldDay i = xd ∧ ¬ v_d_water (v_e_toldCell i).toNatClampNeg / v_g_room (v_e_toldCell i).toNatClampNeg = v_e_toldLevel i) ↔ MIS v_e_toldDay v_e_toldCell v_e_toldLevel v_g_room v_d_water v_d_day i) := fun i hi => by
      unfold MIS
      rw [(hTL i hi).1, hday]
    refine pj_bl ho (fun o2 ho2 => ?_)
    refine r_59z (L := fun i => v_d_water (v_e_toldCell i).toNatClampNeg / v_g_room (v_e_toldCell i).toNatClampNeg = v_e_toldLevel i) fuel _ _ _ _ _ _ _ _ _ _ _ _ _ _ _ _ _ _ _ (by decide) (by show (0 : Int) ≤ _; exact hK1.1) hK1.2 hm (fun i hi => ?_) (fun i hi => absurd hi (by show ¬ (i : Int) < 0; omega)) (fun hex t ht => ?_) (fun hno => ?_)
    · have k := hTC i hi
      refine pa_w (lev_eq (lv := v_d_water (v_m_toldCell i).toNatClampNeg / v_g_room (v_m_toldCell i).toNatClampNeg) y.1.1 G.2.2.2.2.2.1 (hroom _ (by rw [← (hTL i hi).2.1]; exact htc i hi)) hD.2.2 k.1 k.2 hc12.2 rfl) (fun o ho => ?_)
      rw [lg_cmp_eq, ho, i64_inj, (hTL i hi).2.1, (hTL i hi).2.2]
    · have n2 : ¬ o2 = -2 := fun k => by
        obtain ⟨i, hi, hm'⟩ := hex
        rcases ho2 with ⟨_, n2⟩ | ⟨o0, _⟩
        · exact n2 i hi ((hmis i hi).mp hm')
        · have := z_eq m2 k
          omega
      exact pj_ifl (fun k => absurd k n2) (fun _ => pj_ss ht.symm)
    have e2 : o2 = -2 := by
      rcases ho2 with ⟨e, _⟩ | ⟨o0, o1, om, _⟩
      · exact e
      · have eo : (o2.toNatClampNeg : Int) = o2.toInt := cl_k o0
        exact absurd ((hmis _ (by omega)).mpr om) (hno _ (by omega))
    refine pj_ifl (fun _ => pj_ifl (fun k => ?_) (fun _ => ?_)) (fun k => absurd e2 k)
    · have := z_eq m1 (k.trans hq)
      omega
    unfold f_X2_fits_S_b52
    refine pj_ifl (fun k => ?_) (fun k => ?_)
    · have g2 := ti_le k
      refine pj_of (c_24e_S n _ _ _ _ _ _ _ _ _ _ _ _ _ _ _ _ _ _ _ _ (by omega)) (Q := fun b => b.1 = 1) (pa_bd12 pa_tr (fun b0 b1 b2 b3 b4 b5 b6 b7 b8 b9 b10 b11 _ => pa_w (r_50e m _ _ _ _ _ _ _ _ _ _ _ _ _ _ _ _ _ _ (by omega)) (fun o ho => ho.trans hxo))) (fun a b ha hb => ?_)
      exact ha.trans hb.symm
    · have g2 := ti_nle k
      refine pj_b15_12 (pj_and_r (j_dd y hne G p P hD (by omega)) m_gday) (fun a0 a1 a2 a3 a4 a5 a6 a7 a8 a9 a10 a11 a12 a13 a14 b0 b1 b2 b3 b4 b5 b6 b7 b8 b9 b10 b11 hab => ?_)
      obtain ⟨⟨hD2, _⟩, hb1⟩ := hab
      have hb1 : b1 = v_m_rowDay + 1 := hb1
      have hD1 : a7 = b1 := hD2.1
      refine ih m _ _ _ _ _ _ _ _ _ _ _ _ _ _ _ _ _ _ _ _ _ _ _ _ _ _ _ _ _ _ _ _ _ _ _ _ (by omega) (by omega) hxn rfl hq hm hxo rfl ?_ p P (by rw [t1, ← Int.add_assoc]; exact hD2)
      rw [hD1, hb1, ← hday, hD.1]
set_option maxHeartbeats 8000000 in
theorem j_fits_S {v_e_fitting : Int32} {v_e_toldDay : Nat → Int32} {v_e_toldCell : Nat → Int32} {v_e_toldLevel : Nat → Int32} {v_g_cells : Int32} {v_g_passes : Int32} {v_g_rivers : Int32} {v_g_villages : Int32} {v_g_rains : Int32} {v_g_room : Nat → Int32} {v_g_water : Nat → Int32} {v_g_passFrom : Nat → Int32} {v_g_passTo : Nat → Int32} {v_g_riverCell : Nat → Int32} {v_g_riverLevel : Nat → Int32} {v_g_riverSalt : Nat → Int32} {v_g_villageCell : Nat → Int32} {v_g_need : Nat → Int32} {v_g_lawEnd : Nat → Int32} {v_g_code : Nat → Int32} {v_p_pumpCell : Int32} {v_p_pumpTakes : Int32} {v_p_pumpFrom : Int32} {v_p_pumpTo : Int32} {v_p_wanting : Nat → Int32} {v_p_passWidth : Nat → Int32} {v_p_riverWidth : Nat → Int32} {v_p_rain : Nat → Int32} {v_c_pumped : Int32} {v_c_today : Int32} {v_c_lacked : Nat → Int32} {v_c_level : Nat → Int32} {v_c_water : Nat → Int32} {v_c_salt : Nat → Int64} {v_c_stack : Nat → Int32} {v_d_day : Int32} {v_d_water : Nat → Int32} {v_d_salt : Nat → Int64} {v_d_seen : Nat → Int32} {v_d_took : Nat → Int32} {v_d_dryDays : Nat → Int32} {v_d_firstDry : Nat → Int32} {v_d_total : Nat → Int32} {v_pl_0 : Nat → Int32} {v_m_live : Int32} {v_m_changed : Int32} {v_m_changedAt : Int32} {v_m_pumpCell : Int32} {v_m_pumpMuch : Int32} {v_m_pumpFrom : Int32} {v_m_pumpTo : Int32} {v_m_cells : Nat → Int32} {v_m_room : Nat → Int32} {v_m_passes : Nat → Int32} {v_m_passOne : Nat → Int32} {v_m_passOther : Nat → Int32} {v_m_rivers : Nat → Int32} {v_m_riverCell : Nat → Int32} {v_m_riverLevel : Nat → Int32} {v_m_riverWide : Nat → Int32} {v_m_riverSalt : Nat → Int32} {v_m_rains : Nat → Int32} {v_m_villages : Nat → Int32} {v_m_home : Nat → Int32} {v_m_need : Nat → Int32} {v_m_lawFrom : Nat → Int32} {v_m_lawTo : Nat → Int32} {v_m_code : Nat → Int32} {v_m_codeInt : Nat → Int32} {v_m_wants : Nat → Int32} {v_m_isOff : Nat → Int32} {v_m_wide : Nat → Int32} {v_m_rainNow : Nat → Int32} {v_m_toldDay : Nat → Int32} {v_m_toldCell : Nat → Int32} {v_m_toldLevel : Nat → Int32} {v_m_isBroken : Int32} {v_m_rowDay : Int32} {v_m_takenAll : Int64} {v_m_riversAll : Int64} {v_m_variables : Nat → Int32} {v_m_pile : Nat → Int32} {v_m_row : Nat → Int64} {v_m_taken : Nat → Int64} {v_m_isDry : Nat → Int32} {v_m_wouldLack : Nat → Int32} {v_m_more : Nat → Int64} {v_m_moreSalt : Nat → Int64} {v_m_isOffTold : Nat → Int32} {v_m_water : Nat → Int32} (y : DY v_m_live v_m_cells v_m_room v_m_passes v_m_passOne v_m_passOther v_m_rivers v_m_riverCell v_m_riverLevel v_m_riverWide v_m_rains v_m_villages v_m_home v_m_lawFrom v_m_lawTo v_m_code v_m_codeInt) (hne : NE v_m_live v_m_villages v_m_need) (G : GL v_m_live v_g_cells v_g_passes v_g_rivers v_g_villages v_g_rains v_g_room v_g_passFrom v_g_passTo v_g_riverCell v_g_riverLevel v_g_riverSalt v_g_villageCell v_g_need v_g_lawEnd v_g_code v_m_cells v_m_room v_m_passes v_m_passOne v_m_passOther v_m_rivers v_m_riverCell v_m_riverLevel v_m_riverSalt v_m_rains v_m_villages v_m_home v_m_need v_m_lawFrom v_m_lawTo v_m_code v_m_codeInt) (hwa : WA v_m_live v_m_cells v_m_water) (gw : AL v_g_water v_m_water (12 * v_m_live.toNatClampNeg) v_g_cells.toInt) (ja : al v_m_toldDay 0 199) (p : PN v_m_live v_m_cells v_m_passes v_m_rains v_m_wants v_m_wide v_m_rainNow v_m_pumpCell v_m_pumpMuch) (P : PLN v_m_live v_m_changed v_m_changedAt v_g_villages.toInt v_g_passes.toInt v_g_rivers.toInt v_g_rains.toInt v_m_pumpCell v_m_pumpMuch v_m_pumpFrom v_m_pumpTo v_p_pumpCell v_p_pumpTakes v_p_pumpFrom v_p_pumpTo v_p_wanting v_p_passWidth v_p_riverWidth v_p_rain v_m_wants v_m_isOff v_m_wide v_m_rainNow v_m_riverWide) (hr0 : v_m_rowDay = 0) (hrow : ∀ j, j < 60 → v_m_row j = if 48 ≤ j ∧ j < 54 then -2 else if (j : Int) < v_g_cells.toInt then (v_m_water (12 * v_m_live.toNatClampNeg + j)).toInt64 else 0) (hRD : RD v_m_live v_m_cells v_m_room v_m_row v_m_rowDay 0) {K : Int32} (hK1 : 0 ≤ K.toInt ∧ K.toInt ≤ 20) (hTL : (∀ i : Nat, (i : Int) < K.toInt → v_e_toldDay i = v_m_toldDay i ∧ v_e_toldCell i = v_m_toldCell i ∧ v_e_toldLevel i = v_m_toldLevel i)) (hTC : (∀ i : Nat, (i : Int) < K.toInt → 0 ≤ (v_m_toldCell i).toInt ∧ (v_m_toldCell i).toInt < v_g_cells.toInt)) : pj (f_X2_fits_S v_e_fitting v_e_toldDay v_e_toldCell v_e_toldLevel v_g_cells v_g_passes v_g_rivers v_g_villages v_g_rains v_g_room v_g_water v_g_passFrom v_g_passTo v_g_riverCell v_g_riverLevel v_g_riverSalt v_g_villageCell v_g_need v_g_lawEnd v_g_code v_p_pumpCell v_p_pumpTakes v_p_pumpFrom v_p_pumpTo v_p_wanting v_p_passWidth v_p_riverWidth v_p_rain v_c_pumped v_c_today v_c_lacked v_c_level v_c_water v_c_salt v_c_stack v_d_day v_d_water v_d_salt v_d_seen v_d_took v_d_dryDays v_d_firstDry v_d_total v_pl_0 K (-1 : Int32)) (f_X7_fits v_m_live v_m_changed v_m_changedAt v_m_pumpCell v_m_pumpMuch v_m_pumpFrom v_m_pumpTo v_m_cells v_m_room v_m_passes v_m_passOne v_m_passOther v_m_rivers v_m_riverCell v_m_riverLevel v_m_riverWide v_m_riverSalt v_m_rains v_m_villages v_m_home v_m_need v_m_lawFrom v_m_lawTo v_m_code v_m_codeInt v_m_wants v_m_isOff v_m_wide v_m_rainNow v_m_toldDay v_m_toldCell v_m_toldLevel v_m_isBroken v_m_rowDay v_m_takenAll v_m_riversAll v_m_variables v_m_pile v_m_row v_m_taken v_m_isDry v_m_wouldLack v_m_more v_m_moreSalt v_m_isOffTold K (0 : Int32)) (fun a b => a.1 = b.1) := by
  have hc12 := y.1.2.1
  rw [G.1] at hc12
  have hc12 : 0 ≤ v_g_cells.toInt ∧ v_g_cells.toInt ≤ 12 := hc12
  have hv6 := y.2.2.2.1
  rw [G.2.2.2.1] at hv6
  have hv6 : 0 ≤ v_g_villages.toInt ∧ v_g_villages.toInt ≤ 6 := hv6
  have ja0 : ∀ i, 0 ≤ (v_m_toldDay i).toInt := fun i => (ja i).1
  have ja1 : ∀ i, (v_m_toldDay i).toInt ≤ 199 := fun i => (ja i).2
  have kn : (K.toNatClampNeg : Int) = K.toInt := cl_k hK1.1
  have m1 : (-1 : Int32).toInt = -1 := by decide
  unfold f_X2_fits_S f_X7_fits
  refine pj_bl (c_last hK1.1 hK1.2) (fun lo hlo => pj_bl8 c_beg (fun d0 d1 d2 d3 d4 d5 d6 d7 hb => ?_))
  have hlo2 : lo.toInt = LDY v_m_toldDay K.toNatClampNeg := hlo.trans (LD_eq _ (fun i hi => (hTL i (by omega)).1))
  have rng := LD_rg ja1 K.toNatClampNeg
  rw [if_neg (show ¬ lo < (-1 : Int32) from fun q => by have := lt_k (k := -1) m1 q; omega)]
  have hD : DD v_m_live v_g_cells.toInt v_g_villages.toInt 0 v_m_cells v_m_room d0 v_m_rowDay d1 d2 d3 d4 d5 d6 d7 v_m_row := ⟨hb.1.trans hr0.symm, hRD, DA_begin hc12.2 hv6.2 hr0 hb.2.1 hb.2.2 gw hrow⟩
  refine r_5 fuel _ _ _ _ _ _ _ _ _ _ _ _ _ _ _ _ _ (by decide) (by show (0 : Int) ≤ _; exact hK1.1) hK1.2 (show (-1 : Int32).toInt = -1 by decide) (fun i hi => absurd hi (by show ¬ (i : Int) < 0; omega)) (fun off' x3' hz h3 => ?_)
  by_cases q : K = 0
  · refine pj_of (c_24z_S fuel _ _ _ _ _ _ _ _ _ _ _ _ _ _ _ _ _ _ _ _ q rfl (by decide) (by decide) (by omega)) (Q := fun b => b.1 = 1) (r_50e fuel _ _ _ _ _ _ _ _ _ _ _ _ _ _ _ _ _ _ ?_) (fun a b ha hb => ?_)
    · rw [h3, q]
      show (-1 : Int) < 0
      omega
    · exact ha.trans hb.symm
  · have q0 : ¬ K.toInt = 0 := fun k => q (z_of (k := 0) rfl k)
    have e7 : lo = x3' := by
      apply Int32.toInt_inj.mp
      rw [hlo2, h3]
      obtain ⟨m, hm⟩ : ∃ m, K.toNatClampNeg = m + 1 := ⟨K.toNatClampNeg - 1, by omega⟩
      rw [hm, L7_LD ja0]
    refine l_fit_S (B := 0) (K := K) (by decide) y hne G hK1 hTL hTC fuel fuel _ _ _ _ _ _ _ _ _ _ _ _ _ _ _ _ _ _ _ _ _ _ _ _ _ _ _ _ _ _ _ _ _ _ _ _ (by decide) (by show (0 : Int) ≤ _; omega) (by omega) e7 rfl rfl rfl rfl hb.1 p P ?_
    rw [show (0 : Int) + (0 : Int32).toInt = 0 from rfl]
    exact hD
theorem c_24e_N {v_e_fitting : Int32} {v_e_toldDay : Nat → Int32} {v_e_toldCell : Nat → Int32} {v_e_toldLevel : Nat → Int32} {v_g_cells : Int32} {v_g_passes : Int32} {v_g_rivers : Int32} {v_g_villages : Int32} {v_g_rains : Int32} {v_g_room : Nat → Int32} {v_g_passFrom : Nat → Int32} {v_g_passTo : Nat → Int32} {v_g_riverCell : Nat → Int32} {v_g_riverLevel : Nat → Int32} {v_g_riverSalt : Nat → Int32} {v_g_villageCell : Nat → Int32} {v_g_need : Nat → Int32} {v_g_lawEnd : Nat → Int32} {v_g_code : Nat → Int32} {v_p_pumpCell : Int32} {v_p_pumpTakes : Int32} {v_p_pumpFrom : Int32} {v_p_pumpTo : Int32} {v_p_wanting : Nat → Int32} {v_p_passWidth : Nat → Int32} {v_p_riverWidth : Nat → Int32} {v_p_rain : Nat → Int32} : ∀ (n : Nat) (v_c_pumped : Int32) (v_c_today : Int32) (v_c_lacked : Nat → Int32) (v_c_level : Nat → Int32) (v_c_water : Nat → Int32) (v_c_salt : Nat → Int64) (v_c_stack : Nat → Int32) (v_d_day : Int32) (v_d_water : Nat → Int32) (v_d_salt : Nat → Int64) (v_d_seen : Nat → Int32) (v_d_took : Nat → Int32) (v_d_dryDays : Nat → Int32) (v_d_firstDry : Nat → Int32) (v_d_total : Nat → Int32) (x1 : Int32) (x2 : Int32) (x3 : Int32) (x4 : Int32), x3.toInt < x4.toInt → pa (f_X2_fits_N_b24 v_e_fitting v_e_toldDay v_e_toldCell v_e_toldLevel v_g_cells v_g_passes v_g_rivers v_g_villages v_g_rains v_g_room v_g_passFrom v_g_passTo v_g_riverCell v_g_riverLevel v_g_riverSalt v_g_villageCell v_g_need v_g_lawEnd v_g_code v_p_pumpCell v_p_pumpTakes v_p_pumpFrom v_p_pumpTo v_p_wanting v_p_passWidth v_p_riverWidth v_p_rain n v_c_pumped v_c_today v_c_lacked v_c_level v_c_water v_c_salt v_c_stack v_d_day v_d_water v_d_salt v_d_seen v_d_took v_d_dryDays v_d_firstDry v_d_total x1 x2 x3 x4) (fun a => ∃ t, a = .inl t ∧ t.1 = 1) := by
  intro n v_c_pumped v_c_today v_c_lacked v_c_level v_c_water v_c_salt v_c_stack v_d_day v_d_water v_d_salt v_d_seen v_d_took v_d_dryDays v_d_firstDry v_d_total x1 x2 x3 x4 h
  cases n with
  | zero => exact pa_none
  | succ n =>
    show pa (f_X2_fits_N_b24_st (f_X2_fits_N_b24 v_e_fitting v_e_toldDay v_e_toldCell v_e_toldLevel v_g_cells v_g_passes v_g_rivers v_g_villages v_g_rains v_g_room v_g_passFrom v_g_passTo v_g_riverCell v_g_riverLevel v_g_riverSalt v_g_villageCell v_g_need v_g_lawEnd v_g_code v_p_pumpCell v_p_pumpTakes v_p_pumpFrom v_p_pumpTo v_p_wanting v_p_passWidth v_p_riverWidth v_p_rain n) v_e_fitting v_e_toldDay v_e_toldCell v_e_toldLevel v_g_cells v_g_passes v_g_rivers v_g_villages v_g_rains v_g_room v_g_passFrom v_g_passTo v_g_riverCell v_g_riverLevel v_g_riverSalt v_g_villageCell v_g_need v_g_lawEnd v_g_code v_p_pumpCell v_p_pumpTakes v_p_pumpFrom v_p_pumpTo v_p_wanting v_p_passWidth v_p_riverWidth v_p_rain v_c_pumped v_c_today v_c_lacked v_c_level v_c_water v_c_salt v_c_stack v_d_day v_d_water v_d_salt v_d_seen v_d_took v_d_dryDays v_d_firstDry v_d_total x1 x2 x3 x4) _
    unfold f_X2_fits_N_b24_st
    refine pa_if (fun _ => pa_some ⟨_, rfl, rfl⟩) (fun z => ?_)
    have := ti_nlt z
    omega
set_option maxHeartbeats 4000000 in
theorem c_24z_N {v_e_fitting : Int32} {v_e_toldDay : Nat → Int32} {v_e_toldCell : Nat → Int32} {v_e_toldLevel : Nat → Int32} {v_g_cells : Int32} {v_g_passes : Int32} {v_g_rivers : Int32} {v_g_villages : Int32} {v_g_rains : Int32} {v_g_room : Nat → Int32} {v_g_passFrom : Nat → Int32} {v_g_passTo : Nat → Int32} {v_g_riverCell : Nat → Int32} {v_g_riverLevel : Nat → Int32} {v_g_riverSalt : Nat → Int32} {v_g_villageCell : Nat → Int32} {v_g_need : Nat → Int32} {v_g_lawEnd : Nat → Int32} {v_g_code : Nat → Int32} {v_p_pumpCell : Int32} {v_p_pumpTakes : Int32} {v_p_pumpFrom : Int32} {v_p_pumpTo : Int32} {v_p_wanting : Nat → Int32} {v_p_passWidth : Nat → Int32} {v_p_riverWidth : Nat → Int32} {v_p_rain : Nat → Int32} : ∀ (n : Nat) (v_c_pumped : Int32) (v_c_today : Int32) (v_c_lacked : Nat → Int32) (v_c_level : Nat → Int32) (v_c_water : Nat → Int32) (v_c_salt : Nat → Int64) (v_c_stack : Nat → Int32) (v_d_day : Int32) (v_d_water : Nat → Int32) (v_d_salt : Nat → Int64) (v_d_seen : Nat → Int32) (v_d_took : Nat → Int32) (v_d_dryDays : Nat → Int32) (v_d_firstDry : Nat → Int32) (v_d_total : Nat → Int32) (x1 : Int32) (x2 : Int32) (x3 : Int32) (x4 : Int32), x1 = 0 → x2 = -1 → 0 ≤ x4.toInt → x4.toInt ≤ 1000 → x3.toInt ≤ 500 → pa (f_X2_fits_N_b24 v_e_fitting v_e_toldDay v_e_toldCell v_e_toldLevel v_g_cells v_g_passes v_g_rivers v_g_villages v_g_rains v_g_room v_g_passFrom v_g_passTo v_g_riverCell v_g_riverLevel v_g_riverSalt v_g_villageCell v_g_need v_g_lawEnd v_g_code v_p_pumpCell v_p_pumpTakes v_p_pumpFrom v_p_pumpTo v_p_wanting v_p_passWidth v_p_riverWidth v_p_rain n v_c_pumped v_c_today v_c_lacked v_c_level v_c_water v_c_salt v_c_stack v_d_day v_d_water v_d_salt v_d_seen v_d_took v_d_dryDays v_d_firstDry v_d_total x1 x2 x3 x4) (fun a => ∃ t, a = .inl t ∧ t.1 = 1) := by
  intro n
  induction n with
  | zero => intro v_c_pumped v_c_today v_c_lacked v_c_level v_c_water v_c_salt v_c_stack v_d_day v_d_water v_d_salt v_d_seen v_d_took v_d_dryDays v_d_firstDry v_d_total x1 x2 x3 x4 _ _ _ _ _; exact pa_none
  | succ n ih =>
    intro v_c_pumped v_c_today v_c_lacked v_c_level v_c_water v_c_salt v_c_stack v_d_day v_d_water v_d_salt v_d_seen v_d_took v_d_dryDays v_d_firstDry v_d_total x1 x2 x3 x4 h1 h2 h4 h5 h3
    show pa (f_X2_fits_N_b24_st (f_X2_fits_N_b24 v_e_fitting v_e_toldDay v_e_toldCell v_e_toldLevel v_g_cells v_g_passes v_g_rivers v_g_villages v_g_rains v_g_room v_g_passFrom v_g_passTo v_g_riverCell v_g_riverLevel v_g_riverSalt v_g_villageCell v_g_need v_g_lawEnd v_g_code v_p_pumpCell v_p_pumpTakes v_p_pumpFrom v_p_pumpTo v_p_wanting v_p_passWidth v_p_riverWidth v_p_rain n) v_e_fitting v_e_toldDay v_e_toldCell v_e_toldLevel v_g_cells v_g_passes v_g_rivers v_g_villages v_g_rains v_g_room v_g_passFrom v_g_passTo v_g_riverCell v_g_riverLevel v_g_riverSalt v_g_villageCell v_g_need v_g_lawEnd v_g_code v_p_pumpCell v_p_pumpTakes v_p_pumpFrom v_p_pumpTo v_p_wanting v_p_passWidth v_p_riverWidth v_p_rain v_c_pumped v_c_today v_c_lacked v_c_level v_c_water v_c_salt v_c_stack v_d_day v_d_water v_d_salt v_d_seen v_d_took v_d_dryDays v_d_firstDry v_d_total x1 x2 x3 x4) _
    unfold f_X2_fits_N_b24_st
    subst h1
    have m1 : (-1 : Int32).toInt = -1 := by decide
    refine pa_if (fun _ => pa_some ⟨_, rfl, rfl⟩) (fun z => ?_)
    have g := ti_nlt z
    have t1 := add_k (x := x4) (v := 1) (k := 1) rfl (by omega) (by omega)
    have ho : pa (f_X2_offToday v_e_toldDay v_e_toldCell v_e_toldLevel v_g_room v_d_day v_d_water 0) (OFT 0 (MIS v_e_toldDay v_e_toldCell v_e_toldLevel v_g_room v_d_water v_d_day)) := by
      unfold f_X2_offToday
      exact c_off fuel 0 0 (by decide) (by decide) (by decide) (fun i hi => absurd hi (by show ¬ (i : Int) < 0; omega)) (fun i hi => absurd hi (by show ¬ (i : Int) < 0; omega))
    refine pa_bd ho (fun o2 ho2 => ?_)
    have e2 : o2 = -2 := by
      rcases ho2 with ⟨e, _⟩ | ⟨a, b, _⟩
      · exact e
      · have b : o2.toInt < 0 := b
        omega
    refine pa_if (fun _ => pa_if (fun k => ?_) (fun _ => ?_)) (fun k => absurd e2 k)
    · have := z_eq m1 (k.trans h2)
      omega
    unfold f_X2_fits_N_b52
    exact pa_if (fun _ => ih _ _ _ _ _ _ _ _ _ _ _ _ _ _ _ _ _ _ _ rfl h2 (by omega) (by omega) h3) (fun _ => pa_bd15 pa_tr (fun a0 a1 a2 a3 a4 a5 a6 a7 a8 a9 a10 a11 a12 a13 a14 _ => ih _ _ _ _ _ _ _ _ _ _ _ _ _ _ _ _ _ _ _ rfl h2 (by omega) (by omega) h3))
set_option maxHeartbeats 8000000 in
theorem l_fit_N {v_e_fitting : Int32} {v_e_toldDay : Nat → Int32} {v_e_toldCell : Nat → Int32} {v_e_toldLevel : Nat → Int32} {v_g_cells : Int32} {v_g_passes : Int32} {v_g_rivers : Int32} {v_g_villages : Int32} {v_g_rains : Int32} {v_g_room : Nat → Int32} {v_g_passFrom : Nat → Int32} {v_g_passTo : Nat → Int32} {v_g_riverCell : Nat → Int32} {v_g_riverLevel : Nat → Int32} {v_g_riverSalt : Nat → Int32} {v_g_villageCell : Nat → Int32} {v_g_need : Nat → Int32} {v_g_lawEnd : Nat → Int32} {v_g_code : Nat → Int32} {v_p_pumpCell : Int32} {v_p_pumpTakes : Int32} {v_p_pumpFrom : Int32} {v_p_pumpTo : Int32} {v_p_wanting : Nat → Int32} {v_p_passWidth : Nat → Int32} {v_p_riverWidth : Nat → Int32} {v_p_rain : Nat → Int32} {v_m_live : Int32} {v_m_changed : Int32} {v_m_changedAt : Int32} {v_m_pumpCell : Int32} {v_m_pumpMuch : Int32} {v_m_pumpFrom : Int32} {v_m_pumpTo : Int32} {v_m_cells : Nat → Int32} {v_m_room : Nat → Int32} {v_m_passes : Nat → Int32} {v_m_passOne : Nat → Int32} {v_m_passOther : Nat → Int32} {v_m_rivers : Nat → Int32} {v_m_riverCell : Nat → Int32} {v_m_riverLevel : Nat → Int32} {v_m_riverWide : Nat → Int32} {v_m_riverSalt : Nat → Int32} {v_m_rains : Nat → Int32} {v_m_villages : Nat → Int32} {v_m_home : Nat → Int32} {v_m_need : Nat → Int32} {v_m_lawFrom : Nat → Int32} {v_m_lawTo : Nat → Int32} {v_m_code : Nat → Int32} {v_m_codeInt : Nat → Int32} {v_m_wants : Nat → Int32} {v_m_isOff : Nat → Int32} {v_m_wide : Nat → Int32} {v_m_rainNow : Nat → Int32} {v_m_toldDay : Nat → Int32} {v_m_toldCell : Nat → Int32} {v_m_toldLevel : Nat → Int32} {B : Int} (hB : B ≤ 1980000) (y : DY v_m_live v_m_cells v_m_room v_m_passes v_m_passOne v_m_passOther v_m_rivers v_m_riverCell v_m_riverLevel v_m_riverWide v_m_rains v_m_villages v_m_home v_m_lawFrom v_m_lawTo v_m_code v_m_codeInt) (hne : NE v_m_live v_m_villages v_m_need) (G : GL v_m_live v_g_cells v_g_passes v_g_rivers v_g_villages v_g_rains v_g_room v_g_passFrom v_g_passTo v_g_riverCell v_g_riverLevel v_g_riverSalt v_g_villageCell v_g_need v_g_lawEnd v_g_code v_m_cells v_m_room v_m_passes v_m_passOne v_m_passOther v_m_rivers v_m_riverCell v_m_riverLevel v_m_riverSalt v_m_rains v_m_villages v_m_home v_m_need v_m_lawFrom v_m_lawTo v_m_code v_m_codeInt) {K : Int32} (hK1 : 0 ≤ K.toInt ∧ K.toInt ≤ 20) (hTL : (∀ i : Nat, (i : Int) < K.toInt → v_e_toldDay i = v_m_toldDay i ∧ v_e_toldCell i = v_m_toldCell i ∧ v_e_toldLevel i = v_m_toldLevel i)) (hTC : (∀ i : Nat, (i : Int) < K.toInt → 0 ≤ (v_m_toldCell i).toInt ∧ (v_m_toldCell i).toInt < v_g_cells.toInt)) : ∀ (n m : Nat) (v_c_pumped : Int32) (v_c_today : Int32) (v_c_lacked : Nat → Int32) (v_c_level : Nat → Int32) (v_c_water : Nat → Int32) (v_c_salt : Nat → Int64) (v_c_stack : Nat → Int32) (v_d_day : Int32) (v_d_water : Nat → Int32) (v_d_salt : Nat → Int64) (v_d_seen : Nat → Int32) (v_d_took : Nat → Int32) (v_d_dryDays : Nat → Int32) (v_d_firstDry : Nat → Int32) (v_d_total : Nat → Int32) (xk : Int32) (xq : Int32) (xl : Int32) (xd : Int32) (v_m_isBroken : Int32) (v_m_rowDay : Int32) (v_m_takenAll : Int64) (v_m_riversAll : Int64) (v_m_variables : Nat → Int32) (v_m_pile : Nat → Int32) (v_m_row : Nat → Int64) (v_m_taken : Nat → Int64) (v_m_isDry : Nat → Int32) (v_m_wouldLack : Nat → Int32) (v_m_more : Nat → Int64) (v_m_moreSalt : Nat → Int64) (v_m_isOffTold : Nat → Int32) (xm : Int32) (xl7 : Int32) (xo : Int32), 0 ≤ xd.toInt → xd.toInt ≤ xl.toInt + 1 → xl.toInt ≤ 199 → xl = xl7 → xq = -1 → xm = 0 → xo = 1 → K = xk → v_d_day = xd → PN v_m_live v_m_cells v_m_passes v_m_rains v_m_wants v_m_wide v_m_rainNow v_m_pumpCell v_m_pumpMuch → PLN v_m_live v_m_changed v_m_changedAt v_g_villages.toInt v_g_passes.toInt v_g_rivers.toInt v_g_rains.toInt v_m_pumpCell v_m_pumpMuch v_m_pumpFrom v_m_pumpTo v_p_pumpCell v_p_pumpTakes v_p_pumpFrom v_p_pumpTo v_p_wanting v_p_passWidth v_p_riverWidth v_p_rain v_m_wants v_m_isOff v_m_wide v_m_rainNow v_m_riverWide → DD v_m_live v_g_cells.toInt v_g_villages.toInt (B + xd.toInt) v_m_cells v_m_room v_d_day v_m_rowDay v_d_water v_d_salt v_d_seen v_d_took v_d_dryDays v_d_firstDry v_d_total v_m_row → pj (f_X2_fits_N_b24 v_e_fitting v_e_toldDay v_e_toldCell v_e_toldLevel v_g_cells v_g_passes v_g_rivers v_g_villages v_g_rains v_g_room v_g_passFrom v_g_passTo v_g_riverCell v_g_riverLevel v_g_riverSalt v_g_villageCell v_g_need v_g_lawEnd v_g_code v_p_pumpCell v_p_pumpTakes v_p_pumpFrom v_p_pumpTo v_p_wanting v_p_passWidth v_p_riverWidth v_p_rain n v_c_pumped v_c_today v_c_lacked v_c_level v_c_water v_c_salt v_c_stack v_d_day v_d_water v_d_salt v_d_seen v_d_took v_d_dryDays v_d_firstDry v_d_total xk xq xl xd) (f_X7_fits_b50 v_m_live v_m_changed v_m_changedAt v_m_pumpCell v_m_pumpMuch v_m_pumpFrom v_m_pumpTo v_m_cells v_m_room v_m_passes v_m_passOne v_m_passOther v_m_rivers v_m_riverCell v_m_riverLevel v_m_riverWide v_m_riverSalt v_m_rains v_m_villages v_m_home v_m_need v_m_lawFrom v_m_lawTo v_m_code v_m_codeInt v_m_wants v_m_isOff v_m_wide v_m_rainNow v_m_toldDay v_m_toldCell v_m_toldLevel m v_m_isBroken v_m_rowDay v_m_takenAll v_m_riversAll v_m_variables v_m_pile v_m_row v_m_taken v_m_isDry v_m_wouldLack v_m_more v_m_moreSalt v_m_isOffTold xk xm xl7 xo xd) (fun a b => ∃ t, a = .inl t ∧ t.1 = b.1) := by
  intro n
  induction n with
  | zero => intro m v_c_pumped v_c_today v_c_lacked v_c_level v_c_water v_c_salt v_c_stack v_d_day v_d_water v_d_salt v_d_seen v_d_took v_d_dryDays v_d_firstDry v_d_total xk xq xl xd v_m_isBroken v_m_rowDay v_m_takenAll v_m_riversAll v_m_variables v_m_pile v_m_row v_m_taken v_m_isDry v_m_wouldLack v_m_more v_m_moreSalt v_m_isOffTold xm xl7 xo _ _ _ _ _ _ _ _ _ _ _ _; exact pj_nl
  | succ n ih =>
    intro m v_c_pumped v_c_today v_c_lacked v_c_level v_c_water v_c_salt v_c_stack v_d_day v_d_water v_d_salt v_d_seen v_d_took v_d_dryDays v_d_firstDry v_d_total xk xq xl xd v_m_isBroken v_m_rowDay v_m_takenAll v_m_riversAll v_m_variables v_m_pile v_m_row v_m_taken v_m_isDry v_m_wouldLack v_m_more v_m_moreSalt v_m_isOffTold xm xl7 xo hx0 hx1 hxn hl7 hq hm hxo hK hday p P hD
    cases m with
    | zero => exact pj_nr
    | succ m =>
    show pj (f_X2_fits_N_b24_st (f_X2_fits_N_b24 v_e_fitting v_e_toldDay v_e_toldCell v_e_toldLevel v_g_cells v_g_passes v_g_rivers v_g_villages v_g_rains v_g_room v_g_passFrom v_g_passTo v_g_riverCell v_g_riverLevel v_g_riverSalt v_g_villageCell v_g_need v_g_lawEnd v_g_code v_p_pumpCell v_p_pumpTakes v_p_pumpFrom v_p_pumpTo v_p_wanting v_p_passWidth v_p_riverWidth v_p_rain n) v_e_fitting v_e_toldDay v_e_toldCell v_e_toldLevel v_g_cells v_g_passes v_g_rivers v_g_villages v_g_rains v_g_room v_g_passFrom v_g_passTo v_g_riverCell v_g_riverLevel v_g_riverSalt v_g_villageCell v_g_need v_g_lawEnd v_g_code v_p_pumpCell v_p_pumpTakes v_p_pumpFrom v_p_pumpTo v_p_wanting v_p_passWidth v_p_riverWidth v_p_rain v_c_pumped v_c_today v_c_lacked v_c_level v_c_water v_c_salt v_c_stack v_d_day v_d_water v_d_salt v_d_seen v_d_took v_d_dryDays v_d_firstDry v_d_total xk xq xl xd) (f_X7_fits_b50_st (f_X7_fits_b50 v_m_live v_m_changed v_m_changedAt v_m_pumpCell v_m_pumpMuch v_m_pumpFrom v_m_pumpTo v_m_cells v_m_room v_m_passes v_m_passOne v_m_passOther v_m_rivers v_m_riverCell v_m_riverLevel v_m_riverWide v_m_riverSalt v_m_rains v_m_villages v_m_home v_m_need v_m_lawFrom v_m_lawTo v_m_code v_m_codeInt v_m_wants v_m_isOff v_m_wide v_m_rainNow v_m_toldDay v_m_toldCell v_m_toldLevel m) v_m_live v_m_changed v_m_changedAt v_m_pumpCell v_m_pumpMuch v_m_pumpFrom v_m_pumpTo v_m_cells v_m_room v_m_passes v_m_passOne v_m_passOther v_m_rivers v_m_riverCell v_m_riverLevel v_m_riverWide v_m_riverSalt v_m_rains v_m_villages v_m_home v_m_need v_m_lawFrom v_m_lawTo v_m_code v_m_codeInt v_m_wants v_m_isOff v_m_wide v_m_rainNow v_m_toldDay v_m_toldCell v_m_toldLevel v_m_isBroken v_m_rowDay v_m_takenAll v_m_riversAll v_m_variables v_m_pile v_m_row v_m_taken v_m_isDry v_m_wouldLack v_m_more v_m_moreSalt v_m_isOffTold xk xm xl7 xo xd) _
    unfold f_X2_fits_N_b24_st f_X7_fits_b50_st
    subst hl7
    subst hK
    have hc12 := y.1.2.1
    rw [G.1] at hc12
    have hc12 : 0 ≤ v_g_cells.toInt ∧ v_g_cells.toInt ≤ 12 := hc12
    have m2 : (-2 : Int32).toInt = -2 := by decide
    have m1 : (-1 : Int32).toInt = -1 := by decide
    refine pj_ifl (fun z => pj_ifr (fun _ => pj_ckr (fun _ => pj_ss ⟨_, rfl, hxo.symm⟩)) (fun k => absurd z k)) (fun z => pj_ifr (fun k => absurd k z) (fun _ => ?_))
    have g := ti_nlt z
    have t1 := add_k (x := xd) (v := 1) (k := 1) rfl (by omega) (by omega)
    have hroom : ∀ c : Nat, (c : Int) < v_g_cells.toInt → 1 ≤ (v_g_room c).toInt := fun c hc => by
      rw [G.2.2.2.2.2.1 c hc]
      exact (RW_n y.1 G.1 hD.2.1.2.2 c hc).2.2.1
    have htc : ∀ i : Nat, (i : Int) < K.toInt → (((v_e_toldCell i).toNatClampNeg : Nat) : Int) < v_g_cells.toInt := fun i hi => by
      have k := hTC i hi
      rw [(hTL i hi).2.1]
      have := cl_k k.1
      omega
    have ho : pa (f_X2_offToday v_e_toldDay v_e_toldCell v_e_toldLevel v_g_room v_d_day v_d_water K) (OFT K (MIS v_e_toldDay v_e_toldCell v_e_toldLevel v_g_room v_d_water v_d_day)) := by
      unfold f_X2_offToday
      exact c_off fuel K 0 (by decide) (by show (0 : Int) ≤ _; exact hK1.1) hK1.2 (fun i hi => hroom _ (htc i hi)) (fun i hi => absurd hi (by show ¬ (i : Int) < 0; omega))
    have hmis : ∀ i : Nat, (i : Int) < K.toInt → ((v_m_toldDay i = xd ∧ ¬ v_d_water (v_e_toldCell i).toNatClampNeg / v_g_room (v_e_toldCell i).toNatClampNeg = v_e_toldLevel i) ↔ MIS v_e_toldDay v_e_toldCell v_e_toldLevel v_g_room v_d_water v_d_day i) := fun i hi => by
      unfold MIS
      rw [(hTL i hi).1, hday]
    refine pj_bl ho (fun o2 ho2 => ?_)
    refine r_59z (L := fun i => v_d_water (v_e_toldCell i).toNatClampNeg / v_g_room (v_e_toldCell i).toNatClampNeg = v_e_toldLevel i) fuel _ _ _ _ _ _ _ _ _ _ _ _ _ _ _ _ _ _ _ (by decide) (by show (0 : Int) ≤ _; exact hK1.1) hK1.2 hm (fun i hi => ?_) (fun i hi => absurd hi (by show ¬ (i : Int) < 0; omega)) (fun hex t ht => ?_) (fun hno => ?_)
    · have k := hTC i hi
      refine pa_w (lev_eq (lv := v_d_water (v_m_toldCell i).toNatClampNeg / v_g_room (v_m_toldCell i).toNatClampNeg) y.1.1 G.2.2.2.2.2.1 (hroom _ (by rw [← (hTL i hi).2.1]; exact htc i hi)) hD.2.2 k.1 k.2 hc12.2 rfl) (fun o ho => ?_)
      rw [lg_cmp_eq, ho, i64_inj, (hTL i hi).2.1, (hTL i hi).2.2]
    · have n2 : ¬ o2 = -2 := fun k => by
        obtain ⟨i, hi, hm'⟩ := hex
        rcases ho2 with ⟨_, n2⟩ | ⟨o0, _⟩
        · exact n2 i hi ((hmis i hi).mp hm')
        · have := z_eq m2 k
          omega
      exact pj_ifl (fun k => absurd k n2) (fun _ => pj_ss ⟨_, rfl, ht.symm⟩)
    have e2 : o2 = -2 := by
      rcases ho2 with ⟨e, _⟩ | ⟨o0, o1, om, _⟩
      · exact e
      · have eo : (o2.toNatClampNeg : Int) = o2.toInt := cl_k o0
        exact absurd ((hmis _ (by omega)).mpr om) (hno _ (by omega))
    refine pj_ifl (fun _ => pj_ifl (fun k => ?_) (fun _ => ?_)) (fun k => absurd e2 k)
    · have := z_eq m1 (k.trans hq)
      omega
    unfold f_X2_fits_N_b52
    refine pj_ifl (fun k => ?_) (fun k => ?_)
    · have g2 := ti_le k
      refine pj_of (c_24e_N n _ _ _ _ _ _ _ _ _ _ _ _ _ _ _ _ _ _ _ (by omega)) (Q := fun b => b.1 = 1) (pa_bd12 pa_tr (fun b0 b1 b2 b3 b4 b5 b6 b7 b8 b9 b10 b11 _ => pa_w (r_50e m _ _ _ _ _ _ _ _ _ _ _ _ _ _ _ _ _ _ (by omega)) (fun o ho => ho.trans hxo))) (fun a b ha hb => ?_)
      obtain ⟨t, e, ht⟩ := ha
      exact ⟨t, e, ht.trans hb.symm⟩
    · have g2 := ti_nle k
      refine pj_b15_12 (pj_and_r (j_dd y hne G p P hD (by omega)) m_gday) (fun a0 a1 a2 a3 a4 a5 a6 a7 a8 a9 a10 a11 a12 a13 a14 b0 b1 b2 b3 b4 b5 b6 b7 b8 b9 b10 b11 hab => ?_)
      obtain ⟨⟨hD2, _⟩, hb1⟩ := hab
      have hb1 : b1 = v_m_rowDay + 1 := hb1
      have hD1 : a7 = b1 := hD2.1
      refine ih m _ _ _ _ _ _ _ _ _ _ _ _ _ _ _ _ _ _ _ _ _ _ _ _ _ _ _ _ _ _ _ _ _ _ _ (by omega) (by omega) hxn rfl hq hm hxo rfl ?_ p P (by rw [t1, ← Int.add_assoc]; exact hD2)
      rw [hD1, hb1, ← hday, hD.1]
set_option maxHeartbeats 8000000 in
theorem j_fits_N {v_e_fitting : Int32} {v_e_toldDay : Nat → Int32} {v_e_toldCell : Nat → Int32} {v_e_toldLevel : Nat → Int32} {v_g_cells : Int32} {v_g_passes : Int32} {v_g_rivers : Int32} {v_g_villages : Int32} {v_g_rains : Int32} {v_g_room : Nat → Int32} {v_g_water : Nat → Int32} {v_g_passFrom : Nat → Int32} {v_g_passTo : Nat → Int32} {v_g_riverCell : Nat → Int32} {v_g_riverLevel : Nat → Int32} {v_g_riverSalt : Nat → Int32} {v_g_villageCell : Nat → Int32} {v_g_need : Nat → Int32} {v_g_lawEnd : Nat → Int32} {v_g_code : Nat → Int32} {v_p_pumpCell : Int32} {v_p_pumpTakes : Int32} {v_p_pumpFrom : Int32} {v_p_pumpTo : Int32} {v_p_wanting : Nat → Int32} {v_p_passWidth : Nat → Int32} {v_p_riverWidth : Nat → Int32} {v_p_rain : Nat → Int32} {v_c_pumped : Int32} {v_c_today : Int32} {v_c_lacked : Nat → Int32} {v_c_level : Nat → Int32} {v_c_water : Nat → Int32} {v_c_salt : Nat → Int64} {v_c_stack : Nat → Int32} {v_d_day : Int32} {v_d_water : Nat → Int32} {v_d_salt : Nat → Int64} {v_d_seen : Nat → Int32} {v_d_took : Nat → Int32} {v_d_dryDays : Nat → Int32} {v_d_firstDry : Nat → Int32} {v_d_total : Nat → Int32} {v_m_live : Int32} {v_m_changed : Int32} {v_m_changedAt : Int32} {v_m_pumpCell : Int32} {v_m_pumpMuch : Int32} {v_m_pumpFrom : Int32} {v_m_pumpTo : Int32} {v_m_cells : Nat → Int32} {v_m_room : Nat → Int32} {v_m_passes : Nat → Int32} {v_m_passOne : Nat → Int32} {v_m_passOther : Nat → Int32} {v_m_rivers : Nat → Int32} {v_m_riverCell : Nat → Int32} {v_m_riverLevel : Nat → Int32} {v_m_riverWide : Nat → Int32} {v_m_riverSalt : Nat → Int32} {v_m_rains : Nat → Int32} {v_m_villages : Nat → Int32} {v_m_home : Nat → Int32} {v_m_need : Nat → Int32} {v_m_lawFrom : Nat → Int32} {v_m_lawTo : Nat → Int32} {v_m_code : Nat → Int32} {v_m_codeInt : Nat → Int32} {v_m_wants : Nat → Int32} {v_m_isOff : Nat → Int32} {v_m_wide : Nat → Int32} {v_m_rainNow : Nat → Int32} {v_m_toldDay : Nat → Int32} {v_m_toldCell : Nat → Int32} {v_m_toldLevel : Nat → Int32} {v_m_isBroken : Int32} {v_m_rowDay : Int32} {v_m_takenAll : Int64} {v_m_riversAll : Int64} {v_m_variables : Nat → Int32} {v_m_pile : Nat → Int32} {v_m_row : Nat → Int64} {v_m_taken : Nat → Int64} {v_m_isDry : Nat → Int32} {v_m_wouldLack : Nat → Int32} {v_m_more : Nat → Int64} {v_m_moreSalt : Nat → Int64} {v_m_isOffTold : Nat → Int32} {v_m_water : Nat → Int32} (y : DY v_m_live v_m_cells v_m_room v_m_passes v_m_passOne v_m_passOther v_m_rivers v_m_riverCell v_m_riverLevel v_m_riverWide v_m_rains v_m_villages v_m_home v_m_lawFrom v_m_lawTo v_m_code v_m_codeInt) (hne : NE v_m_live v_m_villages v_m_need) (G : GL v_m_live v_g_cells v_g_passes v_g_rivers v_g_villages v_g_rains v_g_room v_g_passFrom v_g_passTo v_g_riverCell v_g_riverLevel v_g_riverSalt v_g_villageCell v_g_need v_g_lawEnd v_g_code v_m_cells v_m_room v_m_passes v_m_passOne v_m_passOther v_m_rivers v_m_riverCell v_m_riverLevel v_m_riverSalt v_m_rains v_m_villages v_m_home v_m_need v_m_lawFrom v_m_lawTo v_m_code v_m_codeInt) (hwa : WA v_m_live v_m_cells v_m_water) (gw : AL v_g_water v_m_water (12 * v_m_live.toNatClampNeg) v_g_cells.toInt) (ja : al v_m_toldDay 0 199) (p : PN v_m_live v_m_cells v_m_passes v_m_rains v_m_wants v_m_wide v_m_rainNow v_m_pumpCell v_m_pumpMuch) (P : PLN v_m_live v_m_changed v_m_changedAt v_g_villages.toInt v_g_passes.toInt v_g_rivers.toInt v_g_rains.toInt v_m_pumpCell v_m_pumpMuch v_m_pumpFrom v_m_pumpTo v_p_pumpCell v_p_pumpTakes v_p_pumpFrom v_p_pumpTo v_p_wanting v_p_passWidth v_p_riverWidth v_p_rain v_m_wants v_m_isOff v_m_wide v_m_rainNow v_m_riverWide) (hr0 : v_m_rowDay = 0) (hrow : ∀ j, j < 60 → v_m_row j = if 48 ≤ j ∧ j < 54 then -2 else if (j : Int) < v_g_cells.toInt then (v_m_water (12 * v_m_live.toNatClampNeg + j)).toInt64 else 0) (hRD : RD v_m_live v_m_cells v_m_room v_m_row v_m_rowDay 0) {K : Int32} (hK1 : 0 ≤ K.toInt ∧ K.toInt ≤ 20) (hTL : (∀ i : Nat, (i : Int) < K.toInt → v_e_toldDay i = v_m_toldDay i ∧ v_e_toldCell i = v_m_toldCell i ∧ v_e_toldLevel i = v_m_toldLevel i)) (hTC : (∀ i : Nat, (i : Int) < K.toInt → 0 ≤ (v_m_toldCell i).toInt ∧ (v_m_toldCell i).toInt < v_g_cells.toInt)) : pj (f_X2_fits_N v_e_fitting v_e_toldDay v_e_toldCell v_e_toldLevel v_g_cells v_g_passes v_g_rivers v_g_villages v_g_rains v_g_room v_g_water v_g_passFrom v_g_passTo v_g_riverCell v_g_riverLevel v_g_riverSalt v_g_villageCell v_g_need v_g_lawEnd v_g_code v_p_pumpCell v_p_pumpTakes v_p_pumpFrom v_p_pumpTo v_p_wanting v_p_passWidth v_p_riverWidth v_p_rain v_c_pumped v_c_today v_c_lacked v_c_level v_c_water v_c_salt v_c_stack v_d_day v_d_water v_d_salt v_d_seen v_d_took v_d_dryDays v_d_firstDry v_d_total K (-1 : Int32)) (f_X7_fits v_m_live v_m_changed v_m_changedAt v_m_pumpCell v_m_pumpMuch v_m_pumpFrom v_m_pumpTo v_m_cells v_m_room v_m_passes v_m_passOne v_m_passOther v_m_rivers v_m_riverCell v_m_riverLevel v_m_riverWide v_m_riverSalt v_m_rains v_m_villages v_m_home v_m_need v_m_lawFrom v_m_lawTo v_m_code v_m_codeInt v_m_wants v_m_isOff v_m_wide v_m_rainNow v_m_toldDay v_m_toldCell v_m_toldLevel v_m_isBroken v_m_rowDay v_m_takenAll v_m_riversAll v_m_variables v_m_pile v_m_row v_m_taken v_m_isDry v_m_wouldLack v_m_more v_m_moreSalt v_m_isOffTold K (0 : Int32)) (fun a b => ∃ t, a = .inl t ∧ t.1 = b.1) := by
  have hc12 := y.1.2.1
  rw [G.1] at hc12
  have hc12 : 0 ≤ v_g_cells.toInt ∧ v_g_cells.toInt ≤ 12 := hc12
  have hv6 := y.2.2.2.1
  rw [G.2.2.2.1] at hv6
  have hv6 : 0 ≤ v_g_villages.toInt ∧ v_g_villages.toInt ≤ 6 := hv6
  have ja0 : ∀ i, 0 ≤ (v_m_toldDay i).toInt := fun i => (ja i).1
  have ja1 : ∀ i, (v_m_toldDay i).toInt ≤ 199 := fun i => (ja i).2
  have kn : (K.toNatClampNeg : Int) = K.toInt := cl_k hK1.1
  have m1 : (-1 : Int32).toInt = -1 := by decide
  unfold f_X2_fits_N f_X7_fits
  refine pj_bl (c_last hK1.1 hK1.2) (fun lo hlo => pj_bl8 c_beg (fun d0 d1 d2 d3 d4 d5 d6 d7 hb => ?_))
  have hlo2 : lo.toInt = LDY v_m_toldDay K.toNatClampNeg := hlo.trans (LD_eq _ (fun i hi => (hTL i (by omega)).1))
  have rng := LD_rg ja1 K.toNatClampNeg
  rw [if_neg (show ¬ lo < (-1 : Int32) from fun q => by have := lt_k (k := -1) m1 q; omega)]
  have hD : DD v_m_live v_g_cells.toInt v_g_villages.toInt 0 v_m_cells v_m_room d0 v_m_rowDay d1 d2 d3 d4 d5 d6 d7 v_m_row := ⟨hb.1.trans hr0.symm, hRD, DA_begin hc12.2 hv6.2 hr0 hb.2.1 hb.2.2 gw hrow⟩
  refine r_5 fuel _ _ _ _ _ _ _ _ _ _ _ _ _ _ _ _ _ (by decide) (by show (0 : Int) ≤ _; exact hK1.1) hK1.2 (show (-1 : Int32).toInt = -1 by decide) (fun i hi => absurd hi (by show ¬ (i : Int) < 0; omega)) (fun off' x3' hz h3 => ?_)
  by_cases q : K = 0
  · refine pj_of (c_24z_N fuel _ _ _ _ _ _ _ _ _ _ _ _ _ _ _ _ _ _ _ q rfl (by decide) (by decide) (by omega)) (Q := fun b => b.1 = 1) (r_50e fuel _ _ _ _ _ _ _ _ _ _ _ _ _ _ _ _ _ _ ?_) (fun a b ha hb => ?_)
    · rw [h3, q]
      show (-1 : Int) < 0
      omega
    · obtain ⟨t, e, ht⟩ := ha
      exact ⟨t, e, ht.trans hb.symm⟩
  · have q0 : ¬ K.toInt = 0 := fun k => q (z_of (k := 0) rfl k)
    have e7 : lo = x3' := by
      apply Int32.toInt_inj.mp
      rw [hlo2, h3]
      obtain ⟨m, hm⟩ : ∃ m, K.toNatClampNeg = m + 1 := ⟨K.toNatClampNeg - 1, by omega⟩
      rw [hm, L7_LD ja0]
    refine l_fit_N (B := 0) (K := K) (by decide) y hne G hK1 hTL hTC fuel fuel _ _ _ _ _ _ _ _ _ _ _ _ _ _ _ _ _ _ _ _ _ _ _ _ _ _ _ _ _ _ _ _ _ _ _ (by decide) (by show (0 : Int) ≤ _; omega) (by omega) e7 rfl rfl rfl rfl hb.1 p P ?_
    rw [show (0 : Int) + (0 : Int32).toInt = 0 from rfl]
    exact hD
