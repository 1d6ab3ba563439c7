abbrev P_X6_allTakeTheirs  : Int32 × Int32 × Int32 × (Nat → Int32) × (Nat → Int32) × (Nat → Int32) × (Nat → Int64) × (Nat → Int32) × Int32 × (Nat → Int32) × (Nat → Int64) × (Nat → Int32) × (Nat → Int32) × (Nat → Int32) × (Nat → Int32) × (Nat → Int32) → Prop := (fun o : Int32 × Int32 × Int32 × (Nat → Int32) × (Nat → Int32) × (Nat → Int32) × (Nat → Int64) × (Nat → Int32) × Int32 × (Nat → Int32) × (Nat → Int64) × (Nat → Int32) × (Nat → Int32) × (Nat → Int32) × (Nat → Int32) × (Nat → Int32) => rg o.1 0 1 ∧ True)
set_option maxRecDepth 100000 in
set_option maxHeartbeats 2000000 in
theorem s_X6_allTakeTheirs_b20 (k2 : Int32 → Int32 → (Nat → Int32) → (Nat → Int32) → (Nat → Int32) → (Nat → Int64) → (Nat → Int32) → Int32 → (Nat → Int32) → (Nat → Int64) → (Nat → Int32) → (Nat → Int32) → (Nat → Int32) → (Nat → Int32) → (Nat → Int32) → Int32 → Int32 → Option (Int32 × Int32 × Int32 × (Nat → Int32) × (Nat → Int32) × (Nat → Int32) × (Nat → Int64) × (Nat → Int32) × Int32 × (Nat → Int32) × (Nat → Int64) × (Nat → Int32) × (Nat → Int32) × (Nat → Int32) × (Nat → Int32) × (Nat → Int32))) (v_g_cells : Int32) (v_g_passes : Int32) (v_g_rivers : Int32) (v_g_villages : Int32) (v_g_rains : Int32) (v_g_room : (Nat → Int32)) (v_g_passFrom : (Nat → Int32)) (v_g_passTo : (Nat → Int32)) (v_g_riverCell : (Nat → Int32)) (v_g_riverLevel : (Nat → Int32)) (v_g_riverSalt : (Nat → Int32)) (v_g_villageCell : (Nat → Int32)) (v_g_need : (Nat → Int32)) (v_g_lawEnd : (Nat → Int32)) (v_g_code : (Nat → Int32)) (v_p_pumpCell : Int32) (v_p_pumpTakes : Int32) (v_p_pumpFrom : Int32) (v_p_pumpTo : Int32) (v_p_wanting : (Nat → Int32)) (v_p_passWidth : (Nat → Int32)) (v_p_riverWidth : (Nat → Int32)) (v_p_rain : (Nat → Int32)) (u0 : rg v_g_cells 0 12) (u1 : rg v_g_passes 0 20) (u2 : rg v_g_rivers 0 3) (u3 : rg v_g_villages 0 6) (u4 : rg v_g_rains 0 14) (u5 : ac v_g_passFrom v_g_passes 0 11) (u6 : ac v_g_passTo v_g_passes 0 11) (u7 : ac v_g_riverCell v_g_rivers 0 11) (u8 : ac v_g_villageCell v_g_villages 0 11) (u9 : al v_g_lawEnd 0 400) (u10 : rg v_p_pumpCell (-1) 11) (u11 : rg v_p_pumpFrom 0 13) : ∀ (n : Nat) (v_c_pumped : Int32) (v_c_today : Int32) (v_c_lacked : (Nat → Int32)) (v_c_level : (Nat → Int32)) (v_c_water : (Nat → Int32)) (v_c_salt : (Nat → Int64)) (v_c_stack : (Nat → Int32)) (v_d_day : Int32) (v_d_water : (Nat → Int32)) (v_d_salt : (Nat → Int64)) (v_d_seen : (Nat → Int32)) (v_d_took : (Nat → Int32)) (v_d_dryDays : (Nat → Int32)) (v_d_firstDry : (Nat → Int32)) (v_d_total : (Nat → Int32)) (x1 : Int32) (x2 : Int32) (x3 : Int32) (u12 : rg x1 1 200) (u13 : rg x2 0 199) (u14 : rg x3 0 6) (u15 : x2.toInt < x1.toInt) (hk2 : ∀ (v_c_pumped' : Int32) (v_c_today' : Int32) (v_c_lacked' : (Nat → Int32)) (v_c_level' : (Nat → Int32)) (v_c_water' : (Nat → Int32)) (v_c_salt' : (Nat → Int64)) (v_c_stack' : (Nat → Int32)) (v_d_day' : Int32) (v_d_water' : (Nat → Int32)) (v_d_salt' : (Nat → Int64)) (v_d_seen' : (Nat → Int32)) (v_d_took' : (Nat → Int32)) (v_d_dryDays' : (Nat → Int32)) (v_d_firstDry' : (Nat → Int32)) (v_d_total' : (Nat → Int32)) (x1' : Int32) (x2' : Int32), rg x1' 1 200 → rg x2' 0 200 → x2.toInt < x2'.toInt → ok (k2 v_c_pumped' v_c_today' v_c_lacked' v_c_level' v_c_water' v_c_salt' v_c_stack' v_d_day' v_d_water' v_d_salt' v_d_seen' v_d_took' v_d_dryDays' v_d_firstDry' v_d_total' x1' x2') P_X6_allTakeTheirs) (hm : (6 - x3.toInt).toNat < n), ok (f_X6_allTakeTheirs_b20 k2 v_g_cells v_g_passes v_g_rivers v_g_villages v_g_rains v_g_room v_g_passFrom v_g_passTo v_g_riverCell v_g_riverLevel v_g_riverSalt v_g_villageCell v_g_need v_g_lawEnd v_g_code v_p_pumpCell v_p_pumpTakes v_p_pumpFrom v_p_pumpTo v_p_wanting v_p_passWidth v_p_riverWidth v_p_rain n v_c_pumped v_c_today v_c_lacked v_c_level v_c_water v_c_salt v_c_stack v_d_day v_d_water v_d_salt v_d_seen v_d_took v_d_dryDays v_d_firstDry v_d_total x1 x2 x3) P_X6_allTakeTheirs := by
  intro n
  induction n with
  | zero =>
    intro v_c_pumped v_c_today v_c_lacked v_c_level v_c_water v_c_salt v_c_stack v_d_day v_d_water v_d_salt v_d_seen v_d_took v_d_dryDays v_d_firstDry v_d_total x1 x2 x3 u12 u13 u14 u15 hk2 hm
    exact absurd hm (Nat.not_lt_zero _)
  | succ n ih =>
    intro v_c_pumped v_c_today v_c_lacked v_c_level v_c_water v_c_salt v_c_stack v_d_day v_d_water v_d_salt v_d_seen v_d_took v_d_dryDays v_d_firstDry v_d_total x1 x2 x3 u12 u13 u14 u15 hk2 hm
    show ok (f_X6_allTakeTheirs_b20_st (f_X6_allTakeTheirs_b20 k2 v_g_cells v_g_passes v_g_rivers v_g_villages v_g_rains v_g_room v_g_passFrom v_g_passTo v_g_riverCell v_g_riverLevel v_g_riverSalt v_g_villageCell v_g_need v_g_lawEnd v_g_code v_p_pumpCell v_p_pumpTakes v_p_pumpFrom v_p_pumpTo v_p_wanting v_p_passWidth v_p_riverWidth v_p_rain n) k2 v_g_cells v_g_passes v_g_rivers v_g_villages v_g_rains v_g_room v_g_passFrom v_g_passTo v_g_riverCell v_g_riverLevel v_g_riverSalt v_g_villageCell v_g_need v_g_lawEnd v_g_code v_p_pumpCell v_p_pumpTakes v_p_pumpFrom v_p_pumpTo v_p_wanting v_p_passWidth v_p_riverWidth v_p_rain v_c_pumped v_c_today v_c_lacked v_c_level v_c_water v_c_salt v_c_stack v_d_day v_d_water v_d_salt v_d_seen v_d_took v_d_dryDays v_d_firstDry v_d_total x1 x2 x3) P_X6_allTakeTheirs
    unfold f_X6_allTakeTheirs_b20_st
    refine ok_if (fun c1 => ?_) (fun c1 => ?_)
    · exact hk2 v_c_pumped v_c_today v_c_lacked v_c_level v_c_water v_c_salt v_c_stack v_d_day v_d_water v_d_salt v_d_seen v_d_took v_d_dryDays v_d_firstDry v_d_total x1 (x2 + (1 : Int32)) u12 (rg_w (rg_add (e := 1) (f := 200) u13 (show rg (1 : Int32) 1 1 from ⟨by decide, by decide⟩) (by decide) (by decide) (by decide) (by decide)) (by decide) (by decide)) (lt_ad u13 (show rg (1 : Int32) 1 1 from ⟨by decide, by decide⟩) (by decide) (by decide) (by decide))
    · have w2 : rg x3 0 5 := rg_ltx 5 (ti_nle c1) u14 u3 (by decide)
      have w3 : rg v_g_villages 1 6 := rg_lty 1 (ti_nle c1) u14 u3 (by decide)
      refine ok_ck (inb_rg w2 (by decide) (by decide)) ?_
      refine ok_ck (inb_rg w2 (by decide) (by decide)) ?_
      refine ok_if (fun c4 => ?_) (fun c4 => ?_)
      · exact ih v_c_pumped v_c_today v_c_lacked v_c_level v_c_water v_c_salt v_c_stack v_d_day v_d_water v_d_salt v_d_seen v_d_took v_d_dryDays v_d_firstDry v_d_total x1 x2 (x3 + (1 : Int32)) u12 u13 (rg_w (rg_add (e := 1) (f := 6) w2 (show rg (1 : Int32) 1 1 from ⟨by decide, by decide⟩) (by decide) (by decide) (by decide) (by decide)) (by decide) (by decide)) u15 hk2 (ms_up (y := (x3 + (1 : Int32))) (a := 0) hm (lt_ad w2 (show rg (1 : Int32) 1 1 from ⟨by decide, by decide⟩) (by decide) (by decide) (by decide)) (rg_w (rg_add (e := 1) (f := 6) w2 (show rg (1 : Int32) 1 1 from ⟨by decide, by decide⟩) (by decide) (by decide) (by decide) (by decide)) (by decide) (by decide)))
      · exact ok_some ⟨(rg_w (show rg (0 : Int32) 0 0 from ⟨by decide, by decide⟩) (by decide) (by decide)), trivial⟩
set_option maxRecDepth 100000 in
set_option maxHeartbeats 2000000 in
theorem s_X6_allTakeTheirs_b2  (v_g_cells : Int32) (v_g_passes : Int32) (v_g_rivers : Int32) (v_g_villages : Int32) (v_g_rains : Int32) (v_g_room : (Nat → Int32)) (v_g_passFrom : (Nat → Int32)) (v_g_passTo : (Nat → Int32)) (v_g_riverCell : (Nat → Int32)) (v_g_riverLevel : (Nat → Int32)) (v_g_riverSalt : (Nat → Int32)) (v_g_villageCell : (Nat → Int32)) (v_g_need : (Nat → Int32)) (v_g_lawEnd : (Nat → Int32)) (v_g_code : (Nat → Int32)) (v_p_pumpCell : Int32) (v_p_pumpTakes : Int32) (v_p_pumpFrom : Int32) (v_p_pumpTo : Int32) (v_p_wanting : (Nat → Int32)) (v_p_passWidth : (Nat → Int32)) (v_p_riverWidth : (Nat → Int32)) (v_p_rain : (Nat → Int32)) (u0 : rg v_g_cells 0 12) (u1 : rg v_g_passes 0 20) (u2 : rg v_g_rivers 0 3) (u3 : rg v_g_villages 0 6) (u4 : rg v_g_rains 0 14) (u5 : ac v_g_passFrom v_g_passes 0 11) (u6 : ac v_g_passTo v_g_passes 0 11) (u7 : ac v_g_riverCell v_g_rivers 0 11) (u8 : ac v_g_villageCell v_g_villages 0 11) (u9 : al v_g_lawEnd 0 400) (u10 : rg v_p_pumpCell (-1) 11) (u11 : rg v_p_pumpFrom 0 13) : ∀ (n : Nat) (v_c_pumped : Int32) (v_c_today : Int32) (v_c_lacked : (Nat → Int32)) (v_c_level : (Nat → Int32)) (v_c_water : (Nat → Int32)) (v_c_salt : (Nat → Int64)) (v_c_stack : (Nat → Int32)) (v_d_day : Int32) (v_d_water : (Nat → Int32)) (v_d_salt : (Nat → Int64)) (v_d_seen : (Nat → Int32)) (v_d_took : (Nat → Int32)) (v_d_dryDays : (Nat → Int32)) (v_d_firstDry : (Nat → Int32)) (v_d_total : (Nat → Int32)) (x1 : Int32) (x2 : Int32) (u12 : rg x1 1 200) (u13 : rg x2 0 200)  (hm : (200 - x2.toInt).toNat < n), ok (f_X6_allTakeTheirs_b2 v_g_cells v_g_passes v_g_rivers v_g_villages v_g_rains v_g_room v_g_passFrom v_g_passTo v_g_riverCell v_g_riverLevel v_g_riverSalt v_g_villageCell v_g_need v_g_lawEnd v_g_code v_p_pumpCell v_p_pumpTakes v_p_pumpFrom v_p_pumpTo v_p_wanting v_p_passWidth v_p_riverWidth v_p_rain n v_c_pumped v_c_today v_c_lacked v_c_level v_c_water v_c_salt v_c_stack v_d_day v_d_water v_d_salt v_d_seen v_d_took v_d_dryDays v_d_firstDry v_d_total x1 x2) P_X6_allTakeTheirs := by
  intro n
  induction n with
  | zero =>
    intro v_c_pumped v_c_today v_c_lacked v_c_level v_c_water v_c_salt v_c_stack v_d_day v_d_water v_d_salt v_d_seen v_d_took v_d_dryDays v_d_firstDry v_d_total x1 x2 u12 u13 hm
    exact absurd hm (Nat.not_lt_zero _)
  | succ n ih =>
    intro v_c_pumped v_c_today v_c_lacked v_c_level v_c_water v_c_salt v_c_stack v_d_day v_d_water v_d_salt v_d_seen v_d_took v_d_dryDays v_d_firstDry v_d_total x1 x2 u12 u13 hm
    show ok (f_X6_allTakeTheirs_b2_st (f_X6_allTakeTheirs_b2 v_g_cells v_g_passes v_g_rivers v_g_villages v_g_rains v_g_room v_g_passFrom v_g_passTo v_g_riverCell v_g_riverLevel v_g_riverSalt v_g_villageCell v_g_need v_g_lawEnd v_g_code v_p_pumpCell v_p_pumpTakes v_p_pumpFrom v_p_pumpTo v_p_wanting v_p_passWidth v_p_riverWidth v_p_rain n) v_g_cells v_g_passes v_g_rivers v_g_villages v_g_rains v_g_room v_g_passFrom v_g_passTo v_g_riverCell v_g_riverLevel v_g_riverSalt v_g_villageCell v_g_need v_g_lawEnd v_g_code v_p_pumpCell v_p_pumpTakes v_p_pumpFrom v_p_pumpTo v_p_wanting v_p_passWidth v_p_riverWidth v_p_rain v_c_pumped v_c_today v_c_lacked v_c_level v_c_water v_c_salt v_c_stack v_d_day v_d_water v_d_salt v_d_seen v_d_took v_d_dryDays v_d_firstDry v_d_total x1 x2) P_X6_allTakeTheirs
    unfold f_X6_allTakeTheirs_b2_st
    refine ok_if (fun c1 => ?_) (fun c1 => ?_)
    · have w2 : rg x2 1 200 := rg_ley (ti_le c1) u12 u13
      exact ok_some ⟨(rg_w (show rg (1 : Int32) 1 1 from ⟨by decide, by decide⟩) (by decide) (by decide)), trivial⟩
    · have w3 : rg x2 0 199 := rg_ltx 199 (ti_nle c1) u13 u12 (by decide)
      refine ok_bd15 (s_X0_oneDay v_g_cells v_g_passes v_g_rivers v_g_villages v_g_rains v_g_room v_g_passFrom v_g_passTo v_g_riverCell v_g_riverLevel v_g_riverSalt v_g_villageCell v_g_need v_g_lawEnd v_g_code v_p_pumpCell v_p_pumpTakes v_p_pumpFrom v_p_pumpTo v_p_wanting v_p_passWidth v_p_riverWidth v_p_rain v_c_pumped v_c_today v_c_lacked v_c_level v_c_water v_c_salt v_c_stack v_d_day v_d_water v_d_salt v_d_seen v_d_took v_d_dryDays v_d_firstDry v_d_total u0 u1 u2 u3 u4 u5 u6 u7 u8 u9 u10 u11) (fun o_2_0 o_2_1 o_2_2 o_2_3 o_2_4 o_2_5 o_2_6 o_2_7 o_2_8 o_2_9 o_2_10 o_2_11 o_2_12 o_2_13 o_2_14 p4 => ?_)
      exact s_X6_allTakeTheirs_b20 _ v_g_cells v_g_passes v_g_rivers v_g_villages v_g_rains v_g_room v_g_passFrom v_g_passTo v_g_riverCell v_g_riverLevel v_g_riverSalt v_g_villageCell v_g_need v_g_lawEnd v_g_code v_p_pumpCell v_p_pumpTakes v_p_pumpFrom v_p_pumpTo v_p_wanting v_p_passWidth v_p_riverWidth v_p_rain u0 u1 u2 u3 u4 u5 u6 u7 u8 u9 u10 u11 _ o_2_0 o_2_1 o_2_2 o_2_3 o_2_4 o_2_5 o_2_6 o_2_7 o_2_8 o_2_9 o_2_10 o_2_11 o_2_12 o_2_13 o_2_14 x1 x2 (0 : Int32) u12 w3 (rg_w (show rg (0 : Int32) 0 0 from ⟨by decide, by decide⟩) (by decide) (by decide)) (ti_nle c1) (by intro v_c_pumped' v_c_today' v_c_lacked' v_c_level' v_c_water' v_c_salt' v_c_stack' v_d_day' v_d_water' v_d_salt' v_d_seen' v_d_took' v_d_dryDays' v_d_firstDry' v_d_total' x1' x2' f0 f1 lt; exact ih _ _ _ _ _ _ _ _ _ _ _ _ _ _ _ _ _ f0 f1 (ms_up hm lt f1)) (fu_up (a := 0) (h := 6) (rg_w (show rg (0 : Int32) 0 0 from ⟨by decide, by decide⟩) (by decide) (by decide)) (by decide))
set_option maxRecDepth 100000 in
set_option maxHeartbeats 2000000 in
theorem s_X6_allTakeTheirs (v_g_cells : Int32) (v_g_passes : Int32) (v_g_rivers : Int32) (v_g_villages : Int32) (v_g_rains : Int32) (v_g_room : (Nat → Int32)) (v_g_passFrom : (Nat → Int32)) (v_g_passTo : (Nat → Int32)) (v_g_riverCell : (Nat → Int32)) (v_g_riverLevel : (Nat → Int32)) (v_g_riverSalt : (Nat → Int32)) (v_g_villageCell : (Nat → Int32)) (v_g_need : (Nat → Int32)) (v_g_lawEnd : (Nat → Int32)) (v_g_code : (Nat → Int32)) (v_p_pumpCell : Int32) (v_p_pumpTakes : Int32) (v_p_pumpFrom : Int32) (v_p_pumpTo : Int32) (v_p_wanting : (Nat → Int32)) (v_p_passWidth : (Nat → Int32)) (v_p_riverWidth : (Nat → Int32)) (v_p_rain : (Nat → Int32)) (v_c_pumped : Int32) (v_c_today : Int32) (v_c_lacked : (Nat → Int32)) (v_c_level : (Nat → Int32)) (v_c_water : (Nat → Int32)) (v_c_salt : (Nat → Int64)) (v_c_stack : (Nat → Int32)) (v_d_day : Int32) (v_d_water : (Nat → Int32)) (v_d_salt : (Nat → Int64)) (v_d_seen : (Nat → Int32)) (v_d_took : (Nat → Int32)) (v_d_dryDays : (Nat → Int32)) (v_d_firstDry : (Nat → Int32)) (v_d_total : (Nat → Int32)) (q1 : Int32) (u0 : rg v_g_cells 0 12) (u1 : rg v_g_passes 0 20) (u2 : rg v_g_rivers 0 3) (u3 : rg v_g_villages 0 6) (u4 : rg v_g_rains 0 14) (u5 : ac v_g_passFrom v_g_passes 0 11) (u6 : ac v_g_passTo v_g_passes 0 11) (u7 : ac v_g_riverCell v_g_rivers 0 11) (u8 : ac v_g_villageCell v_g_villages 0 11) (u9 : al v_g_lawEnd 0 400) (u10 : rg v_p_pumpCell (-1) 11) (u11 : rg v_p_pumpFrom 0 13) (u12 : rg q1 1 200) : ok (f_X6_allTakeTheirs v_g_cells v_g_passes v_g_rivers v_g_villages v_g_rains v_g_room v_g_passFrom v_g_passTo v_g_riverCell v_g_riverLevel v_g_riverSalt v_g_villageCell v_g_need v_g_lawEnd v_g_code v_p_pumpCell v_p_pumpTakes v_p_pumpFrom v_p_pumpTo v_p_wanting v_p_passWidth v_p_riverWidth v_p_rain v_c_pumped v_c_today v_c_lacked v_c_level v_c_water v_c_salt v_c_stack v_d_day v_d_water v_d_salt v_d_seen v_d_took v_d_dryDays v_d_firstDry v_d_total q1) P_X6_allTakeTheirs := by
  unfold f_X6_allTakeTheirs
  exact s_X6_allTakeTheirs_b2 v_g_cells v_g_passes v_g_rivers v_g_villages v_g_rains v_g_room v_g_passFrom v_g_passTo v_g_riverCell v_g_riverLevel v_g_riverSalt v_g_villageCell v_g_need v_g_lawEnd v_g_code v_p_pumpCell v_p_pumpTakes v_p_pumpFrom v_p_pumpTo v_p_wanting v_p_passWidth v_p_riverWidth v_p_rain u0 u1 u2 u3 u4 u5 u6 u7 u8 u9 u10 u11 _ v_c_pumped v_c_today v_c_lacked v_c_level v_c_water v_c_salt v_c_stack v_d_day v_d_water v_d_salt v_d_seen v_d_took v_d_dryDays v_d_firstDry v_d_total q1 (0 : Int32) u12 (rg_w (show rg (0 : Int32) 0 0 from ⟨by decide, by decide⟩) (by decide) (by decide)) (fu_up (a := 0) (h := 200) (rg_w (show rg (0 : Int32) 0 0 from ⟨by decide, by decide⟩) (by decide) (by decide)) (by decide))

abbrev P_X6_takesAndDriesNone  : Int32 × Int32 × Int32 × (Nat → Int32) × (Nat → Int32) × (Nat → Int32) × (Nat → Int64) × (Nat → Int32) × Int32 × (Nat → Int32) × (Nat → Int64) × (Nat → Int32) × (Nat → Int32) × (Nat → Int32) × (Nat → Int32) × (Nat → Int32) → Prop := (fun o : Int32 × Int32 × Int32 × (Nat → Int32) × (Nat → Int32) × (Nat → Int32) × (Nat → Int64) × (Nat → Int32) × Int32 × (Nat → Int32) × (Nat → Int64) × (Nat → Int32) × (Nat → Int32) × (Nat → Int32) × (Nat → Int32) × (Nat → Int32) => rg o.1 0 1 ∧ True)
set_option maxRecDepth 100000 in
set_option maxHeartbeats 2000000 in
theorem s_X6_takesAndDriesNone_b44 (k2 : Int32 → Int32 → (Nat → Int32) → (Nat → Int32) → (Nat → Int32) → (Nat → Int64) → (Nat → Int32) → Int32 → (Nat → Int32) → (Nat → Int64) → (Nat → Int32) → (Nat → Int32) → (Nat → Int32) → (Nat → Int32) → (Nat → Int32) → Int32 → Int32 → Int32 → Option (Int32 × Int32 × Int32 × (Nat → Int32) × (Nat → Int32) × (Nat → Int32) × (Nat → Int64) × (Nat → Int32) × Int32 × (Nat → Int32) × (Nat → Int64) × (Nat → Int32) × (Nat → Int32) × (Nat → Int32) × (Nat → Int32) × (Nat → Int32))) (v_g_cells : Int32) (v_g_passes : Int32) (v_g_rivers : Int32) (v_g_villages : Int32) (v_g_rains : Int32) (v_g_room : (Nat → Int32)) (v_g_passFrom : (Nat → Int32)) (v_g_passTo : (Nat → Int32)) (v_g_riverCell : (Nat → Int32)) (v_g_riverLevel : (Nat → Int32)) (v_g_riverSalt : (Nat → Int32)) (v_g_villageCell : (Nat → Int32)) (v_g_need : (Nat → Int32)) (v_g_lawEnd : (Nat → Int32)) (v_g_code : (Nat → Int32)) (v_p_pumpCell : Int32) (v_p_pumpTakes : Int32) (v_p_pumpFrom : Int32) (v_p_pumpTo : Int32) (v_p_wanting : (Nat → Int32)) (v_p_passWidth : (Nat → Int32)) (v_p_riverWidth : (Nat → Int32)) (v_p_rain : (Nat → Int32)) (u0 : rg v_g_cells 0 12) (u1 : rg v_g_passes 0 20) (u2 : rg v_g_rivers 0 3) (u3 : rg v_g_villages 0 6) (u4 : rg v_g_rains 0 14) (u5 : ac v_g_passFrom v_g_passes 0 11) (u6 : ac v_g_passTo v_g_passes 0 11) (u7 : ac v_g_riverCell v_g_rivers 0 11) (u8 : ac v_g_villageCell v_g_villages 0 11) (u9 : al v_g_lawEnd 0 400) (u10 : rg v_p_pumpCell (-1) 11) (u11 : rg v_p_pumpFrom 0 13) : ∀ (n : Nat) (v_c_pumped : Int32) (v_c_today : Int32) (v_c_lacked : (Nat → Int32)) (v_c_level : (Nat → Int32)) (v_c_water : (Nat → Int32)) (v_c_salt : (Nat → Int64)) (v_c_stack : (Nat → Int32)) (v_d_day : Int32) (v_d_water : (Nat → Int32)) (v_d_salt : (Nat → Int64)) (v_d_seen : (Nat → Int32)) (v_d_took : (Nat → Int32)) (v_d_dryDays : (Nat → Int32)) (v_d_firstDry : (Nat → Int32)) (v_d_total : (Nat → Int32)) (x1 : Int32) (x2 : Int32) (x3 : Int32) (x4 : Int32) (u12 : rg x1 0 5) (u13 : rg x2 1 200) (u14 : rg x3 0 199) (u15 : rg x4 0 6) (u16 : x3.toInt < x2.toInt) (hk2 : ∀ (v_c_pumped' : Int32) (v_c_today' : Int32) (v_c_lacked' : (Nat → Int32)) (v_c_level' : (Nat → Int32)) (v_c_water' : (Nat → Int32)) (v_c_salt' : (Nat → Int64)) (v_c_stack' : (Nat → Int32)) (v_d_day' : Int32) (v_d_water' : (Nat → Int32)) (v_d_salt' : (Nat → Int64)) (v_d_seen' : (Nat → Int32)) (v_d_took' : (Nat → Int32)) (v_d_dryDays' : (Nat → Int32)) (v_d_firstDry' : (Nat → Int32)) (v_d_total' : (Nat → Int32)) (x1' : Int32) (x2' : Int32) (x3' : Int32), rg x1' 0 5 → rg x2' 1 200 → rg x3' 0 200 → x3.toInt < x3'.toInt → ok (k2 v_c_pumped' v_c_today' v_c_lacked' v_c_level' v_c_water' v_c_salt' v_c_stack' v_d_day' v_d_water' v_d_salt' v_d_seen' v_d_took' v_d_dryDays' v_d_firstDry' v_d_total' x1' x2' x3') P_X6_takesAndDriesNone) (hm : (6 - x4.toInt).toNat < n), ok (f_X6_takesAndDriesNone_b44 k2 v_g_cells v_g_passes v_g_rivers v_g_villages v_g_rains v_g_room v_g_passFrom v_g_passTo v_g_riverCell v_g_riverLevel v_g_riverSalt v_g_villageCell v_g_need v_g_lawEnd v_g_code v_p_pumpCell v_p_pumpTakes v_p_pumpFrom v_p_pumpTo v_p_wanting v_p_passWidth v_p_riverWidth v_p_rain n v_c_pumped v_c_today v_c_lacked v_c_level v_c_water v_c_salt v_c_stack v_d_day v_d_water v_d_salt v_d_seen v_d_took v_d_dryDays v_d_firstDry v_d_total x1 x2 x3 x4) P_X6_takesAndDriesNone := by
  intro n
  induction n with
  | zero =>
    intro v_c_pumped v_c_today v_c_lacked v_c_level v_c_water v_c_salt v_c_stack v_d_day v_d_water v_d_salt v_d_seen v_d_took v_d_dryDays v_d_firstDry v_d_total x1 x2 x3 x4 u12 u13 u14 u15 u16 hk2 hm
    exact absurd hm (Nat.not_lt_zero _)
  | succ n ih =>
    intro v_c_pumped v_c_today v_c_lacked v_c_level v_c_water v_c_salt v_c_stack v_d_day v_d_water v_d_salt v_d_seen v_d_took v_d_dryDays v_d_firstDry v_d_total x1 x2 x3 x4 u12 u13 u14 u15 u16 hk2 hm
    show ok (f_X6_takesAndDriesNone_b44_st (f_X6_takesAndDriesNone_b44 k2 v_g_cells v_g_passes v_g_rivers v_g_villages v_g_rains v_g_room v_g_passFrom v_g_passTo v_g_riverCell v_g_riverLevel v_g_riverSalt v_g_villageCell v_g_need v_g_lawEnd v_g_code v_p_pumpCell v_p_pumpTakes v_p_pumpFrom v_p_pumpTo v_p_wanting v_p_passWidth v_p_riverWidth v_p_rain n) k2 v_g_cells v_g_passes v_g_rivers v_g_villages v_g_rains v_g_room v_g_passFrom v_g_passTo v_g_riverCell v_g_riverLevel v_g_riverSalt v_g_villageCell v_g_need v_g_lawEnd v_g_code v_p_pumpCell v_p_pumpTakes v_p_pumpFrom v_p_pumpTo v_p_wanting v_p_passWidth v_p_riverWidth v_p_rain v_c_pumped v_c_today v_c_lacked v_c_level v_c_water v_c_salt v_c_stack v_d_day v_d_water v_d_salt v_d_seen v_d_took v_d_dryDays v_d_firstDry v_d_total x1 x2 x3 x4) P_X6_takesAndDriesNone
    unfold f_X6_takesAndDriesNone_b44_st
    refine ok_if (fun c1 => ?_) (fun c1 => ?_)
    · exact hk2 v_c_pumped v_c_today v_c_lacked v_c_level v_c_water v_c_salt v_c_stack v_d_day v_d_water v_d_salt v_d_seen v_d_took v_d_dryDays v_d_firstDry v_d_total x1 x2 (x3 + (1 : Int32)) u12 u13 (rg_w (rg_add (e := 1) (f := 200) u14 (show rg (1 : Int32) 1 1 from ⟨by decide, by decide⟩) (by decide) (by decide) (by decide) (by decide)) (by decide) (by decide)) (lt_ad u14 (show rg (1 : Int32) 1 1 from ⟨by decide, by decide⟩) (by decide) (by decide) (by decide))
    · have w2 : rg x4 0 5 := rg_ltx 5 (ti_nle c1) u15 u3 (by decide)
      have w3 : rg v_g_villages 1 6 := rg_lty 1 (ti_nle c1) u15 u3 (by decide)
      refine ok_if (fun c4 => ?_) (fun c4 => ?_)
      · exact ih v_c_pumped v_c_today v_c_lacked v_c_level v_c_water v_c_salt v_c_stack v_d_day v_d_water v_d_salt v_d_seen v_d_took v_d_dryDays v_d_firstDry v_d_total x1 x2 x3 (x4 + (1 : Int32)) u12 u13 u14 (rg_w (rg_add (e := 1) (f := 6) w2 (show rg (1 : Int32) 1 1 from ⟨by decide, by decide⟩) (by decide) (by decide) (by decide) (by decide)) (by decide) (by decide)) u16 hk2 (ms_up (y := (x4 + (1 : Int32))) (a := 0) hm (lt_ad w2 (show rg (1 : Int32) 1 1 from ⟨by decide, by decide⟩) (by decide) (by decide) (by decide)) (rg_w (rg_add (e := 1) (f := 6) w2 (show rg (1 : Int32) 1 1 from ⟨by decide, by decide⟩) (by decide) (by decide) (by decide) (by decide)) (by decide) (by decide)))
      · refine ok_ck (inb_rg w2 (by decide) (by decide)) ?_
        refine ok_if (fun c5 => ?_) (fun c5 => ?_)
        · have w6 : rg (v_c_lacked x4.toNatClampNeg) 0 0 := rg_lex (ti_eq c5) (rg_ley (ti_eq2 c5) (show rg (0 : Int32) 0 0 from ⟨by decide, by decide⟩) (rg_any (v_c_lacked x4.toNatClampNeg))) (show rg (0 : Int32) 0 0 from ⟨by decide, by decide⟩)
          exact ih v_c_pumped v_c_today v_c_lacked v_c_level v_c_water v_c_salt v_c_stack v_d_day v_d_water v_d_salt v_d_seen v_d_took v_d_dryDays v_d_firstDry v_d_total x1 x2 x3 (x4 + (1 : Int32)) u12 u13 u14 (rg_w (rg_add (e := 1) (f := 6) w2 (show rg (1 : Int32) 1 1 from ⟨by decide, by decide⟩) (by decide) (by decide) (by decide) (by decide)) (by decide) (by decide)) u16 hk2 (ms_up (y := (x4 + (1 : Int32))) (a := 0) hm (lt_ad w2 (show rg (1 : Int32) 1 1 from ⟨by decide, by decide⟩) (by decide) (by decide) (by decide)) (rg_w (rg_add (e := 1) (f := 6) w2 (show rg (1 : Int32) 1 1 from ⟨by decide, by decide⟩) (by decide) (by decide) (by decide) (by decide)) (by decide) (by decide)))
        · exact ok_some ⟨(rg_w (show rg (0 : Int32) 0 0 from ⟨by decide, by decide⟩) (by decide) (by decide)), trivial⟩
set_option maxRecDepth 100000 in
set_option maxHeartbeats 2000000 in
theorem s_X6_takesAndDriesNone_b2  (v_g_cells : Int32) (v_g_passes : Int32) (v_g_rivers : Int32) (v_g_villages : Int32) (v_g_rains : Int32) (v_g_room : (Nat → Int32)) (v_g_passFrom : (Nat → Int32)) (v_g_passTo : (Nat → Int32)) (v_g_riverCell : (Nat → Int32)) (v_g_riverLevel : (Nat → Int32)) (v_g_riverSalt : (Nat → Int32)) (v_g_villageCell : (Nat → Int32)) (v_g_need : (Nat → Int32)) (v_g_lawEnd : (Nat → Int32)) (v_g_code : (Nat → Int32)) (v_p_pumpCell : Int32) (v_p_pumpTakes : Int32) (v_p_pumpFrom : Int32) (v_p_pumpTo : Int32) (v_p_wanting : (Nat → Int32)) (v_p_passWidth : (Nat → Int32)) (v_p_riverWidth : (Nat → Int32)) (v_p_rain : (Nat → Int32)) (u0 : rg v_g_cells 0 12) (u1 : rg v_g_passes 0 20) (u2 : rg v_g_rivers 0 3) (u3 : rg v_g_villages 0 6) (u4 : rg v_g_rains 0 14) (u5 : ac v_g_passFrom v_g_passes 0 11) (u6 : ac v_g_passTo v_g_passes 0 11) (u7 : ac v_g_riverCell v_g_rivers 0 11) (u8 : ac v_g_villageCell v_g_villages 0 11) (u9 : al v_g_lawEnd 0 400) (u10 : rg v_p_pumpCell (-1) 11) (u11 : rg v_p_pumpFrom 0 13) : ∀ (n : Nat) (v_c_pumped : Int32) (v_c_today : Int32) (v_c_lacked : (Nat → Int32)) (v_c_level : (Nat → Int32)) (v_c_water : (Nat → Int32)) (v_c_salt : (Nat → Int64)) (v_c_stack : (Nat → Int32)) (v_d_day : Int32) (v_d_water : (Nat → Int32)) (v_d_salt : (Nat → Int64)) (v_d_seen : (Nat → Int32)) (v_d_took : (Nat → Int32)) (v_d_dryDays : (Nat → Int32)) (v_d_firstDry : (Nat → Int32)) (v_d_total : (Nat → Int32)) (x1 : Int32) (x2 : Int32) (x3 : Int32) (u12 : rg x1 0 5) (u13 : rg x2 1 200) (u14 : rg x3 0 200)  (hm : (200 - x3.toInt).toNat < n), ok (f_X6_takesAndDriesNone_b2 v_g_cells v_g_passes v_g_rivers v_g_villages v_g_rains v_g_room v_g_passFrom v_g_passTo v_g_riverCell v_g_riverLevel v_g_riverSalt v_g_villageCell v_g_need v_g_lawEnd v_g_code v_p_pumpCell v_p_pumpTakes v_p_pumpFrom v_p_pumpTo v_p_wanting v_p_passWidth v_p_riverWidth v_p_rain n v_c_pumped v_c_today v_c_lacked v_c_level v_c_water v_c_salt v_c_stack v_d_day v_d_water v_d_salt v_d_seen v_d_took v_d_dryDays v_d_firstDry v_d_total x1 x2 x3) P_X6_takesAndDriesNone := by
  intro n
  induction n with
  | zero =>
    intro v_c_pumped v_c_today v_c_lacked v_c_level v_c_water v_c_salt v_c_stack v_d_day v_d_water v_d_salt v_d_seen v_d_took v_d_dryDays v_d_firstDry v_d_total x1 x2 x3 u12 u13 u14 hm
    exact absurd hm (Nat.not_lt_zero _)
  | succ n ih =>
    intro v_c_pumped v_c_today v_c_lacked v_c_level v_c_water v_c_salt v_c_stack v_d_day v_d_water v_d_salt v_d_seen v_d_took v_d_dryDays v_d_firstDry v_d_total x1 x2 x3 u12 u13 u14 hm
    show ok (f_X6_takesAndDriesNone_b2_st (f_X6_takesAndDriesNone_b2 v_g_cells v_g_passes v_g_rivers v_g_villages v_g_rains v_g_room v_g_passFrom v_g_passTo v_g_riverCell v_g_riverLevel v_g_riverSalt v_g_villageCell v_g_need v_g_lawEnd v_g_code v_p_pumpCell v_p_pumpTakes v_p_pumpFrom v_p_pumpTo v_p_wanting v_p_passWidth v_p_riverWidth v_p_rain n) v_g_cells v_g_passes v_g_rivers v_g_villages v_g_rains v_g_room v_g_passFrom v_g_passTo v_g_riverCell v_g_riverLevel v_g_riverSalt v_g_villageCell v_g_need v_g_lawEnd v_g_code v_p_pumpCell v_p_pumpTakes v_p_pumpFrom v_p_pumpTo v_p_wanting v_p_passWidth v_p_riverWidth v_p_rain v_c_pumped v_c_today v_c_lacked v_c_level v_c_water v_c_salt v_c_stack v_d_day v_d_water v_d_salt v_d_seen v_d_took v_d_dryDays v_d_firstDry v_d_total x1 x2 x3) P_X6_takesAndDriesNone
    unfold f_X6_takesAndDriesNone_b2_st
    refine ok_if (fun c1 => ?_) (fun c1 => ?_)
    · have w2 : rg x3 1 200 := rg_ley (ti_le c1) u13 u14
      exact ok_some ⟨(rg_w (show rg (1 : Int32) 1 1 from ⟨by decide, by decide⟩) (by decide) (by decide)), trivial⟩
    · have w3 : rg x3 0 199 := rg_ltx 199 (ti_nle c1) u14 u13 (by decide)
      refine ok_bd15 (s_X0_oneDay v_g_cells v_g_passes v_g_rivers v_g_villages v_g_rains v_g_room v_g_passFrom v_g_passTo v_g_riverCell v_g_riverLevel v_g_riverSalt v_g_villageCell v_g_need v_g_lawEnd v_g_code v_p_pumpCell v_p_pumpTakes v_p_pumpFrom v_p_pumpTo v_p_wanting v_p_passWidth v_p_riverWidth v_p_rain v_c_pumped v_c_today v_c_lacked v_c_level v_c_water v_c_salt v_c_stack v_d_day v_d_water v_d_salt v_d_seen v_d_took v_d_dryDays v_d_firstDry v_d_total u0 u1 u2 u3 u4 u5 u6 u7 u8 u9 u10 u11) (fun o_2_0 o_2_1 o_2_2 o_2_3 o_2_4 o_2_5 o_2_6 o_2_7 o_2_8 o_2_9 o_2_10 o_2_11 o_2_12 o_2_13 o_2_14 p4 => ?_)
      refine ok_ck (inb_rg u12 (by decide) (by decide)) ?_
      refine ok_ck (inb_rg u12 (by decide) (by decide)) ?_
      refine ok_if (fun c5 => ?_) (fun c5 => ?_)
      · exact s_X6_takesAndDriesNone_b44 _ v_g_cells v_g_passes v_g_rivers v_g_villages v_g_rains v_g_room v_g_passFrom v_g_passTo v_g_riverCell v_g_riverLevel v_g_riverSalt v_g_villageCell v_g_need v_g_lawEnd v_g_code v_p_pumpCell v_p_pumpTakes v_p_pumpFrom v_p_pumpTo v_p_wanting v_p_passWidth v_p_riverWidth v_p_rain u0 u1 u2 u3 u4 u5 u6 u7 u8 u9 u10 u11 _ o_2_0 o_2_1 o_2_2 o_2_3 o_2_4 o_2_5 o_2_6 o_2_7 o_2_8 o_2_9 o_2_10 o_2_11 o_2_12 o_2_13 o_2_14 x1 x2 x3 (0 : Int32) u12 u13 w3 (rg_w (show rg (0 : Int32) 0 0 from ⟨by decide, by decide⟩) (by decide) (by decide)) (ti_nle c1) (by intro v_c_pumped' v_c_today' v_c_lacked' v_c_level' v_c_water' v_c_salt' v_c_stack' v_d_day' v_d_water' v_d_salt' v_d_seen' v_d_took' v_d_dryDays' v_d_firstDry' v_d_total' x1' x2' x3' f0 f1 f2 lt; exact ih _ _ _ _ _ _ _ _ _ _ _ _ _ _ _ _ _ _ f0 f1 f2 (ms_up hm lt f2)) (fu_up (a := 0) (h := 6) (rg_w (show rg (0 : Int32) 0 0 from ⟨by decide, by decide⟩) (by decide) (by decide)) (by decide))
      · exact ok_some ⟨(rg_w (show rg (0 : Int32) 0 0 from ⟨by decide, by decide⟩) (by decide) (by decide)), trivial⟩
set_option maxRecDepth 100000 in
set_option maxHeartbeats 2000000 in
theorem s_X6_takesAndDriesNone (v_g_cells : Int32) (v_g_passes : Int32) (v_g_rivers : Int32) (v_g_villages : Int32) (v_g_rains : Int32) (v_g_room : (Nat → Int32)) (v_g_passFrom : (Nat → Int32)) (v_g_passTo : (Nat → Int32)) (v_g_riverCell : (Nat → Int32)) (v_g_riverLevel : (Nat → Int32)) (v_g_riverSalt : (Nat → Int32)) (v_g_villageCell : (Nat → Int32)) (v_g_need : (Nat → Int32)) (v_g_lawEnd : (Nat → Int32)) (v_g_code : (Nat → Int32)) (v_p_pumpCell : Int32) (v_p_pumpTakes : Int32) (v_p_pumpFrom : Int32) (v_p_pumpTo : Int32) (v_p_wanting : (Nat → Int32)) (v_p_passWidth : (Nat → Int32)) (v_p_riverWidth : (Nat → Int32)) (v_p_rain : (Nat → Int32)) (v_c_pumped : Int32) (v_c_today : Int32) (v_c_lacked : (Nat → Int32)) (v_c_level : (Nat → Int32)) (v_c_water : (Nat → Int32)) (v_c_salt : (Nat → Int64)) (v_c_stack : (Nat → Int32)) (v_d_day : Int32) (v_d_water : (Nat → Int32)) (v_d_salt : (Nat → Int64)) (v_d_seen : (Nat → Int32)) (v_d_took : (Nat → Int32)) (v_d_dryDays : (Nat → Int32)) (v_d_firstDry : (Nat → Int32)) (v_d_total : (Nat → Int32)) (q1 : Int32) (q2 : Int32) (u0 : rg v_g_cells 0 12) (u1 : rg v_g_passes 0 20) (u2 : rg v_g_rivers 0 3) (u3 : rg v_g_villages 0 6) (u4 : rg v_g_rains 0 14) (u5 : ac v_g_passFrom v_g_passes 0 11) (u6 : ac v_g_passTo v_g_passes 0 11) (u7 : ac v_g_riverCell v_g_rivers 0 11) (u8 : ac v_g_villageCell v_g_villages 0 11) (u9 : al v_g_lawEnd 0 400) (u10 : rg v_p_pumpCell (-1) 11) (u11 : rg v_p_pumpFrom 0 13) (u12 : rg q1 0 5) (u13 : rg q2 1 200) : ok (f_X6_takesAndDriesNone v_g_cells v_g_passes v_g_rivers v_g_villages v_g_rains v_g_room v_g_passFrom v_g_passTo v_g_riverCell v_g_riverLevel v_g_riverSalt v_g_villageCell v_g_need v_g_lawEnd v_g_code v_p_pumpCell v_p_pumpTakes v_p_pumpFrom v_p_pumpTo v_p_wanting v_p_passWidth v_p_riverWidth v_p_rain v_c_pumped v_c_today v_c_lacked v_c_level v_c_water v_c_salt v_c_stack v_d_day v_d_water v_d_salt v_d_seen v_d_took v_d_dryDays v_d_firstDry v_d_total q1 q2) P_X6_takesAndDriesNone := by
  unfold f_X6_takesAndDriesNone
  exact s_X6_takesAndDriesNone_b2 v_g_cells v_g_passes v_g_rivers v_g_villages v_g_rains v_g_room v_g_passFrom v_g_passTo v_g_riverCell v_g_riverLevel v_g_riverSalt v_g_villageCell v_g_need v_g_lawEnd v_g_code v_p_pumpCell v_p_pumpTakes v_p_pumpFrom v_p_pumpTo v_p_wanting v_p_passWidth v_p_riverWidth v_p_rain u0 u1 u2 u3 u4 u5 u6 u7 u8 u9 u10 u11 _ v_c_pumped v_c_today v_c_lacked v_c_level v_c_water v_c_salt v_c_stack v_d_day v_d_water v_d_salt v_d_seen v_d_took v_d_dryDays v_d_firstDry v_d_total q1 q2 (0 : Int32) u12 u13 (rg_w (show rg (0 : Int32) 0 0 from ⟨by decide, by decide⟩) (by decide) (by decide)) (fu_up (a := 0) (h := 200) (rg_w (show rg (0 : Int32) 0 0 from ⟨by decide, by decide⟩) (by decide) (by decide)) (by decide))

abbrev P_X6_startAnew (z_v_e_pumps : (Nat → Int32)) : (Nat → Int32) × Int32 × (Nat → Int32) × (Nat → Int64) × (Nat → Int32) × (Nat → Int32) × (Nat → Int32) × (Nat → Int32) × (Nat → Int32) × Int32 × (Nat → Int32) → Prop := (fun o : (Nat → Int32) × Int32 × (Nat → Int32) × (Nat → Int64) × (Nat → Int32) × (Nat → Int32) × (Nat → Int32) × (Nat → Int32) × (Nat → Int32) × Int32 × (Nat → Int32) => rg o.2.2.2.2.2.2.2.2.2.1 0 20 ∧ pk z_v_e_pumps o.2.2.2.2.2.2.2.2.2.2 ∧ True)
set_option maxRecDepth 100000 in
set_option maxHeartbeats 2000000 in
theorem s_X6_startAnew_b20  (z_v_e_pumps : (Nat → Int32))  : ∀ (n : Nat) (v_w_held : (Nat → Int32)) (v_n_day : Int32) (v_n_water : (Nat → Int32)) (v_n_salt : (Nat → Int64)) (v_n_seen : (Nat → Int32)) (v_n_took : (Nat → Int32)) (v_n_dryDays : (Nat → Int32)) (v_n_firstDry : (Nat → Int32)) (v_n_total : (Nat → Int32)) (v_e_told : Int32) (v_e_pumps : (Nat → Int32)) (x1 : Int32) (u0 : rg v_e_told 0 20) (u1 : rg x1 0 3) (u2 : pk z_v_e_pumps v_e_pumps)  (hm : (3 - x1.toInt).toNat < n), ok (f_X6_startAnew_b20  n v_w_held v_n_day v_n_water v_n_salt v_n_seen v_n_took v_n_dryDays v_n_firstDry v_n_total v_e_told v_e_pumps x1) (P_X6_startAnew z_v_e_pumps) := by
  intro n
  induction n with
  | zero =>
    intro v_w_held v_n_day v_n_water v_n_salt v_n_seen v_n_took v_n_dryDays v_n_firstDry v_n_total v_e_told v_e_pumps x1 u0 u1 u2 hm
    exact absurd hm (Nat.not_lt_zero _)
  | succ n ih =>
    intro v_w_held v_n_day v_n_water v_n_salt v_n_seen v_n_took v_n_dryDays v_n_firstDry v_n_total v_e_told v_e_pumps x1 u0 u1 u2 hm
    show ok (f_X6_startAnew_b20_st (f_X6_startAnew_b20  n)  v_w_held v_n_day v_n_water v_n_salt v_n_seen v_n_took v_n_dryDays v_n_firstDry v_n_total v_e_told v_e_pumps x1) (P_X6_startAnew z_v_e_pumps)
    unfold f_X6_startAnew_b20_st
    refine ok_if (fun c1 => ?_) (fun c1 => ?_)
    · have w2 : rg x1 3 3 := rg_ley (ti_le c1) (show rg (3 : Int32) 3 3 from ⟨by decide, by decide⟩) u1
      exact ok_some ⟨u0, u2, trivial⟩
    · have w3 : rg x1 0 2 := rg_ltx 2 (ti_nle c1) u1 (show rg (3 : Int32) 3 3 from ⟨by decide, by decide⟩) (by decide)
      refine ok_ck (inb_rg w3 (by decide) (by decide)) ?_
      refine ok_nm (fun a_3 ea_3 => ?_)
      exact ih a_3 v_n_day v_n_water v_n_salt v_n_seen v_n_took v_n_dryDays v_n_firstDry v_n_total v_e_told v_e_pumps (x1 + (1 : Int32)) u0 (rg_w (rg_add (e := 1) (f := 3) w3 (show rg (1 : Int32) 1 1 from ⟨by decide, by decide⟩) (by decide) (by decide) (by decide) (by decide)) (by decide) (by decide)) u2 (ms_up (y := (x1 + (1 : Int32))) (a := 0) hm (lt_ad w3 (show rg (1 : Int32) 1 1 from ⟨by decide, by decide⟩) (by decide) (by decide) (by decide)) (rg_w (rg_add (e := 1) (f := 3) w3 (show rg (1 : Int32) 1 1 from ⟨by decide, by decide⟩) (by decide) (by decide) (by decide) (by decide)) (by decide) (by decide)))
set_option maxRecDepth 100000 in
set_option maxHeartbeats 2000000 in
theorem s_X6_startAnew (v_g_water : (Nat → Int32)) (v_w_held : (Nat → Int32)) (v_n_day : Int32) (v_n_water : (Nat → Int32)) (v_n_salt : (Nat → Int64)) (v_n_seen : (Nat → Int32)) (v_n_took : (Nat → Int32)) (v_n_dryDays : (Nat → Int32)) (v_n_firstDry : (Nat → Int32)) (v_n_total : (Nat → Int32)) (v_e_told : Int32) (v_e_pumps : (Nat → Int32)) (u0 : rg v_e_told 0 20) : ok (f_X6_startAnew v_g_water v_w_held v_n_day v_n_water v_n_salt v_n_seen v_n_took v_n_dryDays v_n_firstDry v_n_total v_e_told v_e_pumps) (P_X6_startAnew v_e_pumps) := by
  unfold f_X6_startAnew
  refine ok_bd8 (s_X1_begin v_g_water v_n_day v_n_water v_n_salt v_n_seen v_n_took v_n_dryDays v_n_firstDry v_n_total) (fun o_1_0 o_1_1 o_1_2 o_1_3 o_1_4 o_1_5 o_1_6 o_1_7 p1 => ?_)
  refine ok_bd2 (s_X2_clear v_e_told v_e_pumps u0) (fun o_2_0 o_2_1 p2 => ?_)
  have g3 : rg o_2_0 0 20 := p2.1
  have g4 : pk v_e_pumps o_2_1 := p2.2.1
  exact s_X6_startAnew_b20 v_e_pumps _ v_w_held o_1_0 o_1_1 o_1_2 o_1_3 o_1_4 o_1_5 o_1_6 o_1_7 o_2_0 o_2_1 (0 : Int32) g3 (rg_w (show rg (0 : Int32) 0 0 from ⟨by decide, by decide⟩) (by decide) (by decide)) g4 (fu_up (a := 0) (h := 3) (rg_w (show rg (0 : Int32) 0 0 from ⟨by decide, by decide⟩) (by decide) (by decide)) (by decide))

abbrev P_X6_slotsHeld  : Int32 → Prop := (fun o : Int32 => True)
set_option maxRecDepth 100000 in
set_option maxHeartbeats 2000000 in
theorem s_X6_slotsHeld_b4  (v_w_held : (Nat → Int32))  : ∀ (n : Nat) (x1 : Int32) (x2 : Int32) (u0 : rg x2 0 3)  (hm : (3 - x2.toInt).toNat < n), ok (f_X6_slotsHeld_b4 v_w_held n x1 x2) P_X6_slotsHeld := by
  intro n
  induction n with
  | zero =>
    intro x1 x2 u0 hm
    exact absurd hm (Nat.not_lt_zero _)
  | succ n ih =>
    intro x1 x2 u0 hm
    show ok (f_X6_slotsHeld_b4_st (f_X6_slotsHeld_b4 v_w_held n) v_w_held x1 x2) P_X6_slotsHeld
    unfold f_X6_slotsHeld_b4_st
    refine ok_if (fun c1 => ?_) (fun c1 => ?_)
    · have w2 : rg x2 3 3 := rg_ley (ti_le c1) (show rg (3 : Int32) 3 3 from ⟨by decide, by decide⟩) u0
      exact ok_some trivial
    · have w3 : rg x2 0 2 := rg_ltx 2 (ti_nle c1) u0 (show rg (3 : Int32) 3 3 from ⟨by decide, by decide⟩) (by decide)
      refine ok_ck (inb_rg w3 (by decide) (by decide)) ?_
      refine ok_if (fun c4 => ?_) (fun c4 => ?_)
      · have w5 : rg (v_w_held x2.toNatClampNeg) 0 0 := rg_lex (ti_eq c4) (rg_ley (ti_eq2 c4) (show rg (0 : Int32) 0 0 from ⟨by decide, by decide⟩) (rg_any (v_w_held x2.toNatClampNeg))) (show rg (0 : Int32) 0 0 from ⟨by decide, by decide⟩)
        exact ih x1 (x2 + (1 : Int32)) (rg_w (rg_add (e := 1) (f := 3) w3 (show rg (1 : Int32) 1 1 from ⟨by decide, by decide⟩) (by decide) (by decide) (by decide) (by decide)) (by decide) (by decide)) (ms_up (y := (x2 + (1 : Int32))) (a := 0) hm (lt_ad w3 (show rg (1 : Int32) 1 1 from ⟨by decide, by decide⟩) (by decide) (by decide) (by decide)) (rg_w (rg_add (e := 1) (f := 3) w3 (show rg (1 : Int32) 1 1 from ⟨by decide, by decide⟩) (by decide) (by decide) (by decide) (by decide)) (by decide) (by decide)))
      · exact ih (x1 + (1 : Int32)) (x2 + (1 : Int32)) (rg_w (rg_add (e := 1) (f := 3) w3 (show rg (1 : Int32) 1 1 from ⟨by decide, by decide⟩) (by decide) (by decide) (by decide) (by decide)) (by decide) (by decide)) (ms_up (y := (x2 + (1 : Int32))) (a := 0) hm (lt_ad w3 (show rg (1 : Int32) 1 1 from ⟨by decide, by decide⟩) (by decide) (by decide) (by decide)) (rg_w (rg_add (e := 1) (f := 3) w3 (show rg (1 : Int32) 1 1 from ⟨by decide, by decide⟩) (by decide) (by decide) (by decide) (by decide)) (by decide) (by decide)))
set_option maxRecDepth 100000 in
set_option maxHeartbeats 2000000 in
theorem s_X6_slotsHeld (v_w_held : (Nat → Int32))  : ok (f_X6_slotsHeld v_w_held) P_X6_slotsHeld := by
  unfold f_X6_slotsHeld
  exact s_X6_slotsHeld_b4 v_w_held _ (0 : Int32) (0 : Int32) (rg_w (show rg (0 : Int32) 0 0 from ⟨by decide, by decide⟩) (by decide) (by decide)) (fu_up (a := 0) (h := 3) (rg_w (show rg (0 : Int32) 0 0 from ⟨by decide, by decide⟩) (by decide) (by decide)) (by decide))

abbrev P_X6_append  : Int32 × (Nat → Int32) → Prop := (fun o : Int32 × (Nat → Int32) => rg o.1 0 2000 ∧ al o.2 (-128) 127 ∧ True)
set_option maxRecDepth 100000 in
set_option maxHeartbeats 2000000 in
theorem s_X6_append_b3    : ∀ (n : Nat) (v_w_length : Int32) (v_w_tape : (Nat → Int32)) (x1 : Int32) (x2 : Int32) (u0 : rg v_w_length 0 2000) (u1 : al v_w_tape (-128) 127) (u2 : rg x2 (-8) 24)  (hm : (x2.toInt - (-8)).toNat < n), ok (f_X6_append_b3  n v_w_length v_w_tape x1 x2) P_X6_append := by
  intro n
  induction n with
  | zero =>
    intro v_w_length v_w_tape x1 x2 u0 u1 u2 hm
    exact absurd hm (Nat.not_lt_zero _)
  | succ n ih =>
    intro v_w_length v_w_tape x1 x2 u0 u1 u2 hm
    show ok (f_X6_append_b3_st (f_X6_append_b3  n)  v_w_length v_w_tape x1 x2) P_X6_append
    unfold f_X6_append_b3_st
    refine ok_if (fun c1 => ?_) (fun c1 => ?_)
    · have w2 : rg x2 (-8) (-1) := rg_ltx (-1) (ti_lt c1) u2 (show rg (0 : Int32) 0 0 from ⟨by decide, by decide⟩) (by decide)
      exact ok_some ⟨u0, u1, trivial⟩
    · have w3 : rg x2 0 24 := rg_ley (ti_nlt c1) (show rg (0 : Int32) 0 0 from ⟨by decide, by decide⟩) u2
      refine ok_if (fun c4 => ?_) (fun c4 => ?_)
      · have w5 : rg v_w_length 2000 2000 := rg_ley (ti_le c4) (show rg (2000 : Int32) 2000 2000 from ⟨by decide, by decide⟩) u0
        exact ok_some ⟨(rg_w w5 (by decide) (by decide)), u1, trivial⟩
      · have w6 : rg v_w_length 0 1999 := rg_ltx 1999 (ti_nle c4) u0 (show rg (2000 : Int32) 2000 2000 from ⟨by decide, by decide⟩) (by decide)
        refine ok_ck (inb_rg w6 (by decide) (by decide)) ?_
        refine ok_nm (fun a_4 ea_4 => ?_)
        exact ih (v_w_length + (1 : Int32)) a_4 x1 (x2 + (-8 : Int32)) (rg_w (rg_add (e := 1) (f := 2000) w6 (show rg (1 : Int32) 1 1 from ⟨by decide, by decide⟩) (by decide) (by decide) (by decide) (by decide)) (by decide) (by decide)) (al_upd (c := (-128)) (d := 127) ea_4 u1 (rg_byte (x1 >>> (x2 &&& 31)).toInt8.toInt32)) (rg_w (rg_add (e := (-8)) (f := 16) w3 (show rg (-8 : Int32) (-8) (-8) from ⟨by decide, by decide⟩) (by decide) (by decide) (by decide) (by decide)) (by decide) (by decide)) (ms_dn (y := (x2 + (-8 : Int32))) (b := 24) hm (gt_ad w3 (show rg (-8 : Int32) (-8) (-8) from ⟨by decide, by decide⟩) (by decide) (by decide) (by decide)) (rg_w (rg_add (e := (-8)) (f := 16) w3 (show rg (-8 : Int32) (-8) (-8) from ⟨by decide, by decide⟩) (by decide) (by decide) (by decide) (by decide)) (by decide) (by decide)))
set_option maxRecDepth 100000 in
set_option maxHeartbeats 2000000 in
theorem s_X6_append (v_w_length : Int32) (v_w_tape : (Nat → Int32)) (q1 : Int32) (u0 : rg v_w_length 0 2000) (u1 : al v_w_tape (-128) 127) : ok (f_X6_append v_w_length v_w_tape q1) P_X6_append := by
  unfold f_X6_append
  exact s_X6_append_b3 _ v_w_length v_w_tape q1 (24 : Int32) u0 u1 (rg_w (show rg (24 : Int32) 24 24 from ⟨by decide, by decide⟩) (by decide) (by decide)) (fu_dn (h := (-8)) (b := 24) (rg_w (show rg (24 : Int32) 24 24 from ⟨by decide, by decide⟩) (by decide) (by decide)) (by decide))

abbrev P_X6_feed  : Int32 × Int32 × (Nat → Int32) → Prop := (fun o : Int32 × Int32 × (Nat → Int32) => rg o.1 (-1) 2000 ∧ rg o.2.1 0 2000 ∧ al o.2.2 (-128) 127 ∧ True)
set_option maxRecDepth 100000 in
set_option maxHeartbeats 2000000 in
theorem s_X6_feed (v_w_length : Int32) (v_w_tape : (Nat → Int32)) (q1 : Int32) (q2 : Int32) (q3 : Int32) (q4 : Int32) (q5 : Int32) (u0 : rg v_w_length 0 2000) (u1 : al v_w_tape (-128) 127) : ok (f_X6_feed v_w_length v_w_tape q1 q2 q3 q4 q5) P_X6_feed := by
  unfold f_X6_feed
  refine ok_if (fun c1 => ?_) (fun c1 => ?_)
  · have w2 : rg v_w_length 0 1980 := rg_lex (ti_le c1) u0 (show rg (1980 : Int32) 1980 1980 from ⟨by decide, by decide⟩)
    refine ok_bd2 (s_X6_append v_w_length v_w_tape q1 (rg_w w2 (by decide) (by decide)) u1) (fun o_2_0 o_2_1 p3 => ?_)
    have g4 : rg o_2_0 0 2000 := p3.1
    have g5 : al o_2_1 (-128) 127 := p3.2.1
    refine ok_bd2 (s_X6_append o_2_0 o_2_1 q2 g4 g5) (fun o_3_0 o_3_1 p6 => ?_)
    have g7 : rg o_3_0 0 2000 := p6.1
    have g8 : al o_3_1 (-128) 127 := p6.2.1
    refine ok_bd2 (s_X6_append o_3_0 o_3_1 q3 g7 g8) (fun o_4_0 o_4_1 p9 => ?_)
    have g10 : rg o_4_0 0 2000 := p9.1
    have g11 : al o_4_1 (-128) 127 := p9.2.1
    refine ok_bd2 (s_X6_append o_4_0 o_4_1 q4 g10 g11) (fun o_5_0 o_5_1 p12 => ?_)
    have g13 : rg o_5_0 0 2000 := p12.1
    have g14 : al o_5_1 (-128) 127 := p12.2.1
    refine ok_bd2 (s_X6_append o_5_0 o_5_1 q5 g13 g14) (fun o_6_0 o_6_1 p15 => ?_)
    have g16 : rg o_6_0 0 2000 := p15.1
    have g17 : al o_6_1 (-128) 127 := p15.2.1
    exact ok_some ⟨(rg_w g16 (by decide) (by decide)), g16, g17, trivial⟩
  · have w18 : rg v_w_length 1981 2000 := rg_lty 1981 (ti_nle c1) (show rg (1980 : Int32) 1980 1980 from ⟨by decide, by decide⟩) u0 (by decide)
    exact ok_some ⟨(rg_w (show rg (-1 : Int32) (-1) (-1) from ⟨by decide, by decide⟩) (by decide) (by decide)), (rg_w w18 (by decide) (by decide)), u1, trivial⟩

abbrev P_X6_back  : Int32 × Int32 → Prop := (fun o : Int32 × Int32 => rg o.1 (-1) 2000 ∧ rg o.2 0 2000 ∧ True)
set_option maxRecDepth 100000 in
set_option maxHeartbeats 2000000 in
theorem s_X6_back (v_w_length : Int32) (q1 : Int32) (u0 : rg v_w_length 0 2000) : ok (f_X6_back v_w_length q1) P_X6_back := by
  unfold f_X6_back
  refine ok_if (fun c1 => ?_) (fun c1 => ?_)
  · have w2 : rg q1 (-2147483648) (-1) := rg_ltx (-1) (ti_lt c1) (rg_any q1) (show rg (0 : Int32) 0 0 from ⟨by decide, by decide⟩) (by decide)
    exact ok_some ⟨(rg_w (show rg (-1 : Int32) (-1) (-1) from ⟨by decide, by decide⟩) (by decide) (by decide)), u0, trivial⟩
  · have w3 : rg q1 0 2147483647 := rg_ley (ti_nlt c1) (show rg (0 : Int32) 0 0 from ⟨by decide, by decide⟩) (rg_any q1)
    refine ok_if (fun c4 => ?_) (fun c4 => ?_)
    · have w5 : rg q1 0 2000 := rg_lex (ti_le c4) w3 u0
      exact ok_some ⟨(rg_w (rg_subn (f := 2000) u0 w5 (ti_le c4) (by decide) (by decide) (by decide)) (by decide) (by decide)), (rg_subn (f := 2000) u0 w5 (ti_le c4) (by decide) (by decide) (by decide)), trivial⟩
    · have w6 : rg q1 1 2147483647 := rg_lty 1 (ti_nle c4) u0 w3 (by decide)
      exact ok_some ⟨(rg_w (show rg (-1 : Int32) (-1) (-1) from ⟨by decide, by decide⟩) (by decide) (by decide)), u0, trivial⟩

abbrev P_X6_place  : Int32 → Prop := (fun o : Int32 => True)
set_option maxRecDepth 100000 in
set_option maxHeartbeats 2000000 in
theorem s_X6_place (v_w_faultPlace : Int32)  : ok (f_X6_place v_w_faultPlace) P_X6_place := by
  unfold f_X6_place
  exact ok_some trivial

abbrev P_X6_cell  : Int32 → Prop := (fun o : Int32 => True)
set_option maxRecDepth 100000 in
set_option maxHeartbeats 2000000 in
theorem s_X6_cell (v_g_cells : Int32) (v_g_room : (Nat → Int32)) (v_g_ways : (Nat → Int32)) (v_n_water : (Nat → Int32)) (v_n_salt : (Nat → Int64)) (v_n_seen : (Nat → Int32)) (q1 : Int32) (q2 : Int32) (u0 : rg v_g_cells 0 12) : ok (f_X6_cell v_g_cells v_g_room v_g_ways v_n_water v_n_salt v_n_seen q1 q2) P_X6_cell := by
  unfold f_X6_cell
  refine ok_bd (s_X6_isCell v_g_cells q1 u0) (fun o_1 p1 => ?_)
  have g2 : rg o_1 0 1 := p1.1
  refine ok_if (fun c4 => ?_) (fun c4 => ?_)
  · have w5 : rg o_1 0 0 := rg_lex (ti_eq c4) (rg_ley (ti_eq2 c4) (show rg (0 : Int32) 0 0 from ⟨by decide, by decide⟩) g2) (show rg (0 : Int32) 0 0 from ⟨by decide, by decide⟩)
    exact ok_some trivial
  · obtain ⟨i6_0, i6_1⟩ := p1.2.1.resolve_left c4
    have w7 : rg q1 0 11 := rg_ltx 11 i6_1 i6_0 u0 (by decide)
    have w8 : rg v_g_cells 1 12 := rg_lty 1 i6_1 i6_0 u0 (by decide)
    have w9 : rg o_1 1 1 := rg_nel 1 c4 g2 (show rg (0 : Int32) 0 0 from ⟨by decide, by decide⟩) (by decide)
    refine ok_if (fun c10 => ?_) (fun c10 => ?_)
    · have w11 : rg q2 0 0 := rg_lex (ti_eq c10) (rg_ley (ti_eq2 c10) (show rg (0 : Int32) 0 0 from ⟨by decide, by decide⟩) (rg_any q2)) (show rg (0 : Int32) 0 0 from ⟨by decide, by decide⟩)
      refine ok_ck (inb_rg w7 (by decide) (by decide)) ?_
      exact ok_some trivial
    · refine ok_if (fun c12 => ?_) (fun c12 => ?_)
      · have w13 : rg q2 1 1 := rg_lex (ti_eq c12) (rg_ley (ti_eq2 c12) (show rg (1 : Int32) 1 1 from ⟨by decide, by decide⟩) (rg_any q2)) (show rg (1 : Int32) 1 1 from ⟨by decide, by decide⟩)
        refine ok_ck (inb_rg w7 (by decide) (by decide)) ?_
        refine ok_bd (s_X3_levelOf v_g_room q1 (v_n_water q1.toNatClampNeg) w7) (fun o_7 p14 => ?_)
        exact ok_some trivial
      · refine ok_if (fun c15 => ?_) (fun c15 => ?_)
        · have w16 : rg q2 2 2 := rg_lex (ti_eq c15) (rg_ley (ti_eq2 c15) (show rg (2 : Int32) 2 2 from ⟨by decide, by decide⟩) (rg_any q2)) (show rg (2 : Int32) 2 2 from ⟨by decide, by decide⟩)
          refine ok_ck (inb_rg w7 (by decide) (by decide)) ?_
          exact ok_some trivial
        · refine ok_if (fun c17 => ?_) (fun c17 => ?_)
          · have w18 : rg q2 3 3 := rg_lex (ti_eq c17) (rg_ley (ti_eq2 c17) (show rg (3 : Int32) 3 3 from ⟨by decide, by decide⟩) (rg_any q2)) (show rg (3 : Int32) 3 3 from ⟨by decide, by decide⟩)
            refine ok_ck (inb_rg w7 (by decide) (by decide)) ?_
            exact ok_some trivial
          · refine ok_if (fun c19 => ?_) (fun c19 => ?_)
            · have w20 : rg q2 4 4 := rg_lex (ti_eq c19) (rg_ley (ti_eq2 c19) (show rg (4 : Int32) 4 4 from ⟨by decide, by decide⟩) (rg_any q2)) (show rg (4 : Int32) 4 4 from ⟨by decide, by decide⟩)
              refine ok_bd (s_X1_saltyOf v_n_water v_n_salt q1 w7) (fun o_13 p21 => ?_)
              exact ok_some trivial
            · refine ok_if (fun c22 => ?_) (fun c22 => ?_)
              · have w23 : rg q2 5 5 := rg_lex (ti_eq c22) (rg_ley (ti_eq2 c22) (show rg (5 : Int32) 5 5 from ⟨by decide, by decide⟩) (rg_any q2)) (show rg (5 : Int32) 5 5 from ⟨by decide, by decide⟩)
                refine ok_ck (inb_rg w7 (by decide) (by decide)) ?_
                exact ok_some trivial
              · refine ok_if (fun c24 => ?_) (fun c24 => ?_)
                · have w25 : rg q2 6 6 := rg_lex (ti_eq c24) (rg_ley (ti_eq2 c24) (show rg (6 : Int32) 6 6 from ⟨by decide, by decide⟩) (rg_any q2)) (show rg (6 : Int32) 6 6 from ⟨by decide, by decide⟩)
                  refine ok_ck (inb_rg w7 (by decide) (by decide)) ?_
                  exact ok_some trivial
                · exact ok_some trivial

abbrev P_X6_village  : Int32 → Prop := (fun o : Int32 => True)
set_option maxRecDepth 100000 in
set_option maxHeartbeats 2000000 in
theorem s_X6_village (v_g_villages : Int32) (v_g_villageCell : (Nat → Int32)) (v_g_need : (Nat → Int32)) (v_n_took : (Nat → Int32)) (v_n_dryDays : (Nat → Int32)) (v_n_firstDry : (Nat → Int32)) (v_n_total : (Nat → Int32)) (q1 : Int32) (q2 : Int32) (u0 : rg v_g_villages 0 6) (u1 : ac v_g_villageCell v_g_villages 0 11) : ok (f_X6_village v_g_villages v_g_villageCell v_g_need v_n_took v_n_dryDays v_n_firstDry v_n_total q1 q2) P_X6_village := by
  unfold f_X6_village
  refine ok_bd (s_X6_isVillage v_g_villages q1 u0) (fun o_1 p1 => ?_)
  have g2 : rg o_1 0 1 := p1.1
  refine ok_if (fun c4 => ?_) (fun c4 => ?_)
  · have w5 : rg o_1 0 0 := rg_lex (ti_eq c4) (rg_ley (ti_eq2 c4) (show rg (0 : Int32) 0 0 from ⟨by decide, by decide⟩) g2) (show rg (0 : Int32) 0 0 from ⟨by decide, by decide⟩)
    exact ok_some trivial
  · obtain ⟨i6_0, i6_1⟩ := p1.2.1.resolve_left c4
    have w7 : rg q1 0 5 := rg_ltx 5 i6_1 i6_0 u0 (by decide)
    have w8 : rg v_g_villages 1 6 := rg_lty 1 i6_1 i6_0 u0 (by decide)
    have w9 : rg o_1 1 1 := rg_nel 1 c4 g2 (show rg (0 : Int32) 0 0 from ⟨by decide, by decide⟩) (by decide)
    refine ok_if (fun c10 => ?_) (fun c10 => ?_)
    · have w11 : rg q2 0 0 := rg_lex (ti_eq c10) (rg_ley (ti_eq2 c10) (show rg (0 : Int32) 0 0 from ⟨by decide, by decide⟩) (rg_any q2)) (show rg (0 : Int32) 0 0 from ⟨by decide, by decide⟩)
      refine ok_ck (inb_rg w7 (by decide) (by decide)) ?_
      exact ok_some trivial
    · refine ok_if (fun c12 => ?_) (fun c12 => ?_)
      · have w13 : rg q2 1 1 := rg_lex (ti_eq c12) (rg_ley (ti_eq2 c12) (show rg (1 : Int32) 1 1 from ⟨by decide, by decide⟩) (rg_any q2)) (show rg (1 : Int32) 1 1 from ⟨by decide, by decide⟩)
        refine ok_ck (inb_rg w7 (by decide) (by decide)) ?_
        exact ok_some trivial
      · refine ok_if (fun c14 => ?_) (fun c14 => ?_)
        · have w15 : rg q2 2 2 := rg_lex (ti_eq c14) (rg_ley (ti_eq2 c14) (show rg (2 : Int32) 2 2 from ⟨by decide, by decide⟩) (rg_any q2)) (show rg (2 : Int32) 2 2 from ⟨by decide, by decide⟩)
          refine ok_ck (inb_rg w7 (by decide) (by decide)) ?_
          exact ok_some trivial
        · refine ok_if (fun c16 => ?_) (fun c16 => ?_)
          · have w17 : rg q2 3 3 := rg_lex (ti_eq c16) (rg_ley (ti_eq2 c16) (show rg (3 : Int32) 3 3 from ⟨by decide, by decide⟩) (rg_any q2)) (show rg (3 : Int32) 3 3 from ⟨by decide, by decide⟩)
            refine ok_ck (inb_rg w7 (by decide) (by decide)) ?_
            exact ok_some trivial
          · refine ok_if (fun c18 => ?_) (fun c18 => ?_)
            · have w19 : rg q2 4 4 := rg_lex (ti_eq c18) (rg_ley (ti_eq2 c18) (show rg (4 : Int32) 4 4 from ⟨by decide, by decide⟩) (rg_any q2)) (show rg (4 : Int32) 4 4 from ⟨by decide, by decide⟩)
              refine ok_ck (inb_rg w7 (by decide) (by decide)) ?_
              exact ok_some trivial
            · refine ok_if (fun c20 => ?_) (fun c20 => ?_)
              · have w21 : rg q2 5 5 := rg_lex (ti_eq c20) (rg_ley (ti_eq2 c20) (show rg (5 : Int32) 5 5 from ⟨by decide, by decide⟩) (rg_any q2)) (show rg (5 : Int32) 5 5 from ⟨by decide, by decide⟩)
                refine ok_ck (inb_rg w7 (by decide) (by decide)) ?_
                exact ok_some trivial
              · exact ok_some trivial

abbrev P_X6_want  : Int32 × Int32 × (Nat → Int32) × (Nat → Int32) × (Nat → Int32) × (Nat → Int32) × Int32 × (Nat → Int32) × Int32 × (Nat → Int32) × (Nat → Int64) × (Nat → Int32) × (Nat → Int32) × (Nat → Int32) × (Nat → Int32) × (Nat → Int32) → Prop := (fun o : Int32 × Int32 × (Nat → Int32) × (Nat → Int32) × (Nat → Int32) × (Nat → Int32) × Int32 × (Nat → Int32) × Int32 × (Nat → Int32) × (Nat → Int64) × (Nat → Int32) × (Nat → Int32) × (Nat → Int32) × (Nat → Int32) × (Nat → Int32) => rg o.1 (-1) 2147483647 ∧ rg o.2.1 (-1) 11 ∧ True)
set_option maxRecDepth 100000 in
set_option maxHeartbeats 2000000 in
theorem s_X6_want (v_g_cells : Int32) (v_g_villages : Int32) (v_g_rains : Int32) (v_g_room : (Nat → Int32)) (v_g_passWidth : (Nat → Int32)) (v_g_riverWidth : (Nat → Int32)) (v_g_lawEnd : (Nat → Int32)) (v_g_code : (Nat → Int32)) (v_g_rain : (Nat → Int32)) (v_n_day : Int32) (v_n_water : (Nat → Int32)) (v_n_salt : (Nat → Int64)) (v_n_seen : (Nat → Int32)) (v_n_took : (Nat → Int32)) (v_n_dryDays : (Nat → Int32)) (v_n_firstDry : (Nat → Int32)) (v_n_total : (Nat → Int32)) (v_p_pumpCell : Int32) (v_p_wanting : (Nat → Int32)) (v_p_passWidth : (Nat → Int32)) (v_p_riverWidth : (Nat → Int32)) (v_p_rain : (Nat → Int32)) (v_c_today : Int32) (v_c_stack : (Nat → Int32)) (v_d_day : Int32) (v_d_water : (Nat → Int32)) (v_d_salt : (Nat → Int64)) (v_d_seen : (Nat → Int32)) (v_d_took : (Nat → Int32)) (v_d_dryDays : (Nat → Int32)) (v_d_firstDry : (Nat → Int32)) (v_d_total : (Nat → Int32)) (q1 : Int32) (u0 : rg v_g_cells 0 12) (u1 : rg v_g_villages 0 6) (u2 : rg v_g_rains 0 14) (u3 : al v_g_lawEnd 0 400) (u4 : rg v_p_pumpCell (-1) 11) : ok (f_X6_want v_g_cells v_g_villages v_g_rains v_g_room v_g_passWidth v_g_riverWidth v_g_lawEnd v_g_code v_g_rain v_n_day v_n_water v_n_salt v_n_seen v_n_took v_n_dryDays v_n_firstDry v_n_total v_p_pumpCell v_p_wanting v_p_passWidth v_p_riverWidth v_p_rain v_c_today v_c_stack v_d_day v_d_water v_d_salt v_d_seen v_d_took v_d_dryDays v_d_firstDry v_d_total q1) P_X6_want := by
  unfold f_X6_want
  refine ok_bd (s_X6_isVillage v_g_villages q1 u1) (fun o_1 p1 => ?_)
  have g2 : rg o_1 0 1 := p1.1
  refine ok_if (fun c4 => ?_) (fun c4 => ?_)
  · have w5 : rg o_1 0 0 := rg_lex (ti_eq c4) (rg_ley (ti_eq2 c4) (show rg (0 : Int32) 0 0 from ⟨by decide, by decide⟩) g2) (show rg (0 : Int32) 0 0 from ⟨by decide, by decide⟩)
    exact ok_some ⟨(rg_w (show rg (-1 : Int32) (-1) (-1) from ⟨by decide, by decide⟩) (by decide) (by decide)), u4, trivial⟩
  · obtain ⟨i6_0, i6_1⟩ := p1.2.1.resolve_left c4
    have w7 : rg q1 0 5 := rg_ltx 5 i6_1 i6_0 u1 (by decide)
    have w8 : rg v_g_villages 1 6 := rg_lty 1 i6_1 i6_0 u1 (by decide)
    have w9 : rg o_1 1 1 := rg_nel 1 c4 g2 (show rg (0 : Int32) 0 0 from ⟨by decide, by decide⟩) (by decide)
    refine ok_bd13 (s_X6_tryAsTold v_g_passWidth v_g_riverWidth v_g_rain v_n_day v_n_water v_n_salt v_n_seen v_n_took v_n_dryDays v_n_firstDry v_n_total v_p_pumpCell v_p_wanting v_p_passWidth v_p_riverWidth v_p_rain v_d_day v_d_water v_d_salt v_d_seen v_d_took v_d_dryDays v_d_firstDry v_d_total u4) (fun o_3_0 o_3_1 o_3_2 o_3_3 o_3_4 o_3_5 o_3_6 o_3_7 o_3_8 o_3_9 o_3_10 o_3_11 o_3_12 p10 => ?_)
    have g11 : rg o_3_0 (-1) 11 := p10.1
    refine ok_bd3 (s_X0_morning v_g_cells v_g_rains v_g_room o_3_4 o_3_5 v_c_today o_3_6 o_3_8 u0 u2) (fun o_4_0 o_4_1 o_4_2 p12 => ?_)
    refine ok_bd2 (s_X0_wantOf o_4_0 v_g_lawEnd v_g_code o_3_1 o_3_5 o_4_2 o_3_9 o_3_10 v_c_stack q1 u3 w7) (fun o_5_0 o_5_1 p13 => ?_)
    have g14 : rg o_5_0 0 2147483647 := p13.1
    exact ok_some ⟨(rg_w g14 (by decide) (by decide)), g11, trivial⟩

abbrev P_X6_count  : Int32 → Prop := (fun o : Int32 => True)
set_option maxRecDepth 100000 in
set_option maxHeartbeats 2000000 in
theorem s_X6_count (v_w_length : Int32) (v_w_held : (Nat → Int32)) (v_g_cells : Int32) (v_g_passes : Int32) (v_g_rivers : Int32) (v_g_villages : Int32) (v_g_rains : Int32) (v_n_day : Int32) (v_n_water : (Nat → Int32)) (v_e_told : Int32) (q1 : Int32) (u0 : rg v_w_length 0 2000) (u1 : rg v_g_cells 0 12) (u2 : rg v_g_passes 0 20) (u3 : rg v_g_rivers 0 3) (u4 : rg v_g_villages 0 6) (u5 : rg v_g_rains 0 14) (u6 : rg v_e_told 0 20) : ok (f_X6_count v_w_length v_w_held v_g_cells v_g_passes v_g_rivers v_g_villages v_g_rains v_n_day v_n_water v_e_told q1) P_X6_count := by
  unfold f_X6_count
  refine ok_if (fun c1 => ?_) (fun c1 => ?_)
  · have w2 : rg q1 0 0 := rg_lex (ti_eq c1) (rg_ley (ti_eq2 c1) (show rg (0 : Int32) 0 0 from ⟨by decide, by decide⟩) (rg_any q1)) (show rg (0 : Int32) 0 0 from ⟨by decide, by decide⟩)
    exact ok_some trivial
  · refine ok_if (fun c3 => ?_) (fun c3 => ?_)
    · have w4 : rg q1 1 1 := rg_lex (ti_eq c3) (rg_ley (ti_eq2 c3) (show rg (1 : Int32) 1 1 from ⟨by decide, by decide⟩) (rg_any q1)) (show rg (1 : Int32) 1 1 from ⟨by decide, by decide⟩)
      exact ok_some trivial
    · refine ok_if (fun c5 => ?_) (fun c5 => ?_)
      · have w6 : rg q1 2 2 := rg_lex (ti_eq c5) (rg_ley (ti_eq2 c5) (show rg (2 : Int32) 2 2 from ⟨by decide, by decide⟩) (rg_any q1)) (show rg (2 : Int32) 2 2 from ⟨by decide, by decide⟩)
        exact ok_some trivial
      · refine ok_if (fun c7 => ?_) (fun c7 => ?_)
        · have w8 : rg q1 3 3 := rg_lex (ti_eq c7) (rg_ley (ti_eq2 c7) (show rg (3 : Int32) 3 3 from ⟨by decide, by decide⟩) (rg_any q1)) (show rg (3 : Int32) 3 3 from ⟨by decide, by decide⟩)
          exact ok_some trivial
        · refine ok_if (fun c9 => ?_) (fun c9 => ?_)
          · have w10 : rg q1 4 4 := rg_lex (ti_eq c9) (rg_ley (ti_eq2 c9) (show rg (4 : Int32) 4 4 from ⟨by decide, by decide⟩) (rg_any q1)) (show rg (4 : Int32) 4 4 from ⟨by decide, by decide⟩)
            exact ok_some trivial
          · refine ok_if (fun c11 => ?_) (fun c11 => ?_)
            · have w12 : rg q1 5 5 := rg_lex (ti_eq c11) (rg_ley (ti_eq2 c11) (show rg (5 : Int32) 5 5 from ⟨by decide, by decide⟩) (rg_any q1)) (show rg (5 : Int32) 5 5 from ⟨by decide, by decide⟩)
              exact ok_some trivial
            · refine ok_if (fun c13 => ?_) (fun c13 => ?_)
              · have w14 : rg q1 6 6 := rg_lex (ti_eq c13) (rg_ley (ti_eq2 c13) (show rg (6 : Int32) 6 6 from ⟨by decide, by decide⟩) (rg_any q1)) (show rg (6 : Int32) 6 6 from ⟨by decide, by decide⟩)
                exact ok_some trivial
              · refine ok_if (fun c15 => ?_) (fun c15 => ?_)
                · have w16 : rg q1 7 7 := rg_lex (ti_eq c15) (rg_ley (ti_eq2 c15) (show rg (7 : Int32) 7 7 from ⟨by decide, by decide⟩) (rg_any q1)) (show rg (7 : Int32) 7 7 from ⟨by decide, by decide⟩)
                  exact ok_some trivial
                · refine ok_if (fun c17 => ?_) (fun c17 => ?_)
                  · have w18 : rg q1 8 8 := rg_lex (ti_eq c17) (rg_ley (ti_eq2 c17) (show rg (8 : Int32) 8 8 from ⟨by decide, by decide⟩) (rg_any q1)) (show rg (8 : Int32) 8 8 from ⟨by decide, by decide⟩)
                    refine ok_bd (s_X6_slotsHeld v_w_held) (fun o_10 p19 => ?_)
                    exact ok_some trivial
                  · refine ok_if (fun c20 => ?_) (fun c20 => ?_)
                    · have w21 : rg q1 9 9 := rg_lex (ti_eq c20) (rg_ley (ti_eq2 c20) (show rg (9 : Int32) 9 9 from ⟨by decide, by decide⟩) (rg_any q1)) (show rg (9 : Int32) 9 9 from ⟨by decide, by decide⟩)
                      refine ok_bd (s_X1_allWater v_n_water v_g_cells u1) (fun o_12 p22 => ?_)
                      exact ok_some trivial
                    · exact ok_some trivial

abbrev P_X6_run  : Int32 × Int32 × (Nat → Int32) × (Nat → Int32) × (Nat → Int32) × (Nat → Int32) × Int32 × Int32 × (Nat → Int32) × (Nat → Int32) × (Nat → Int32) × (Nat → Int64) × (Nat → Int32) × Int32 × (Nat → Int32) × (Nat → Int64) × (Nat → Int32) × (Nat → Int32) × (Nat → Int32) × (Nat → Int32) × (Nat → Int32) → Prop := (fun o : Int32 × Int32 × (Nat → Int32) × (Nat → Int32) × (Nat → Int32) × (Nat → Int32) × Int32 × Int32 × (Nat → Int32) × (Nat → Int32) × (Nat → Int32) × (Nat → Int64) × (Nat → Int32) × Int32 × (Nat → Int32) × (Nat → Int64) × (Nat → Int32) × (Nat → Int32) × (Nat → Int32) × (Nat → Int32) × (Nat → Int32) => rg o.2.1 (-1) 11 ∧ True)
set_option maxRecDepth 100000 in
set_option maxHeartbeats 2000000 in
theorem s_X6_run_b26  (v_g_cells : Int32) (v_g_passes : Int32) (v_g_rivers : Int32) (v_g_villages : Int32) (v_g_rains : Int32) (v_g_room : (Nat → Int32)) (v_g_passFrom : (Nat → Int32)) (v_g_passTo : (Nat → Int32)) (v_g_riverCell : (Nat → Int32)) (v_g_riverLevel : (Nat → Int32)) (v_g_riverSalt : (Nat → Int32)) (v_g_villageCell : (Nat → Int32)) (v_g_need : (Nat → Int32)) (v_g_lawEnd : (Nat → Int32)) (v_g_code : (Nat → Int32)) (v_p_pumpTakes : Int32) (v_p_pumpFrom : Int32) (v_p_pumpTo : Int32) (u0 : rg v_g_cells 0 12) (u1 : rg v_g_passes 0 20) (u2 : rg v_g_rivers 0 3) (u3 : rg v_g_villages 0 6) (u4 : rg v_g_rains 0 14) (u5 : ac v_g_passFrom v_g_passes 0 11) (u6 : ac v_g_passTo v_g_passes 0 11) (u7 : ac v_g_riverCell v_g_rivers 0 11) (u8 : ac v_g_villageCell v_g_villages 0 11) (u9 : al v_g_lawEnd 0 400) (u10 : rg v_p_pumpFrom 0 13) : ∀ (n : Nat) (v_p_pumpCell : Int32) (v_p_wanting : (Nat → Int32)) (v_p_passWidth : (Nat → Int32)) (v_p_riverWidth : (Nat → Int32)) (v_p_rain : (Nat → Int32)) (v_c_pumped : Int32) (v_c_today : Int32) (v_c_lacked : (Nat → Int32)) (v_c_level : (Nat → Int32)) (v_c_water : (Nat → Int32)) (v_c_salt : (Nat → Int64)) (v_c_stack : (Nat → Int32)) (v_n_day : Int32) (v_n_water : (Nat → Int32)) (v_n_salt : (Nat → Int64)) (v_n_seen : (Nat → Int32)) (v_n_took : (Nat → Int32)) (v_n_dryDays : (Nat → Int32)) (v_n_firstDry : (Nat → Int32)) (v_n_total : (Nat → Int32)) (x1 : Int32) (x2 : Int32) (u11 : rg v_p_pumpCell (-1) 11) (u12 : rg x1 0 400) (u13 : rg x2 0 400)  (hm : (400 - x2.toInt).toNat < n), ok (f_X6_run_b26 v_g_cells v_g_passes v_g_rivers v_g_villages v_g_rains v_g_room v_g_passFrom v_g_passTo v_g_riverCell v_g_riverLevel v_g_riverSalt v_g_villageCell v_g_need v_g_lawEnd v_g_code v_p_pumpTakes v_p_pumpFrom v_p_pumpTo n v_p_pumpCell v_p_wanting v_p_passWidth v_p_riverWidth v_p_rain v_c_pumped v_c_today v_c_lacked v_c_level v_c_water v_c_salt v_c_stack v_n_day v_n_water v_n_salt v_n_seen v_n_took v_n_dryDays v_n_firstDry v_n_total x1 x2) P_X6_run := by
  intro n
  induction n with
  | zero =>
    intro v_p_pumpCell v_p_wanting v_p_passWidth v_p_riverWidth v_p_rain v_c_pumped v_c_today v_c_lacked v_c_level v_c_water v_c_salt v_c_stack v_n_day v_n_water v_n_salt v_n_seen v_n_took v_n_dryDays v_n_firstDry v_n_total x1 x2 u11 u12 u13 hm
    exact absurd hm (Nat.not_lt_zero _)
  | succ n ih =>
    intro v_p_pumpCell v_p_wanting v_p_passWidth v_p_riverWidth v_p_rain v_c_pumped v_c_today v_c_lacked v_c_level v_c_water v_c_salt v_c_stack v_n_day v_n_water v_n_salt v_n_seen v_n_took v_n_dryDays v_n_firstDry v_n_total x1 x2 u11 u12 u13 hm
    show ok (f_X6_run_b26_st (f_X6_run_b26 v_g_cells v_g_passes v_g_rivers v_g_villages v_g_rains v_g_room v_g_passFrom v_g_passTo v_g_riverCell v_g_riverLevel v_g_riverSalt v_g_villageCell v_g_need v_g_lawEnd v_g_code v_p_pumpTakes v_p_pumpFrom v_p_pumpTo n) v_g_cells v_g_passes v_g_rivers v_g_villages v_g_rains v_g_room v_g_passFrom v_g_passTo v_g_riverCell v_g_riverLevel v_g_riverSalt v_g_villageCell v_g_need v_g_lawEnd v_g_code v_p_pumpTakes v_p_pumpFrom v_p_pumpTo v_p_pumpCell v_p_wanting v_p_passWidth v_p_riverWidth v_p_rain v_c_pumped v_c_today v_c_lacked v_c_level v_c_water v_c_salt v_c_stack v_n_day v_n_water v_n_salt v_n_seen v_n_took v_n_dryDays v_n_firstDry v_n_total x1 x2) P_X6_run
    unfold f_X6_run_b26_st
    refine ok_if (fun c1 => ?_) (fun c1 => ?_)
    · exact ok_some ⟨u11, trivial⟩
    · have w2 : rg x2 0 399 := rg_ltx 399 (ti_nle c1) u13 u12 (by decide)
      have w3 : rg x1 1 400 := rg_lty 1 (ti_nle c1) u13 u12 (by decide)
      refine ok_bd15 (s_X0_oneDay v_g_cells v_g_passes v_g_rivers v_g_villages v_g_rains v_g_room v_g_passFrom v_g_passTo v_g_riverCell v_g_riverLevel v_g_riverSalt v_g_villageCell v_g_need v_g_lawEnd v_g_code v_p_pumpCell v_p_pumpTakes v_p_pumpFrom v_p_pumpTo v_p_wanting v_p_passWidth v_p_riverWidth v_p_rain v_c_pumped v_c_today v_c_lacked v_c_level v_c_water v_c_salt v_c_stack v_n_day v_n_water v_n_salt v_n_seen v_n_took v_n_dryDays v_n_firstDry v_n_total u0 u1 u2 u3 u4 u5 u6 u7 u8 u9 u11 u10) (fun o_2_0 o_2_1 o_2_2 o_2_3 o_2_4 o_2_5 o_2_6 o_2_7 o_2_8 o_2_9 o_2_10 o_2_11 o_2_12 o_2_13 o_2_14 p4 => ?_)
      exact ih v_p_pumpCell v_p_wanting v_p_passWidth v_p_riverWidth v_p_rain o_2_0 o_2_1 o_2_2 o_2_3 o_2_4 o_2_5 o_2_6 o_2_7 o_2_8 o_2_9 o_2_10 o_2_11 o_2_12 o_2_13 o_2_14 x1 (x2 + (1 : Int32)) u11 (rg_w w3 (by decide) (by decide)) (rg_w (rg_add (e := 1) (f := 400) w2 (show rg (1 : Int32) 1 1 from ⟨by decide, by decide⟩) (by decide) (by decide) (by decide) (by decide)) (by decide) (by decide)) (ms_up (y := (x2 + (1 : Int32))) (a := 0) hm (lt_ad w2 (show rg (1 : Int32) 1 1 from ⟨by decide, by decide⟩) (by decide) (by decide) (by decide)) (rg_w (rg_add (e := 1) (f := 400) w2 (show rg (1 : Int32) 1 1 from ⟨by decide, by decide⟩) (by decide) (by decide) (by decide) (by decide)) (by decide) (by decide)))
set_option maxRecDepth 100000 in
set_option maxHeartbeats 2000000 in
theorem s_X6_run (v_g_cells : Int32) (v_g_passes : Int32) (v_g_rivers : Int32) (v_g_villages : Int32) (v_g_rains : Int32) (v_g_room : (Nat → Int32)) (v_g_passFrom : (Nat → Int32)) (v_g_passTo : (Nat → Int32)) (v_g_passWidth : (Nat → Int32)) (v_g_riverCell : (Nat → Int32)) (v_g_riverLevel : (Nat → Int32)) (v_g_riverWidth : (Nat → Int32)) (v_g_riverSalt : (Nat → Int32)) (v_g_villageCell : (Nat → Int32)) (v_g_need : (Nat → Int32)) (v_g_lawEnd : (Nat → Int32)) (v_g_code : (Nat → Int32)) (v_g_rain : (Nat → Int32)) (v_p_pumpTakes : Int32) (v_p_pumpFrom : Int32) (v_p_pumpTo : Int32) (v_p_pumpCell : Int32) (v_p_wanting : (Nat → Int32)) (v_p_passWidth : (Nat → Int32)) (v_p_riverWidth : (Nat → Int32)) (v_p_rain : (Nat → Int32)) (v_c_pumped : Int32) (v_c_today : Int32) (v_c_lacked : (Nat → Int32)) (v_c_level : (Nat → Int32)) (v_c_water : (Nat → Int32)) (v_c_salt : (Nat → Int64)) (v_c_stack : (Nat → Int32)) (v_n_day : Int32) (v_n_water : (Nat → Int32)) (v_n_salt : (Nat → Int64)) (v_n_seen : (Nat → Int32)) (v_n_took : (Nat → Int32)) (v_n_dryDays : (Nat → Int32)) (v_n_firstDry : (Nat → Int32)) (v_n_total : (Nat → Int32)) (q1 : Int32) (u0 : rg v_g_cells 0 12) (u1 : rg v_g_passes 0 20) (u2 : rg v_g_rivers 0 3) (u3 : rg v_g_villages 0 6) (u4 : rg v_g_rains 0 14) (u5 : ac v_g_passFrom v_g_passes 0 11) (u6 : ac v_g_passTo v_g_passes 0 11) (u7 : ac v_g_riverCell v_g_rivers 0 11) (u8 : ac v_g_villageCell v_g_villages 0 11) (u9 : al v_g_lawEnd 0 400) (u10 : rg v_p_pumpFrom 0 13) (u11 : rg v_p_pumpCell (-1) 11) : ok (f_X6_run v_g_cells v_g_passes v_g_rivers v_g_villages v_g_rains v_g_room v_g_passFrom v_g_passTo v_g_passWidth v_g_riverCell v_g_riverLevel v_g_riverWidth v_g_riverSalt v_g_villageCell v_g_need v_g_lawEnd v_g_code v_g_rain v_p_pumpTakes v_p_pumpFrom v_p_pumpTo v_p_pumpCell v_p_wanting v_p_passWidth v_p_riverWidth v_p_rain v_c_pumped v_c_today v_c_lacked v_c_level v_c_water v_c_salt v_c_stack v_n_day v_n_water v_n_salt v_n_seen v_n_took v_n_dryDays v_n_firstDry v_n_total q1) P_X6_run := by
  unfold f_X6_run
  refine ok_if (fun c1 => ?_) (fun c1 => ?_)
  · have w2 : rg q1 (-2147483648) (-1) := rg_ltx (-1) (ti_lt c1) (rg_any q1) (show rg (0 : Int32) 0 0 from ⟨by decide, by decide⟩) (by decide)
    exact ok_some ⟨u11, trivial⟩
  · have w3 : rg q1 0 2147483647 := rg_ley (ti_nlt c1) (show rg (0 : Int32) 0 0 from ⟨by decide, by decide⟩) (rg_any q1)
    refine ok_if (fun c4 => ?_) (fun c4 => ?_)
    · have w5 : rg q1 0 400 := rg_lex (ti_le c4) w3 (show rg (400 : Int32) 400 400 from ⟨by decide, by decide⟩)
      refine ok_bd5 (s_X4_setAsTold v_g_passWidth v_g_riverWidth v_g_rain v_p_pumpCell v_p_wanting v_p_passWidth v_p_riverWidth v_p_rain u11) (fun o_3_0 o_3_1 o_3_2 o_3_3 o_3_4 p6 => ?_)
      have g7 : rg o_3_0 (-1) 11 := p6.1
      exact s_X6_run_b26 v_g_cells v_g_passes v_g_rivers v_g_villages v_g_rains v_g_room v_g_passFrom v_g_passTo v_g_riverCell v_g_riverLevel v_g_riverSalt v_g_villageCell v_g_need v_g_lawEnd v_g_code v_p_pumpTakes v_p_pumpFrom v_p_pumpTo u0 u1 u2 u3 u4 u5 u6 u7 u8 u9 u10 _ o_3_0 o_3_1 o_3_2 o_3_3 o_3_4 v_c_pumped v_c_today v_c_lacked v_c_level v_c_water v_c_salt v_c_stack v_n_day v_n_water v_n_salt v_n_seen v_n_took v_n_dryDays v_n_firstDry v_n_total q1 (0 : Int32) g7 w5 (rg_w (show rg (0 : Int32) 0 0 from ⟨by decide, by decide⟩) (by decide) (by decide)) (fu_up (a := 0) (h := 400) (rg_w (show rg (0 : Int32) 0 0 from ⟨by decide, by decide⟩) (by decide) (by decide)) (by decide))
    · have w8 : rg q1 401 2147483647 := rg_lty 401 (ti_nle c4) (show rg (400 : Int32) 400 400 from ⟨by decide, by decide⟩) w3 (by decide)
      exact ok_some ⟨u11, trivial⟩
