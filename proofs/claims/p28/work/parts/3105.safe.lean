abbrev P_X2_clear (z_v_e_pumps : (Nat → Int32)) : Int32 × (Nat → Int32) → Prop := (fun o : Int32 × (Nat → Int32) => rg o.1 0 20 ∧ pk z_v_e_pumps o.2 ∧ True)
set_option maxRecDepth 100000 in
set_option maxHeartbeats 2000000 in
theorem s_X2_clear (v_e_told : Int32) (v_e_pumps : (Nat → Int32)) (u0 : rg v_e_told 0 20) : ok (f_X2_clear v_e_told v_e_pumps) (P_X2_clear v_e_pumps) := by
  unfold f_X2_clear
  refine ok_bd (s_J7_fill_53178_84 v_e_pumps (-4 : Int32) (show rg (-4 : Int32) (-4) (-4) from ⟨by decide, by decide⟩)) (fun o_1 p1 => ?_)
  have g2 : an o_1 84 (-4) (-4) := p1.1
  exact ok_some ⟨(rg_w (show rg (0 : Int32) 0 0 from ⟨by decide, by decide⟩) (by decide) (by decide)), (fun _ => g2), trivial⟩

abbrev P_X2_add  : Int32 × Int32 × (Nat → Int32) × (Nat → Int32) × (Nat → Int32) → Prop := (fun o : Int32 × Int32 × (Nat → Int32) × (Nat → Int32) × (Nat → Int32) => rg o.1 (-1) 19 ∧ rg o.2.1 0 20 ∧ al o.2.2.1 0 199 ∧ al o.2.2.2.1 0 11 ∧ True)
set_option maxRecDepth 100000 in
set_option maxHeartbeats 2000000 in
theorem s_X2_add (v_e_told : Int32) (v_e_toldDay : (Nat → Int32)) (v_e_toldCell : (Nat → Int32)) (v_e_toldLevel : (Nat → Int32)) (q1 : Int32) (q2 : Int32) (q3 : Int32) (u0 : rg v_e_told 0 20) (u1 : al v_e_toldDay 0 199) (u2 : al v_e_toldCell 0 11) (u3 : rg q1 0 199) (u4 : rg q2 0 11) : ok (f_X2_add v_e_told v_e_toldDay v_e_toldCell v_e_toldLevel q1 q2 q3) P_X2_add := by
  unfold f_X2_add
  refine ok_if (fun c1 => ?_) (fun c1 => ?_)
  · have w2 : rg v_e_told 0 19 := rg_ltx 19 (ti_lt c1) u0 (show rg (20 : Int32) 20 20 from ⟨by decide, by decide⟩) (by decide)
    refine ok_ck (inb_rg w2 (by decide) (by decide)) ?_
    refine ok_nm (fun a_3 ea_3 => ?_)
    refine ok_ck (inb_rg w2 (by decide) (by decide)) ?_
    refine ok_nm (fun a_5 ea_5 => ?_)
    refine ok_ck (inb_rg w2 (by decide) (by decide)) ?_
    refine ok_nm (fun a_7 ea_7 => ?_)
    exact ok_some ⟨(rg_w (rg_sub (e := 0) (f := 19) (rg_add (e := 1) (f := 20) w2 (show rg (1 : Int32) 1 1 from ⟨by decide, by decide⟩) (by decide) (by decide) (by decide) (by decide)) (show rg (1 : Int32) 1 1 from ⟨by decide, by decide⟩) (by decide) (by decide) (by decide) (by decide)) (by decide) (by decide)), (rg_w (rg_add (e := 1) (f := 20) w2 (show rg (1 : Int32) 1 1 from ⟨by decide, by decide⟩) (by decide) (by decide) (by decide) (by decide)) (by decide) (by decide)), (al_upd (c := 0) (d := 199) ea_3 u1 u3), (al_upd (c := 0) (d := 11) ea_5 u2 u4), trivial⟩
  · have w3 : rg v_e_told 20 20 := rg_ley (ti_nlt c1) (show rg (20 : Int32) 20 20 from ⟨by decide, by decide⟩) u0
    exact ok_some ⟨(rg_w (show rg (-1 : Int32) (-1) (-1) from ⟨by decide, by decide⟩) (by decide) (by decide)), (rg_w w3 (by decide) (by decide)), u1, u2, trivial⟩

abbrev P_X2_lastDay  : Int32 → Prop := (fun o : Int32 => rg o 0 199 ∧ True)
set_option maxRecDepth 100000 in
set_option maxHeartbeats 2000000 in
theorem s_X2_lastDay_b4  (v_e_toldDay : (Nat → Int32)) (u0 : al v_e_toldDay 0 199) : ∀ (n : Nat) (x1 : Int32) (x2 : Int32) (x3 : Int32) (u1 : rg x2 0 199) (u2 : rg x3 0 20)  (hm : (20 - x3.toInt).toNat < n), ok (f_X2_lastDay_b4 v_e_toldDay n x1 x2 x3) P_X2_lastDay := by
  intro n
  induction n with
  | zero =>
    intro x1 x2 x3 u1 u2 hm
    exact absurd hm (Nat.not_lt_zero _)
  | succ n ih =>
    intro x1 x2 x3 u1 u2 hm
    show ok (f_X2_lastDay_b4_st (f_X2_lastDay_b4 v_e_toldDay n) v_e_toldDay x1 x2 x3) P_X2_lastDay
    unfold f_X2_lastDay_b4_st
    refine ok_if (fun c1 => ?_) (fun c1 => ?_)
    · have w2 : rg x1 (-2147483648) 20 := rg_lex (ti_le c1) (rg_any x1) u2
      exact ok_some ⟨u1, trivial⟩
    · have w3 : rg x1 1 2147483647 := rg_lty 1 (ti_nle c1) u2 (rg_any x1) (by decide)
      refine ok_if (fun c4 => ?_) (fun c4 => ?_)
      · have w5 : rg x3 20 20 := rg_ley (ti_le c4) (show rg (20 : Int32) 20 20 from ⟨by decide, by decide⟩) u2
        exact ok_some ⟨u1, trivial⟩
      · have w6 : rg x3 0 19 := rg_ltx 19 (ti_nle c4) u2 (show rg (20 : Int32) 20 20 from ⟨by decide, by decide⟩) (by decide)
        refine ok_ck (inb_rg w6 (by decide) (by decide)) ?_
        refine ok_nm (fun e_4 ee_4 => ?_)
        exact ih x1 e_4 (x3 + (1 : Int32)) (rg_nm ee_4 (rg_max (e := 0) (f := 199) u1 (u0 _) (by decide) (by decide) (by decide))) (rg_w (rg_add (e := 1) (f := 20) w6 (show rg (1 : Int32) 1 1 from ⟨by decide, by decide⟩) (by decide) (by decide) (by decide) (by decide)) (by decide) (by decide)) (ms_up (y := (x3 + (1 : Int32))) (a := 0) hm (lt_ad w6 (show rg (1 : Int32) 1 1 from ⟨by decide, by decide⟩) (by decide) (by decide) (by decide)) (rg_w (rg_add (e := 1) (f := 20) w6 (show rg (1 : Int32) 1 1 from ⟨by decide, by decide⟩) (by decide) (by decide) (by decide) (by decide)) (by decide) (by decide)))
set_option maxRecDepth 100000 in
set_option maxHeartbeats 2000000 in
theorem s_X2_lastDay (v_e_toldDay : (Nat → Int32)) (q1 : Int32) (u0 : al v_e_toldDay 0 199) : ok (f_X2_lastDay v_e_toldDay q1) P_X2_lastDay := by
  unfold f_X2_lastDay
  exact s_X2_lastDay_b4 v_e_toldDay u0 _ q1 (0 : Int32) (0 : Int32) (rg_w (show rg (0 : Int32) 0 0 from ⟨by decide, by decide⟩) (by decide) (by decide)) (rg_w (show rg (0 : Int32) 0 0 from ⟨by decide, by decide⟩) (by decide) (by decide)) (fu_up (a := 0) (h := 20) (rg_w (show rg (0 : Int32) 0 0 from ⟨by decide, by decide⟩) (by decide) (by decide)) (by decide))

abbrev P_X2_offToday  : Int32 → Prop := (fun o : Int32 => rg o (-2) 19 ∧ True)
set_option maxRecDepth 100000 in
set_option maxHeartbeats 2000000 in
theorem s_X2_offToday_b2  (v_e_toldDay : (Nat → Int32)) (v_e_toldCell : (Nat → Int32)) (v_e_toldLevel : (Nat → Int32)) (v_g_room : (Nat → Int32)) (v_d_day : Int32) (v_d_water : (Nat → Int32)) (u0 : al v_e_toldDay 0 199) (u1 : al v_e_toldCell 0 11) : ∀ (n : Nat) (x1 : Int32) (x2 : Int32) (u2 : rg x2 0 20)  (hm : (20 - x2.toInt).toNat < n), ok (f_X2_offToday_b2 v_e_toldDay v_e_toldCell v_e_toldLevel v_g_room v_d_day v_d_water n x1 x2) P_X2_offToday := by
  intro n
  induction n with
  | zero =>
    intro x1 x2 u2 hm
    exact absurd hm (Nat.not_lt_zero _)
  | succ n ih =>
    intro x1 x2 u2 hm
    show ok (f_X2_offToday_b2_st (f_X2_offToday_b2 v_e_toldDay v_e_toldCell v_e_toldLevel v_g_room v_d_day v_d_water n) v_e_toldDay v_e_toldCell v_e_toldLevel v_g_room v_d_day v_d_water x1 x2) P_X2_offToday
    unfold f_X2_offToday_b2_st
    refine ok_if (fun c1 => ?_) (fun c1 => ?_)
    · have w2 : rg x1 (-2147483648) 20 := rg_lex (ti_le c1) (rg_any x1) u2
      exact ok_some ⟨(rg_w (show rg (-2 : Int32) (-2) (-2) from ⟨by decide, by decide⟩) (by decide) (by decide)), trivial⟩
    · have w3 : rg x1 1 2147483647 := rg_lty 1 (ti_nle c1) u2 (rg_any x1) (by decide)
      refine ok_if (fun c4 => ?_) (fun c4 => ?_)
      · have w5 : rg x2 20 20 := rg_ley (ti_le c4) (show rg (20 : Int32) 20 20 from ⟨by decide, by decide⟩) u2
        exact ok_some ⟨(rg_w (show rg (-2 : Int32) (-2) (-2) from ⟨by decide, by decide⟩) (by decide) (by decide)), trivial⟩
      · have w6 : rg x2 0 19 := rg_ltx 19 (ti_nle c4) u2 (show rg (20 : Int32) 20 20 from ⟨by decide, by decide⟩) (by decide)
        refine ok_ck (inb_rg w6 (by decide) (by decide)) ?_
        refine ok_ck (inb_rg w6 (by decide) (by decide)) ?_
        refine ok_if (fun c7 => ?_) (fun c7 => ?_)
        · have w8 : rg v_d_day 0 199 := rg_lex (ti_eq2 c7) (rg_ley (ti_eq c7) (u0 _) (rg_any v_d_day)) (u0 _)
          refine ok_ck (inb_rg (u1 _) (by decide) (by decide)) ?_
          refine ok_bd (s_X3_levelOf v_g_room (v_e_toldCell x2.toNatClampNeg) (v_d_water (v_e_toldCell x2.toNatClampNeg).toNatClampNeg) (u1 _)) (fun o_7 p9 => ?_)
          refine ok_ck (inb_rg w6 (by decide) (by decide)) ?_
          refine ok_if (fun c10 => ?_) (fun c10 => ?_)
          · exact ih x1 (x2 + (1 : Int32)) (rg_w (rg_add (e := 1) (f := 20) w6 (show rg (1 : Int32) 1 1 from ⟨by decide, by decide⟩) (by decide) (by decide) (by decide) (by decide)) (by decide) (by decide)) (ms_up (y := (x2 + (1 : Int32))) (a := 0) hm (lt_ad w6 (show rg (1 : Int32) 1 1 from ⟨by decide, by decide⟩) (by decide) (by decide) (by decide)) (rg_w (rg_add (e := 1) (f := 20) w6 (show rg (1 : Int32) 1 1 from ⟨by decide, by decide⟩) (by decide) (by decide) (by decide) (by decide)) (by decide) (by decide)))
          · exact ok_some ⟨(rg_w w6 (by decide) (by decide)), trivial⟩
        · exact ih x1 (x2 + (1 : Int32)) (rg_w (rg_add (e := 1) (f := 20) w6 (show rg (1 : Int32) 1 1 from ⟨by decide, by decide⟩) (by decide) (by decide) (by decide) (by decide)) (by decide) (by decide)) (ms_up (y := (x2 + (1 : Int32))) (a := 0) hm (lt_ad w6 (show rg (1 : Int32) 1 1 from ⟨by decide, by decide⟩) (by decide) (by decide) (by decide)) (rg_w (rg_add (e := 1) (f := 20) w6 (show rg (1 : Int32) 1 1 from ⟨by decide, by decide⟩) (by decide) (by decide) (by decide) (by decide)) (by decide) (by decide)))
set_option maxRecDepth 100000 in
set_option maxHeartbeats 2000000 in
theorem s_X2_offToday (v_e_toldDay : (Nat → Int32)) (v_e_toldCell : (Nat → Int32)) (v_e_toldLevel : (Nat → Int32)) (v_g_room : (Nat → Int32)) (v_d_day : Int32) (v_d_water : (Nat → Int32)) (q1 : Int32) (u0 : al v_e_toldDay 0 199) (u1 : al v_e_toldCell 0 11) : ok (f_X2_offToday v_e_toldDay v_e_toldCell v_e_toldLevel v_g_room v_d_day v_d_water q1) P_X2_offToday := by
  unfold f_X2_offToday
  exact s_X2_offToday_b2 v_e_toldDay v_e_toldCell v_e_toldLevel v_g_room v_d_day v_d_water u0 u1 _ q1 (0 : Int32) (rg_w (show rg (0 : Int32) 0 0 from ⟨by decide, by decide⟩) (by decide) (by decide)) (fu_up (a := 0) (h := 20) (rg_w (show rg (0 : Int32) 0 0 from ⟨by decide, by decide⟩) (by decide) (by decide)) (by decide))

abbrev P_X2_firstOff  : Int32 × Int32 × (Nat → Int32) × (Nat → Int32) × (Nat → Int32) × (Nat → Int32) × Int32 × Int32 × (Nat → Int32) × (Nat → Int32) × (Nat → Int32) × (Nat → Int64) × (Nat → Int32) × Int32 × (Nat → Int32) × (Nat → Int64) × (Nat → Int32) × (Nat → Int32) × (Nat → Int32) × (Nat → Int32) × (Nat → Int32) → Prop := (fun o : Int32 × Int32 × (Nat → Int32) × (Nat → Int32) × (Nat → Int32) × (Nat → Int32) × Int32 × Int32 × (Nat → Int32) × (Nat → Int32) × (Nat → Int32) × (Nat → Int64) × (Nat → Int32) × Int32 × (Nat → Int32) × (Nat → Int64) × (Nat → Int32) × (Nat → Int32) × (Nat → Int32) × (Nat → Int32) × (Nat → Int32) => rg o.1 (-2) 19 ∧ rg o.2.1 (-1) 11 ∧ True)
set_option maxRecDepth 100000 in
set_option maxHeartbeats 2000000 in
theorem s_X2_firstOff_b69 (k34 : Int32 → (Nat → Int32) → (Nat → Int32) → (Nat → Int32) → (Nat → Int32) → Int32 → Int32 → (Nat → Int32) → (Nat → Int32) → (Nat → Int32) → (Nat → Int64) → (Nat → Int32) → Int32 → (Nat → Int32) → (Nat → Int64) → (Nat → Int32) → (Nat → Int32) → (Nat → Int32) → (Nat → Int32) → (Nat → Int32) → Int32 → Int32 → Int32 → Int32 → Option (Int32 × Int32 × (Nat → Int32) × (Nat → Int32) × (Nat → Int32) × (Nat → Int32) × Int32 × Int32 × (Nat → Int32) × (Nat → Int32) × (Nat → Int32) × (Nat → Int64) × (Nat → Int32) × Int32 × (Nat → Int32) × (Nat → Int64) × (Nat → Int32) × (Nat → Int32) × (Nat → Int32) × (Nat → Int32) × (Nat → Int32))) (v_e_toldDay : (Nat → Int32)) (v_e_toldCell : (Nat → Int32)) (v_e_toldLevel : (Nat → Int32)) (v_g_cells : Int32) (v_g_passes : Int32) (v_g_rivers : Int32) (v_g_villages : Int32) (v_g_rains : Int32) (v_g_room : (Nat → Int32)) (v_g_passFrom : (Nat → Int32)) (v_g_passTo : (Nat → Int32)) (v_g_riverCell : (Nat → Int32)) (v_g_riverLevel : (Nat → Int32)) (v_g_riverSalt : (Nat → Int32)) (v_g_villageCell : (Nat → Int32)) (v_g_need : (Nat → Int32)) (v_g_lawEnd : (Nat → Int32)) (v_g_code : (Nat → Int32)) (v_p_pumpTakes : Int32) (v_p_pumpFrom : Int32) (v_p_pumpTo : Int32) (v_p_pumpCell : Int32) (v_p_wanting : (Nat → Int32)) (v_p_passWidth : (Nat → Int32)) (v_p_riverWidth : (Nat → Int32)) (v_p_rain : (Nat → Int32)) (v_c_pumped : Int32) (v_c_today : Int32) (v_c_lacked : (Nat → Int32)) (v_c_level : (Nat → Int32)) (v_c_water : (Nat → Int32)) (v_c_salt : (Nat → Int64)) (v_c_stack : (Nat → Int32)) (v_d_day : Int32) (v_d_water : (Nat → Int32)) (v_d_salt : (Nat → Int64)) (v_d_seen : (Nat → Int32)) (v_d_took : (Nat → Int32)) (v_d_dryDays : (Nat → Int32)) (v_d_firstDry : (Nat → Int32)) (v_d_total : (Nat → Int32)) (x1 : Int32) (x2 : Int32) (x3 : Int32) (x4 : Int32) (u0 : al v_e_toldDay 0 199) (u1 : al v_e_toldCell 0 11) (u2 : rg v_g_cells 0 12) (u3 : rg v_g_passes 0 20) (u4 : rg v_g_rivers 0 3) (u5 : rg v_g_villages 0 6) (u6 : rg v_g_rains 0 14) (u7 : ac v_g_passFrom v_g_passes 0 11) (u8 : ac v_g_passTo v_g_passes 0 11) (u9 : ac v_g_riverCell v_g_rivers 0 11) (u10 : ac v_g_villageCell v_g_villages 0 11) (u11 : al v_g_lawEnd 0 400) (u12 : rg v_p_pumpFrom 0 13) (u13 : rg v_p_pumpCell (-1) 11) (u14 : rg x2 (-2) 19) (u15 : rg x3 0 199) (u16 : rg x4 0 199) (u17 : x4.toInt ≤ x3.toInt) (hk34 : ∀ (v_p_pumpCell' : Int32) (v_p_wanting' : (Nat → Int32)) (v_p_passWidth' : (Nat → Int32)) (v_p_riverWidth' : (Nat → Int32)) (v_p_rain' : (Nat → Int32)) (v_c_pumped' : Int32) (v_c_today' : Int32) (v_c_lacked' : (Nat → Int32)) (v_c_level' : (Nat → Int32)) (v_c_water' : (Nat → Int32)) (v_c_salt' : (Nat → Int64)) (v_c_stack' : (Nat → Int32)) (v_d_day' : Int32) (v_d_water' : (Nat → Int32)) (v_d_salt' : (Nat → Int64)) (v_d_seen' : (Nat → Int32)) (v_d_took' : (Nat → Int32)) (v_d_dryDays' : (Nat → Int32)) (v_d_firstDry' : (Nat → Int32)) (v_d_total' : (Nat → Int32)) (x1' : Int32) (x2' : Int32) (x3' : Int32) (x4' : Int32), rg v_p_pumpCell' (-1) 11 → rg x2' (-2) 19 → rg x3' 0 199 → rg x4' 0 200 → x4.toInt < x4'.toInt → ok (k34 v_p_pumpCell' v_p_wanting' v_p_passWidth' v_p_riverWidth' v_p_rain' v_c_pumped' v_c_today' v_c_lacked' v_c_level' v_c_water' v_c_salt' v_c_stack' v_d_day' v_d_water' v_d_salt' v_d_seen' v_d_took' v_d_dryDays' v_d_firstDry' v_d_total' x1' x2' x3' x4') P_X2_firstOff) : ok (f_X2_firstOff_b69 k34 v_e_toldDay v_e_toldCell v_e_toldLevel v_g_cells v_g_passes v_g_rivers v_g_villages v_g_rains v_g_room v_g_passFrom v_g_passTo v_g_riverCell v_g_riverLevel v_g_riverSalt v_g_villageCell v_g_need v_g_lawEnd v_g_code v_p_pumpTakes v_p_pumpFrom v_p_pumpTo v_p_pumpCell v_p_wanting v_p_passWidth v_p_riverWidth v_p_rain v_c_pumped v_c_today v_c_lacked v_c_level v_c_water v_c_salt v_c_stack v_d_day v_d_water v_d_salt v_d_seen v_d_took v_d_dryDays v_d_firstDry v_d_total x1 x2 x3 x4) P_X2_firstOff := by
  unfold f_X2_firstOff_b69
  refine ok_bd15 (s_X0_oneDay v_g_cells v_g_passes v_g_rivers v_g_villages v_g_rains v_g_room v_g_passFrom v_g_passTo v_g_riverCell v_g_riverLevel v_g_riverSalt v_g_villageCell v_g_need v_g_lawEnd v_g_code v_p_pumpCell v_p_pumpTakes v_p_pumpFrom v_p_pumpTo v_p_wanting v_p_passWidth v_p_riverWidth v_p_rain v_c_pumped v_c_today v_c_lacked v_c_level v_c_water v_c_salt v_c_stack v_d_day v_d_water v_d_salt v_d_seen v_d_took v_d_dryDays v_d_firstDry v_d_total u2 u3 u4 u5 u6 u7 u8 u9 u10 u11 u13 u12) (fun o_1_0 o_1_1 o_1_2 o_1_3 o_1_4 o_1_5 o_1_6 o_1_7 o_1_8 o_1_9 o_1_10 o_1_11 o_1_12 o_1_13 o_1_14 p1 => ?_)
  exact hk34 v_p_pumpCell v_p_wanting v_p_passWidth v_p_riverWidth v_p_rain o_1_0 o_1_1 o_1_2 o_1_3 o_1_4 o_1_5 o_1_6 o_1_7 o_1_8 o_1_9 o_1_10 o_1_11 o_1_12 o_1_13 o_1_14 x1 x2 x3 (x4 + (1 : Int32)) u13 u14 u15 (rg_w (rg_add (e := 1) (f := 200) u16 (show rg (1 : Int32) 1 1 from ⟨by decide, by decide⟩) (by decide) (by decide) (by decide) (by decide)) (by decide) (by decide)) (lt_ad u16 (show rg (1 : Int32) 1 1 from ⟨by decide, by decide⟩) (by decide) (by decide) (by decide))
set_option maxRecDepth 100000 in
set_option maxHeartbeats 2000000 in
theorem s_X2_firstOff_b34  (v_e_toldDay : (Nat → Int32)) (v_e_toldCell : (Nat → Int32)) (v_e_toldLevel : (Nat → Int32)) (v_g_cells : Int32) (v_g_passes : Int32) (v_g_rivers : Int32) (v_g_villages : Int32) (v_g_rains : Int32) (v_g_room : (Nat → Int32)) (v_g_passFrom : (Nat → Int32)) (v_g_passTo : (Nat → Int32)) (v_g_riverCell : (Nat → Int32)) (v_g_riverLevel : (Nat → Int32)) (v_g_riverSalt : (Nat → Int32)) (v_g_villageCell : (Nat → Int32)) (v_g_need : (Nat → Int32)) (v_g_lawEnd : (Nat → Int32)) (v_g_code : (Nat → Int32)) (v_p_pumpTakes : Int32) (v_p_pumpFrom : Int32) (v_p_pumpTo : Int32) (u0 : al v_e_toldDay 0 199) (u1 : al v_e_toldCell 0 11) (u2 : rg v_g_cells 0 12) (u3 : rg v_g_passes 0 20) (u4 : rg v_g_rivers 0 3) (u5 : rg v_g_villages 0 6) (u6 : rg v_g_rains 0 14) (u7 : ac v_g_passFrom v_g_passes 0 11) (u8 : ac v_g_passTo v_g_passes 0 11) (u9 : ac v_g_riverCell v_g_rivers 0 11) (u10 : ac v_g_villageCell v_g_villages 0 11) (u11 : al v_g_lawEnd 0 400) (u12 : rg v_p_pumpFrom 0 13) : ∀ (n : Nat) (v_p_pumpCell : Int32) (v_p_wanting : (Nat → Int32)) (v_p_passWidth : (Nat → Int32)) (v_p_riverWidth : (Nat → Int32)) (v_p_rain : (Nat → Int32)) (v_c_pumped : Int32) (v_c_today : Int32) (v_c_lacked : (Nat → Int32)) (v_c_level : (Nat → Int32)) (v_c_water : (Nat → Int32)) (v_c_salt : (Nat → Int64)) (v_c_stack : (Nat → Int32)) (v_d_day : Int32) (v_d_water : (Nat → Int32)) (v_d_salt : (Nat → Int64)) (v_d_seen : (Nat → Int32)) (v_d_took : (Nat → Int32)) (v_d_dryDays : (Nat → Int32)) (v_d_firstDry : (Nat → Int32)) (v_d_total : (Nat → Int32)) (x1 : Int32) (x2 : Int32) (x3 : Int32) (x4 : Int32) (u13 : rg v_p_pumpCell (-1) 11) (u14 : rg x2 (-2) 19) (u15 : rg x3 0 199) (u16 : rg x4 0 200)  (hm : (200 - x4.toInt).toNat < n), ok (f_X2_firstOff_b34 v_e_toldDay v_e_toldCell v_e_toldLevel v_g_cells v_g_passes v_g_rivers v_g_villages v_g_rains v_g_room v_g_passFrom v_g_passTo v_g_riverCell v_g_riverLevel v_g_riverSalt v_g_villageCell v_g_need v_g_lawEnd v_g_code v_p_pumpTakes v_p_pumpFrom v_p_pumpTo n v_p_pumpCell v_p_wanting v_p_passWidth v_p_riverWidth v_p_rain v_c_pumped v_c_today v_c_lacked v_c_level v_c_water v_c_salt v_c_stack v_d_day v_d_water v_d_salt v_d_seen v_d_took v_d_dryDays v_d_firstDry v_d_total x1 x2 x3 x4) P_X2_firstOff := by
  intro n
  induction n with
  | zero =>
    intro v_p_pumpCell v_p_wanting v_p_passWidth v_p_riverWidth v_p_rain v_c_pumped v_c_today v_c_lacked v_c_level v_c_water v_c_salt v_c_stack v_d_day v_d_water v_d_salt v_d_seen v_d_took v_d_dryDays v_d_firstDry v_d_total x1 x2 x3 x4 u13 u14 u15 u16 hm
    exact absurd hm (Nat.not_lt_zero _)
  | succ n ih =>
    intro v_p_pumpCell v_p_wanting v_p_passWidth v_p_riverWidth v_p_rain v_c_pumped v_c_today v_c_lacked v_c_level v_c_water v_c_salt v_c_stack v_d_day v_d_water v_d_salt v_d_seen v_d_took v_d_dryDays v_d_firstDry v_d_total x1 x2 x3 x4 u13 u14 u15 u16 hm
    show ok (f_X2_firstOff_b34_st (f_X2_firstOff_b34 v_e_toldDay v_e_toldCell v_e_toldLevel v_g_cells v_g_passes v_g_rivers v_g_villages v_g_rains v_g_room v_g_passFrom v_g_passTo v_g_riverCell v_g_riverLevel v_g_riverSalt v_g_villageCell v_g_need v_g_lawEnd v_g_code v_p_pumpTakes v_p_pumpFrom v_p_pumpTo n) v_e_toldDay v_e_toldCell v_e_toldLevel v_g_cells v_g_passes v_g_rivers v_g_villages v_g_rains v_g_room v_g_passFrom v_g_passTo v_g_riverCell v_g_riverLevel v_g_riverSalt v_g_villageCell v_g_need v_g_lawEnd v_g_code v_p_pumpTakes v_p_pumpFrom v_p_pumpTo v_p_pumpCell v_p_wanting v_p_passWidth v_p_riverWidth v_p_rain v_c_pumped v_c_today v_c_lacked v_c_level v_c_water v_c_salt v_c_stack v_d_day v_d_water v_d_salt v_d_seen v_d_took v_d_dryDays v_d_firstDry v_d_total x1 x2 x3 x4) P_X2_firstOff
    unfold f_X2_firstOff_b34_st
    refine ok_if (fun c1 => ?_) (fun c1 => ?_)
    · have w2 : rg x4 1 200 := rg_lty 1 (ti_lt c1) u15 u16 (by decide)
      exact ok_some ⟨u14, u13, trivial⟩
    · have w3 : rg x4 0 199 := rg_lex (ti_nlt c1) u16 u15
      refine ok_bd (s_X2_offToday v_e_toldDay v_e_toldCell v_e_toldLevel v_g_room v_d_day v_d_water x1 u0 u1) (fun o_2 p4 => ?_)
      have g5 : rg o_2 (-2) 19 := p4.1
      refine ok_if (fun c6 => ?_) (fun c6 => ?_)
      · have w7 : rg o_2 (-2) (-2) := rg_lex (ti_eq c6) (rg_ley (ti_eq2 c6) (show rg (-2 : Int32) (-2) (-2) from ⟨by decide, by decide⟩) g5) (show rg (-2 : Int32) (-2) (-2) from ⟨by decide, by decide⟩)
        exact s_X2_firstOff_b69 _ v_e_toldDay v_e_toldCell v_e_toldLevel v_g_cells v_g_passes v_g_rivers v_g_villages v_g_rains v_g_room v_g_passFrom v_g_passTo v_g_riverCell v_g_riverLevel v_g_riverSalt v_g_villageCell v_g_need v_g_lawEnd v_g_code v_p_pumpTakes v_p_pumpFrom v_p_pumpTo v_p_pumpCell v_p_wanting v_p_passWidth v_p_riverWidth v_p_rain v_c_pumped v_c_today v_c_lacked v_c_level v_c_water v_c_salt v_c_stack v_d_day v_d_water v_d_salt v_d_seen v_d_took v_d_dryDays v_d_firstDry v_d_total x1 x2 x3 x4 u0 u1 u2 u3 u4 u5 u6 u7 u8 u9 u10 u11 u12 u13 u14 u15 w3 (ti_nlt c1) (by intro v_p_pumpCell' v_p_wanting' v_p_passWidth' v_p_riverWidth' v_p_rain' v_c_pumped' v_c_today' v_c_lacked' v_c_level' v_c_water' v_c_salt' v_c_stack' v_d_day' v_d_water' v_d_salt' v_d_seen' v_d_took' v_d_dryDays' v_d_firstDry' v_d_total' x1' x2' x3' x4' f0 f1 f2 f3 lt; exact ih _ _ _ _ _ _ _ _ _ _ _ _ _ _ _ _ _ _ _ _ _ _ _ _ f0 f1 f2 f3 (ms_up hm lt f3))
      · have w8 : rg o_2 (-1) 19 := rg_nel (-1) c6 g5 (show rg (-2 : Int32) (-2) (-2) from ⟨by decide, by decide⟩) (by decide)
        refine ok_if (fun c9 => ?_) (fun c9 => ?_)
        · have w10 : rg x2 (-2) (-2) := rg_lex (ti_eq c9) (rg_ley (ti_eq2 c9) (show rg (-2 : Int32) (-2) (-2) from ⟨by decide, by decide⟩) u14) (show rg (-2 : Int32) (-2) (-2) from ⟨by decide, by decide⟩)
          exact s_X2_firstOff_b69 _ v_e_toldDay v_e_toldCell v_e_toldLevel v_g_cells v_g_passes v_g_rivers v_g_villages v_g_rains v_g_room v_g_passFrom v_g_passTo v_g_riverCell v_g_riverLevel v_g_riverSalt v_g_villageCell v_g_need v_g_lawEnd v_g_code v_p_pumpTakes v_p_pumpFrom v_p_pumpTo v_p_pumpCell v_p_wanting v_p_passWidth v_p_riverWidth v_p_rain v_c_pumped v_c_today v_c_lacked v_c_level v_c_water v_c_salt v_c_stack v_d_day v_d_water v_d_salt v_d_seen v_d_took v_d_dryDays v_d_firstDry v_d_total x1 o_2 x3 x4 u0 u1 u2 u3 u4 u5 u6 u7 u8 u9 u10 u11 u12 u13 (rg_w w8 (by decide) (by decide)) u15 w3 (ti_nlt c1) (by intro v_p_pumpCell' v_p_wanting' v_p_passWidth' v_p_riverWidth' v_p_rain' v_c_pumped' v_c_today' v_c_lacked' v_c_level' v_c_water' v_c_salt' v_c_stack' v_d_day' v_d_water' v_d_salt' v_d_seen' v_d_took' v_d_dryDays' v_d_firstDry' v_d_total' x1' x2' x3' x4' f0 f1 f2 f3 lt; exact ih _ _ _ _ _ _ _ _ _ _ _ _ _ _ _ _ _ _ _ _ _ _ _ _ f0 f1 f2 f3 (ms_up hm lt f3))
        · have w11 : rg x2 (-1) 19 := rg_nel (-1) c9 u14 (show rg (-2 : Int32) (-2) (-2) from ⟨by decide, by decide⟩) (by decide)
          refine ok_if (fun c12 => ?_) (fun c12 => ?_)
          · exact s_X2_firstOff_b69 _ v_e_toldDay v_e_toldCell v_e_toldLevel v_g_cells v_g_passes v_g_rivers v_g_villages v_g_rains v_g_room v_g_passFrom v_g_passTo v_g_riverCell v_g_riverLevel v_g_riverSalt v_g_villageCell v_g_need v_g_lawEnd v_g_code v_p_pumpTakes v_p_pumpFrom v_p_pumpTo v_p_pumpCell v_p_wanting v_p_passWidth v_p_riverWidth v_p_rain v_c_pumped v_c_today v_c_lacked v_c_level v_c_water v_c_salt v_c_stack v_d_day v_d_water v_d_salt v_d_seen v_d_took v_d_dryDays v_d_firstDry v_d_total x1 x2 x3 x4 u0 u1 u2 u3 u4 u5 u6 u7 u8 u9 u10 u11 u12 u13 (rg_w w11 (by decide) (by decide)) u15 w3 (ti_nlt c1) (by intro v_p_pumpCell' v_p_wanting' v_p_passWidth' v_p_riverWidth' v_p_rain' v_c_pumped' v_c_today' v_c_lacked' v_c_level' v_c_water' v_c_salt' v_c_stack' v_d_day' v_d_water' v_d_salt' v_d_seen' v_d_took' v_d_dryDays' v_d_firstDry' v_d_total' x1' x2' x3' x4' f0 f1 f2 f3 lt; exact ih _ _ _ _ _ _ _ _ _ _ _ _ _ _ _ _ _ _ _ _ _ _ _ _ f0 f1 f2 f3 (ms_up hm lt f3))
          · have w13 : rg o_2 (-1) 18 := rg_ltx 18 (ti_nle c12) w8 w11 (by decide)
            have w14 : rg x2 0 19 := rg_lty 0 (ti_nle c12) w8 w11 (by decide)
            exact s_X2_firstOff_b69 _ v_e_toldDay v_e_toldCell v_e_toldLevel v_g_cells v_g_passes v_g_rivers v_g_villages v_g_rains v_g_room v_g_passFrom v_g_passTo v_g_riverCell v_g_riverLevel v_g_riverSalt v_g_villageCell v_g_need v_g_lawEnd v_g_code v_p_pumpTakes v_p_pumpFrom v_p_pumpTo v_p_pumpCell v_p_wanting v_p_passWidth v_p_riverWidth v_p_rain v_c_pumped v_c_today v_c_lacked v_c_level v_c_water v_c_salt v_c_stack v_d_day v_d_water v_d_salt v_d_seen v_d_took v_d_dryDays v_d_firstDry v_d_total x1 o_2 x3 x4 u0 u1 u2 u3 u4 u5 u6 u7 u8 u9 u10 u11 u12 u13 (rg_w w13 (by decide) (by decide)) u15 w3 (ti_nlt c1) (by intro v_p_pumpCell' v_p_wanting' v_p_passWidth' v_p_riverWidth' v_p_rain' v_c_pumped' v_c_today' v_c_lacked' v_c_level' v_c_water' v_c_salt' v_c_stack' v_d_day' v_d_water' v_d_salt' v_d_seen' v_d_took' v_d_dryDays' v_d_firstDry' v_d_total' x1' x2' x3' x4' f0 f1 f2 f3 lt; exact ih _ _ _ _ _ _ _ _ _ _ _ _ _ _ _ _ _ _ _ _ _ _ _ _ f0 f1 f2 f3 (ms_up hm lt f3))
set_option maxRecDepth 100000 in
set_option maxHeartbeats 2000000 in
theorem s_X2_firstOff (v_e_toldDay : (Nat → Int32)) (v_e_toldCell : (Nat → Int32)) (v_e_toldLevel : (Nat → Int32)) (v_g_cells : Int32) (v_g_passes : Int32) (v_g_rivers : Int32) (v_g_villages : Int32) (v_g_rains : Int32) (v_g_room : (Nat → Int32)) (v_g_water : (Nat → Int32)) (v_g_passFrom : (Nat → Int32)) (v_g_passTo : (Nat → Int32)) (v_g_passWidth : (Nat → Int32)) (v_g_riverCell : (Nat → Int32)) (v_g_riverLevel : (Nat → Int32)) (v_g_riverWidth : (Nat → Int32)) (v_g_riverSalt : (Nat → Int32)) (v_g_villageCell : (Nat → Int32)) (v_g_need : (Nat → Int32)) (v_g_lawEnd : (Nat → Int32)) (v_g_code : (Nat → Int32)) (v_g_rain : (Nat → Int32)) (v_p_pumpTakes : Int32) (v_p_pumpFrom : Int32) (v_p_pumpTo : Int32) (v_p_pumpCell : Int32) (v_p_wanting : (Nat → Int32)) (v_p_passWidth : (Nat → Int32)) (v_p_riverWidth : (Nat → Int32)) (v_p_rain : (Nat → Int32)) (v_c_pumped : Int32) (v_c_today : Int32) (v_c_lacked : (Nat → Int32)) (v_c_level : (Nat → Int32)) (v_c_water : (Nat → Int32)) (v_c_salt : (Nat → Int64)) (v_c_stack : (Nat → Int32)) (v_d_day : Int32) (v_d_water : (Nat → Int32)) (v_d_salt : (Nat → Int64)) (v_d_seen : (Nat → Int32)) (v_d_took : (Nat → Int32)) (v_d_dryDays : (Nat → Int32)) (v_d_firstDry : (Nat → Int32)) (v_d_total : (Nat → Int32)) (q1 : Int32) (u0 : al v_e_toldDay 0 199) (u1 : al v_e_toldCell 0 11) (u2 : rg v_g_cells 0 12) (u3 : rg v_g_passes 0 20) (u4 : rg v_g_rivers 0 3) (u5 : rg v_g_villages 0 6) (u6 : rg v_g_rains 0 14) (u7 : ac v_g_passFrom v_g_passes 0 11) (u8 : ac v_g_passTo v_g_passes 0 11) (u9 : ac v_g_riverCell v_g_rivers 0 11) (u10 : ac v_g_villageCell v_g_villages 0 11) (u11 : al v_g_lawEnd 0 400) (u12 : rg v_p_pumpFrom 0 13) (u13 : rg v_p_pumpCell (-1) 11) : ok (f_X2_firstOff v_e_toldDay v_e_toldCell v_e_toldLevel v_g_cells v_g_passes v_g_rivers v_g_villages v_g_rains v_g_room v_g_water v_g_passFrom v_g_passTo v_g_passWidth v_g_riverCell v_g_riverLevel v_g_riverWidth v_g_riverSalt v_g_villageCell v_g_need v_g_lawEnd v_g_code v_g_rain v_p_pumpTakes v_p_pumpFrom v_p_pumpTo v_p_pumpCell v_p_wanting v_p_passWidth v_p_riverWidth v_p_rain v_c_pumped v_c_today v_c_lacked v_c_level v_c_water v_c_salt v_c_stack v_d_day v_d_water v_d_salt v_d_seen v_d_took v_d_dryDays v_d_firstDry v_d_total q1) P_X2_firstOff := by
  unfold f_X2_firstOff
  refine ok_bd (s_X2_lastDay v_e_toldDay q1 u0) (fun o_1 p1 => ?_)
  have g2 : rg o_1 0 199 := p1.1
  refine ok_bd5 (s_X4_setAsTold v_g_passWidth v_g_riverWidth v_g_rain v_p_pumpCell v_p_wanting v_p_passWidth v_p_riverWidth v_p_rain u13) (fun o_2_0 o_2_1 o_2_2 o_2_3 o_2_4 p3 => ?_)
  have g4 : rg o_2_0 (-1) 11 := p3.1
  refine ok_bd8 (s_X1_begin v_g_water v_d_day v_d_water v_d_salt v_d_seen v_d_took v_d_dryDays v_d_firstDry v_d_total) (fun o_3_0 o_3_1 o_3_2 o_3_3 o_3_4 o_3_5 o_3_6 o_3_7 p5 => ?_)
  exact s_X2_firstOff_b34 v_e_toldDay v_e_toldCell v_e_toldLevel v_g_cells v_g_passes v_g_rivers v_g_villages v_g_rains v_g_room v_g_passFrom v_g_passTo v_g_riverCell v_g_riverLevel v_g_riverSalt v_g_villageCell v_g_need v_g_lawEnd v_g_code v_p_pumpTakes v_p_pumpFrom v_p_pumpTo u0 u1 u2 u3 u4 u5 u6 u7 u8 u9 u10 u11 u12 _ o_2_0 o_2_1 o_2_2 o_2_3 o_2_4 v_c_pumped v_c_today v_c_lacked v_c_level v_c_water v_c_salt v_c_stack o_3_0 o_3_1 o_3_2 o_3_3 o_3_4 o_3_5 o_3_6 o_3_7 q1 (-2 : Int32) o_1 (0 : Int32) g4 (rg_w (show rg (-2 : Int32) (-2) (-2) from ⟨by decide, by decide⟩) (by decide) (by decide)) g2 (rg_w (show rg (0 : Int32) 0 0 from ⟨by decide, by decide⟩) (by decide) (by decide)) (fu_up (a := 0) (h := 200) (rg_w (show rg (0 : Int32) 0 0 from ⟨by decide, by decide⟩) (by decide) (by decide)) (by decide))

abbrev P_X2_pumpAnswer  : Int32 → Prop := (fun o : Int32 => True)
set_option maxRecDepth 100000 in
set_option maxHeartbeats 2000000 in
theorem s_X2_pumpAnswer (v_e_pumps : (Nat → Int32)) (q1 : Int32) (q2 : Int32) (u0 : rg q1 0 20) : ok (f_X2_pumpAnswer v_e_pumps q1 q2) P_X2_pumpAnswer := by
  unfold f_X2_pumpAnswer
  refine ok_if (fun c1 => ?_) (fun c1 => ?_)
  · have w2 : rg ((4 : Int32) * q1) 0 (-1) := rg_ltx (-1) (ti_lt c1) (rg_mul (e := 0) (f := 80) (show rg (4 : Int32) 4 4 from ⟨by decide, by decide⟩) u0 (by decide) (by decide) (by decide) (by decide) (by decide)) (show rg (0 : Int32) 0 0 from ⟨by decide, by decide⟩) (by decide)
    exact rg_no w2 (by decide)
  · refine ok_if (fun c3 => ?_) (fun c3 => ?_)
    · have w4 : rg (((4 : Int32) * q1) + (4 : Int32)) 85 84 := rg_lty 85 (ti_lt c3) (show rg (84 : Int32) 84 84 from ⟨by decide, by decide⟩) (rg_add (e := 4) (f := 84) (rg_mul (e := 0) (f := 80) (show rg (4 : Int32) 4 4 from ⟨by decide, by decide⟩) u0 (by decide) (by decide) (by decide) (by decide) (by decide)) (show rg (4 : Int32) 4 4 from ⟨by decide, by decide⟩) (by decide) (by decide) (by decide) (by decide)) (by decide)
      exact rg_no w4 (by decide)
    · refine ok_if (fun c5 => ?_) (fun c5 => ?_)
      · have w6 : rg q2 (-2147483648) (-1) := rg_ltx (-1) (ti_lt c5) (rg_any q2) (show rg (0 : Int32) 0 0 from ⟨by decide, by decide⟩) (by decide)
        exact ok_some trivial
      · have w7 : rg q2 0 2147483647 := rg_ley (ti_nlt c5) (show rg (0 : Int32) 0 0 from ⟨by decide, by decide⟩) (rg_any q2)
        refine ok_if (fun c8 => ?_) (fun c8 => ?_)
        · have w9 : rg q2 0 3 := rg_ltx 3 (ti_lt c8) w7 (show rg (4 : Int32) 4 4 from ⟨by decide, by decide⟩) (by decide)
          refine ok_ck (inb_rg (rg_mul (e := 0) (f := 80) (show rg (4 : Int32) 4 4 from ⟨by decide, by decide⟩) u0 (by decide) (by decide) (by decide) (by decide) (by decide)) (by decide) (by decide)) ?_
          refine ok_if (fun c10 => ?_) (fun c10 => ?_)
          · have w11 : rg (v_e_pumps ((4 : Int32) * q1).toNatClampNeg) 0 2147483647 := rg_ley (ti_le c10) (show rg (0 : Int32) 0 0 from ⟨by decide, by decide⟩) (rg_any (v_e_pumps ((4 : Int32) * q1).toNatClampNeg))
            refine ok_ck (inb_rg (rg_add (e := 0) (f := 83) (rg_mul (e := 0) (f := 80) (show rg (4 : Int32) 4 4 from ⟨by decide, by decide⟩) u0 (by decide) (by decide) (by decide) (by decide) (by decide)) w9 (by decide) (by decide) (by decide) (by decide)) (by decide) (by decide)) ?_
            exact ok_some trivial
          · have w12 : rg (v_e_pumps ((4 : Int32) * q1).toNatClampNeg) (-2147483648) (-1) := rg_ltx (-1) (ti_nle c10) (rg_any (v_e_pumps ((4 : Int32) * q1).toNatClampNeg)) (show rg (0 : Int32) 0 0 from ⟨by decide, by decide⟩) (by decide)
            refine ok_ck (inb_rg (rg_mul (e := 0) (f := 80) (show rg (4 : Int32) 4 4 from ⟨by decide, by decide⟩) u0 (by decide) (by decide) (by decide) (by decide) (by decide)) (by decide) (by decide)) ?_
            exact ok_some trivial
        · have w13 : rg q2 4 2147483647 := rg_ley (ti_nlt c8) (show rg (4 : Int32) 4 4 from ⟨by decide, by decide⟩) w7
          exact ok_some trivial

abbrev P_X2_keepPump  : (Nat → Int32) → Prop := (fun o : (Nat → Int32) => True)
set_option maxRecDepth 100000 in
set_option maxHeartbeats 2000000 in
theorem s_X2_keepPump (v_p_pumpCell : Int32) (v_p_pumpTakes : Int32) (v_p_pumpFrom : Int32) (v_p_pumpTo : Int32) (v_e_pumps : (Nat → Int32)) (q1 : Int32) (u0 : rg v_p_pumpCell (-1) 11) (u1 : rg v_p_pumpFrom 0 13) (u2 : rg q1 0 80) : ok (f_X2_keepPump v_p_pumpCell v_p_pumpTakes v_p_pumpFrom v_p_pumpTo v_e_pumps q1) P_X2_keepPump := by
  unfold f_X2_keepPump
  refine ok_if (fun c1 => ?_) (fun c1 => ?_)
  · have w2 : rg q1 0 (-1) := rg_ltx (-1) (ti_lt c1) u2 (show rg (0 : Int32) 0 0 from ⟨by decide, by decide⟩) (by decide)
    exact rg_no w2 (by decide)
  · refine ok_if (fun c3 => ?_) (fun c3 => ?_)
    · refine ok_ck (inb_rg u2 (by decide) (by decide)) ?_
      refine ok_nm (fun a_4 ea_4 => ?_)
      refine ok_ck (inb_rg (rg_add (e := 1) (f := 81) u2 (show rg (1 : Int32) 1 1 from ⟨by decide, by decide⟩) (by decide) (by decide) (by decide) (by decide)) (by decide) (by decide)) ?_
      refine ok_nm (fun a_6 ea_6 => ?_)
      refine ok_ck (inb_rg (rg_add (e := 2) (f := 82) u2 (show rg (2 : Int32) 2 2 from ⟨by decide, by decide⟩) (by decide) (by decide) (by decide) (by decide)) (by decide) (by decide)) ?_
      refine ok_nm (fun a_8 ea_8 => ?_)
      refine ok_ck (inb_rg (rg_add (e := 3) (f := 83) u2 (show rg (3 : Int32) 3 3 from ⟨by decide, by decide⟩) (by decide) (by decide) (by decide) (by decide)) (by decide) (by decide)) ?_
      refine ok_nm (fun a_10 ea_10 => ?_)
      exact ok_some trivial
    · have w4 : rg (q1 + (4 : Int32)) 85 84 := rg_lty 85 (ti_nle c3) (show rg (84 : Int32) 84 84 from ⟨by decide, by decide⟩) (rg_add (e := 4) (f := 84) u2 (show rg (4 : Int32) 4 4 from ⟨by decide, by decide⟩) (by decide) (by decide) (by decide) (by decide)) (by decide)
      exact rg_no w4 (by decide)

abbrev P_X6_isCell (q1 : Int32) (v_g_cells : Int32) : Int32 → Prop := (fun o : Int32 => rg o 0 1 ∧ (o = 0 ∨ (rg q1 0 2147483647 ∧ q1.toInt < v_g_cells.toInt)) ∧ True)
set_option maxRecDepth 100000 in
set_option maxHeartbeats 2000000 in
theorem s_X6_isCell (v_g_cells : Int32) (q1 : Int32) (u0 : rg v_g_cells 0 12) : ok (f_X6_isCell v_g_cells q1) (P_X6_isCell q1 v_g_cells) := by
  unfold f_X6_isCell
  refine ok_if (fun c1 => ?_) (fun c1 => ?_)
  · have w2 : rg q1 (-2147483648) (-1) := rg_ltx (-1) (ti_lt c1) (rg_any q1) (show rg (0 : Int32) 0 0 from ⟨by decide, by decide⟩) (by decide)
    exact ok_some ⟨(rg_w (show rg (0 : Int32) 0 0 from ⟨by decide, by decide⟩) (by decide) (by decide)), (Or.inl rfl), trivial⟩
  · have w3 : rg q1 0 2147483647 := rg_ley (ti_nlt c1) (show rg (0 : Int32) 0 0 from ⟨by decide, by decide⟩) (rg_any q1)
    refine ok_if (fun c4 => ?_) (fun c4 => ?_)
    · exact ok_some ⟨(rg_w (show rg (0 : Int32) 0 0 from ⟨by decide, by decide⟩) (by decide) (by decide)), (Or.inl rfl), trivial⟩
    · have w5 : rg q1 0 11 := rg_ltx 11 (ti_nle c4) w3 u0 (by decide)
      have w6 : rg v_g_cells 1 12 := rg_lty 1 (ti_nle c4) w3 u0 (by decide)
      exact ok_some ⟨(rg_w (show rg (1 : Int32) 1 1 from ⟨by decide, by decide⟩) (by decide) (by decide)), (Or.inr ⟨(rg_w w5 (by decide) (by decide)), (ti_nle c4)⟩), trivial⟩

abbrev P_X6_isPass (q1 : Int32) (v_g_passes : Int32) : Int32 → Prop := (fun o : Int32 => rg o 0 1 ∧ (o = 0 ∨ (rg q1 0 2147483647 ∧ q1.toInt < v_g_passes.toInt)) ∧ True)
set_option maxRecDepth 100000 in
set_option maxHeartbeats 2000000 in
theorem s_X6_isPass (v_g_passes : Int32) (q1 : Int32) (u0 : rg v_g_passes 0 20) : ok (f_X6_isPass v_g_passes q1) (P_X6_isPass q1 v_g_passes) := by
  unfold f_X6_isPass
  refine ok_if (fun c1 => ?_) (fun c1 => ?_)
  · have w2 : rg q1 (-2147483648) (-1) := rg_ltx (-1) (ti_lt c1) (rg_any q1) (show rg (0 : Int32) 0 0 from ⟨by decide, by decide⟩) (by decide)
    exact ok_some ⟨(rg_w (show rg (0 : Int32) 0 0 from ⟨by decide, by decide⟩) (by decide) (by decide)), (Or.inl rfl), trivial⟩
  · have w3 : rg q1 0 2147483647 := rg_ley (ti_nlt c1) (show rg (0 : Int32) 0 0 from ⟨by decide, by decide⟩) (rg_any q1)
    refine ok_if (fun c4 => ?_) (fun c4 => ?_)
    · exact ok_some ⟨(rg_w (show rg (0 : Int32) 0 0 from ⟨by decide, by decide⟩) (by decide) (by decide)), (Or.inl rfl), trivial⟩
    · have w5 : rg q1 0 19 := rg_ltx 19 (ti_nle c4) w3 u0 (by decide)
      have w6 : rg v_g_passes 1 20 := rg_lty 1 (ti_nle c4) w3 u0 (by decide)
      exact ok_some ⟨(rg_w (show rg (1 : Int32) 1 1 from ⟨by decide, by decide⟩) (by decide) (by decide)), (Or.inr ⟨(rg_w w5 (by decide) (by decide)), (ti_nle c4)⟩), trivial⟩

abbrev P_X6_isVillage (q1 : Int32) (v_g_villages : Int32) : Int32 → Prop := (fun o : Int32 => rg o 0 1 ∧ (o = 0 ∨ (rg q1 0 2147483647 ∧ q1.toInt < v_g_villages.toInt)) ∧ True)
set_option maxRecDepth 100000 in
set_option maxHeartbeats 2000000 in
theorem s_X6_isVillage (v_g_villages : Int32) (q1 : Int32) (u0 : rg v_g_villages 0 6) : ok (f_X6_isVillage v_g_villages q1) (P_X6_isVillage q1 v_g_villages) := by
  unfold f_X6_isVillage
  refine ok_if (fun c1 => ?_) (fun c1 => ?_)
  · have w2 : rg q1 (-2147483648) (-1) := rg_ltx (-1) (ti_lt c1) (rg_any q1) (show rg (0 : Int32) 0 0 from ⟨by decide, by decide⟩) (by decide)
    exact ok_some ⟨(rg_w (show rg (0 : Int32) 0 0 from ⟨by decide, by decide⟩) (by decide) (by decide)), (Or.inl rfl), trivial⟩
  · have w3 : rg q1 0 2147483647 := rg_ley (ti_nlt c1) (show rg (0 : Int32) 0 0 from ⟨by decide, by decide⟩) (rg_any q1)
    refine ok_if (fun c4 => ?_) (fun c4 => ?_)
    · exact ok_some ⟨(rg_w (show rg (0 : Int32) 0 0 from ⟨by decide, by decide⟩) (by decide) (by decide)), (Or.inl rfl), trivial⟩
    · have w5 : rg q1 0 5 := rg_ltx 5 (ti_nle c4) w3 u0 (by decide)
      have w6 : rg v_g_villages 1 6 := rg_lty 1 (ti_nle c4) w3 u0 (by decide)
      exact ok_some ⟨(rg_w (show rg (1 : Int32) 1 1 from ⟨by decide, by decide⟩) (by decide) (by decide)), (Or.inr ⟨(rg_w w5 (by decide) (by decide)), (ti_nle c4)⟩), trivial⟩

abbrev P_X6_isSlot (q1 : Int32) : Int32 → Prop := (fun o : Int32 => rg o 0 1 ∧ (o = 0 ∨ (rg q1 0 2)) ∧ True)
set_option maxRecDepth 100000 in
set_option maxHeartbeats 2000000 in
theorem s_X6_isSlot (q1 : Int32)  : ok (f_X6_isSlot q1) (P_X6_isSlot q1) := by
  unfold f_X6_isSlot
  refine ok_if (fun c1 => ?_) (fun c1 => ?_)
  · have w2 : rg q1 (-2147483648) (-1) := rg_ltx (-1) (ti_lt c1) (rg_any q1) (show rg (0 : Int32) 0 0 from ⟨by decide, by decide⟩) (by decide)
    exact ok_some ⟨(rg_w (show rg (0 : Int32) 0 0 from ⟨by decide, by decide⟩) (by decide) (by decide)), (Or.inl rfl), trivial⟩
  · have w3 : rg q1 0 2147483647 := rg_ley (ti_nlt c1) (show rg (0 : Int32) 0 0 from ⟨by decide, by decide⟩) (rg_any q1)
    refine ok_if (fun c4 => ?_) (fun c4 => ?_)
    · have w5 : rg q1 3 2147483647 := rg_ley (ti_le c4) (show rg (3 : Int32) 3 3 from ⟨by decide, by decide⟩) w3
      exact ok_some ⟨(rg_w (show rg (0 : Int32) 0 0 from ⟨by decide, by decide⟩) (by decide) (by decide)), (Or.inl rfl), trivial⟩
    · have w6 : rg q1 0 2 := rg_ltx 2 (ti_nle c4) w3 (show rg (3 : Int32) 3 3 from ⟨by decide, by decide⟩) (by decide)
      exact ok_some ⟨(rg_w (show rg (1 : Int32) 1 1 from ⟨by decide, by decide⟩) (by decide) (by decide)), (Or.inr w6), trivial⟩

abbrev P_X6_isAhead (q1 : Int32) : Int32 → Prop := (fun o : Int32 => rg o 0 1 ∧ (o = 0 ∨ (rg q1 1 200)) ∧ True)
set_option maxRecDepth 100000 in
set_option maxHeartbeats 2000000 in
theorem s_X6_isAhead (q1 : Int32)  : ok (f_X6_isAhead q1) (P_X6_isAhead q1) := by
  unfold f_X6_isAhead
  refine ok_if (fun c1 => ?_) (fun c1 => ?_)
  · have w2 : rg q1 (-2147483648) 0 := rg_ltx 0 (ti_lt c1) (rg_any q1) (show rg (1 : Int32) 1 1 from ⟨by decide, by decide⟩) (by decide)
    exact ok_some ⟨(rg_w (show rg (0 : Int32) 0 0 from ⟨by decide, by decide⟩) (by decide) (by decide)), (Or.inl rfl), trivial⟩
  · have w3 : rg q1 1 2147483647 := rg_ley (ti_nlt c1) (show rg (1 : Int32) 1 1 from ⟨by decide, by decide⟩) (rg_any q1)
    refine ok_if (fun c4 => ?_) (fun c4 => ?_)
    · have w5 : rg q1 201 2147483647 := rg_lty 201 (ti_lt c4) (show rg (200 : Int32) 200 200 from ⟨by decide, by decide⟩) w3 (by decide)
      exact ok_some ⟨(rg_w (show rg (0 : Int32) 0 0 from ⟨by decide, by decide⟩) (by decide) (by decide)), (Or.inl rfl), trivial⟩
    · have w6 : rg q1 1 200 := rg_lex (ti_nlt c4) w3 (show rg (200 : Int32) 200 200 from ⟨by decide, by decide⟩)
      exact ok_some ⟨(rg_w (show rg (1 : Int32) 1 1 from ⟨by decide, by decide⟩) (by decide) (by decide)), (Or.inr w6), trivial⟩

abbrev P_X6_isKnown (q1 : Int32) : Int32 → Prop := (fun o : Int32 => rg o 0 1 ∧ (o = 0 ∨ (rg q1 0 20)) ∧ True)
set_option maxRecDepth 100000 in
set_option maxHeartbeats 2000000 in
theorem s_X6_isKnown (v_e_told : Int32) (q1 : Int32) (u0 : rg v_e_told 0 20) : ok (f_X6_isKnown v_e_told q1) (P_X6_isKnown q1) := by
  unfold f_X6_isKnown
  refine ok_if (fun c1 => ?_) (fun c1 => ?_)
  · have w2 : rg q1 (-2147483648) (-1) := rg_ltx (-1) (ti_lt c1) (rg_any q1) (show rg (0 : Int32) 0 0 from ⟨by decide, by decide⟩) (by decide)
    exact ok_some ⟨(rg_w (show rg (0 : Int32) 0 0 from ⟨by decide, by decide⟩) (by decide) (by decide)), (Or.inl rfl), trivial⟩
  · have w3 : rg q1 0 2147483647 := rg_ley (ti_nlt c1) (show rg (0 : Int32) 0 0 from ⟨by decide, by decide⟩) (rg_any q1)
    refine ok_if (fun c4 => ?_) (fun c4 => ?_)
    · have w5 : rg q1 1 2147483647 := rg_lty 1 (ti_lt c4) u0 w3 (by decide)
      exact ok_some ⟨(rg_w (show rg (0 : Int32) 0 0 from ⟨by decide, by decide⟩) (by decide) (by decide)), (Or.inl rfl), trivial⟩
    · have w6 : rg q1 0 20 := rg_lex (ti_nlt c4) w3 u0
      exact ok_some ⟨(rg_w (show rg (1 : Int32) 1 1 from ⟨by decide, by decide⟩) (by decide) (by decide)), (Or.inr w6), trivial⟩

abbrev P_X6_arePair (q1 : Int32) (q2 : Int32) : Int32 → Prop := (fun o : Int32 => rg o 0 1 ∧ (o = 0 ∨ (rg q1 0 19 ∧ rg q2 0 19)) ∧ True)
set_option maxRecDepth 100000 in
set_option maxHeartbeats 2000000 in
theorem s_X6_arePair (v_g_passes : Int32) (q1 : Int32) (q2 : Int32) (u0 : rg v_g_passes 0 20) : ok (f_X6_arePair v_g_passes q1 q2) (P_X6_arePair q1 q2) := by
  unfold f_X6_arePair
  refine ok_bd (s_X6_isPass v_g_passes q1 u0) (fun o_1 p1 => ?_)
  have g2 : rg o_1 0 1 := p1.1
  refine ok_if (fun c4 => ?_) (fun c4 => ?_)
  · have w5 : rg o_1 0 0 := rg_lex (ti_eq c4) (rg_ley (ti_eq2 c4) (show rg (0 : Int32) 0 0 from ⟨by decide, by decide⟩) g2) (show rg (0 : Int32) 0 0 from ⟨by decide, by decide⟩)
    exact ok_some ⟨(rg_w (show rg (0 : Int32) 0 0 from ⟨by decide, by decide⟩) (by decide) (by decide)), (Or.inl rfl), trivial⟩
  · obtain ⟨i6_0, i6_1⟩ := p1.2.1.resolve_left c4
    have w7 : rg q1 0 19 := rg_ltx 19 i6_1 i6_0 u0 (by decide)
    have w8 : rg v_g_passes 1 20 := rg_lty 1 i6_1 i6_0 u0 (by decide)
    have w9 : rg o_1 1 1 := rg_nel 1 c4 g2 (show rg (0 : Int32) 0 0 from ⟨by decide, by decide⟩) (by decide)
    refine ok_bd (s_X6_isPass v_g_passes q2 (rg_w w8 (by decide) (by decide))) (fun o_3 p10 => ?_)
    have g11 : rg o_3 0 1 := p10.1
    refine ok_if (fun c13 => ?_) (fun c13 => ?_)
    · have w14 : rg o_3 0 0 := rg_lex (ti_eq c13) (rg_ley (ti_eq2 c13) (show rg (0 : Int32) 0 0 from ⟨by decide, by decide⟩) g11) (show rg (0 : Int32) 0 0 from ⟨by decide, by decide⟩)
      exact ok_some ⟨(rg_w (show rg (0 : Int32) 0 0 from ⟨by decide, by decide⟩) (by decide) (by decide)), (Or.inl rfl), trivial⟩
    · obtain ⟨i15_0, i15_1⟩ := p10.2.1.resolve_left c13
      have w16 : rg q2 0 19 := rg_ltx 19 i15_1 i15_0 w8 (by decide)
      have w17 : rg o_3 1 1 := rg_nel 1 c13 g11 (show rg (0 : Int32) 0 0 from ⟨by decide, by decide⟩) (by decide)
      refine ok_if (fun c18 => ?_) (fun c18 => ?_)
      · exact ok_some ⟨(rg_w (show rg (0 : Int32) 0 0 from ⟨by decide, by decide⟩) (by decide) (by decide)), (Or.inl rfl), trivial⟩
      · exact ok_some ⟨(rg_w (show rg (1 : Int32) 1 1 from ⟨by decide, by decide⟩) (by decide) (by decide)), (Or.inr ⟨w7, w16⟩), trivial⟩

abbrev P_X6_isChange (q2 : Int32) : Int32 → Prop := (fun o : Int32 => rg o 0 1 ∧ (o = 0 ∨ (rg q2 0 2147483647)) ∧ True)
set_option maxRecDepth 100000 in
set_option maxHeartbeats 2000000 in
theorem s_X6_isChange (v_g_passes : Int32) (v_g_rivers : Int32) (v_g_villages : Int32) (q1 : Int32) (q2 : Int32) (u0 : rg v_g_passes 0 20) (u1 : rg v_g_rivers 0 3) (u2 : rg v_g_villages 0 6) : ok (f_X6_isChange v_g_passes v_g_rivers v_g_villages q1 q2) (P_X6_isChange q2) := by
  unfold f_X6_isChange
  refine ok_if (fun c1 => ?_) (fun c1 => ?_)
  · have w2 : rg q1 0 0 := rg_lex (ti_eq c1) (rg_ley (ti_eq2 c1) (show rg (0 : Int32) 0 0 from ⟨by decide, by decide⟩) (rg_any q1)) (show rg (0 : Int32) 0 0 from ⟨by decide, by decide⟩)
    refine ok_bd (s_X6_isVillage v_g_villages q2 u2) (fun o_2 p3 => ?_)
    have g4 : rg o_2 0 1 := p3.1
    refine ok_ck (isz_rg g4) ?_
    exact ok_some ⟨g4, (p3.2.1.imp_right (fun yy => by obtain ⟨y0, y1⟩ := yy; have w6 : rg q2 0 5 := rg_ltx 5 y1 y0 u2 (by decide); have w7 : rg v_g_villages 1 6 := rg_lty 1 y1 y0 u2 (by decide); exact (rg_w w6 (by decide) (by decide)))), trivial⟩
  · refine ok_if (fun c8 => ?_) (fun c8 => ?_)
    · have w9 : rg q1 1 1 := rg_lex (ti_eq c8) (rg_ley (ti_eq2 c8) (show rg (1 : Int32) 1 1 from ⟨by decide, by decide⟩) (rg_any q1)) (show rg (1 : Int32) 1 1 from ⟨by decide, by decide⟩)
      refine ok_bd (s_X6_isPass v_g_passes q2 u0) (fun o_5 p10 => ?_)
      have g11 : rg o_5 0 1 := p10.1
      refine ok_ck (isz_rg g11) ?_
      exact ok_some ⟨g11, (p10.2.1.imp_right (fun yy => by obtain ⟨y0, y1⟩ := yy; have w13 : rg q2 0 19 := rg_ltx 19 y1 y0 u0 (by decide); have w14 : rg v_g_passes 1 20 := rg_lty 1 y1 y0 u0 (by decide); exact (rg_w w13 (by decide) (by decide)))), trivial⟩
    · refine ok_if (fun c15 => ?_) (fun c15 => ?_)
      · have w16 : rg q1 2 2 := rg_lex (ti_eq c15) (rg_ley (ti_eq2 c15) (show rg (2 : Int32) 2 2 from ⟨by decide, by decide⟩) (rg_any q1)) (show rg (2 : Int32) 2 2 from ⟨by decide, by decide⟩)
        refine ok_if (fun c17 => ?_) (fun c17 => ?_)
        · have w18 : rg q2 (-2147483648) (-1) := rg_ltx (-1) (ti_lt c17) (rg_any q2) (show rg (0 : Int32) 0 0 from ⟨by decide, by decide⟩) (by decide)
          exact ok_some ⟨(rg_w (show rg (0 : Int32) 0 0 from ⟨by decide, by decide⟩) (by decide) (by decide)), (Or.inl rfl), trivial⟩
        · have w19 : rg q2 0 2147483647 := rg_ley (ti_nlt c17) (show rg (0 : Int32) 0 0 from ⟨by decide, by decide⟩) (rg_any q2)
          refine ok_if (fun c20 => ?_) (fun c20 => ?_)
          · exact ok_some ⟨(rg_w (show rg (0 : Int32) 0 0 from ⟨by decide, by decide⟩) (by decide) (by decide)), (Or.inl rfl), trivial⟩
          · have w21 : rg q2 0 2 := rg_ltx 2 (ti_nle c20) w19 u1 (by decide)
            have w22 : rg v_g_rivers 1 3 := rg_lty 1 (ti_nle c20) w19 u1 (by decide)
            exact ok_some ⟨(rg_w (show rg (1 : Int32) 1 1 from ⟨by decide, by decide⟩) (by decide) (by decide)), (Or.inr (rg_w w21 (by decide) (by decide))), trivial⟩
      · exact ok_some ⟨(rg_w (show rg (0 : Int32) 0 0 from ⟨by decide, by decide⟩) (by decide) (by decide)), (Or.inl rfl), trivial⟩

abbrev P_X6_allVillages  : Int32 → Prop := (fun o : Int32 => rg o 0 63 ∧ True)
set_option maxRecDepth 100000 in
set_option maxHeartbeats 2000000 in
theorem s_X6_allVillages (v_g_villages : Int32) (u0 : rg v_g_villages 0 6) : ok (f_X6_allVillages v_g_villages) P_X6_allVillages := by
  unfold f_X6_allVillages
  exact ok_some ⟨(rg_sub (e := 0) (f := 63) (rg_shl1 (rg_w u0 (by decide) (by decide))) (show rg (1 : Int32) 1 1 from ⟨by decide, by decide⟩) (by decide) (by decide) (by decide) (by decide)), trivial⟩

abbrev P_X6_tryAsTold  : Int32 × (Nat → Int32) × (Nat → Int32) × (Nat → Int32) × (Nat → Int32) × Int32 × (Nat → Int32) × (Nat → Int64) × (Nat → Int32) × (Nat → Int32) × (Nat → Int32) × (Nat → Int32) × (Nat → Int32) → Prop := (fun o : Int32 × (Nat → Int32) × (Nat → Int32) × (Nat → Int32) × (Nat → Int32) × Int32 × (Nat → Int32) × (Nat → Int64) × (Nat → Int32) × (Nat → Int32) × (Nat → Int32) × (Nat → Int32) × (Nat → Int32) => rg o.1 (-1) 11 ∧ True)
set_option maxRecDepth 100000 in
set_option maxHeartbeats 2000000 in
theorem s_X6_tryAsTold (v_g_passWidth : (Nat → Int32)) (v_g_riverWidth : (Nat → Int32)) (v_g_rain : (Nat → Int32)) (v_n_day : Int32) (v_n_water : (Nat → Int32)) (v_n_salt : (Nat → Int64)) (v_n_seen : (Nat → Int32)) (v_n_took : (Nat → Int32)) (v_n_dryDays : (Nat → Int32)) (v_n_firstDry : (Nat → Int32)) (v_n_total : (Nat → Int32)) (v_p_pumpCell : Int32) (v_p_wanting : (Nat → Int32)) (v_p_passWidth : (Nat → Int32)) (v_p_riverWidth : (Nat → Int32)) (v_p_rain : (Nat → Int32)) (v_d_day : Int32) (v_d_water : (Nat → Int32)) (v_d_salt : (Nat → Int64)) (v_d_seen : (Nat → Int32)) (v_d_took : (Nat → Int32)) (v_d_dryDays : (Nat → Int32)) (v_d_firstDry : (Nat → Int32)) (v_d_total : (Nat → Int32)) (u0 : rg v_p_pumpCell (-1) 11) : ok (f_X6_tryAsTold v_g_passWidth v_g_riverWidth v_g_rain v_n_day v_n_water v_n_salt v_n_seen v_n_took v_n_dryDays v_n_firstDry v_n_total v_p_pumpCell v_p_wanting v_p_passWidth v_p_riverWidth v_p_rain v_d_day v_d_water v_d_salt v_d_seen v_d_took v_d_dryDays v_d_firstDry v_d_total) P_X6_tryAsTold := by
  unfold f_X6_tryAsTold
  refine ok_bd5 (s_X4_setAsTold v_g_passWidth v_g_riverWidth v_g_rain v_p_pumpCell v_p_wanting v_p_passWidth v_p_riverWidth v_p_rain u0) (fun o_1_0 o_1_1 o_1_2 o_1_3 o_1_4 p1 => ?_)
  have g2 : rg o_1_0 (-1) 11 := p1.1
  refine ok_bd8 (s_X1_become v_n_day v_n_water v_n_salt v_n_seen v_n_took v_n_dryDays v_n_firstDry v_n_total v_d_day v_d_water v_d_salt v_d_seen v_d_took v_d_dryDays v_d_firstDry v_d_total) (fun o_2_0 o_2_1 o_2_2 o_2_3 o_2_4 o_2_5 o_2_6 o_2_7 p3 => ?_)
  exact ok_some ⟨g2, trivial⟩

abbrev P_X6_lackingDays  : Int32 × Int32 × Int32 × (Nat → Int32) × (Nat → Int32) × (Nat → Int32) × (Nat → Int64) × (Nat → Int32) × Int32 × (Nat → Int32) × (Nat → Int64) × (Nat → Int32) × (Nat → Int32) × (Nat → Int32) × (Nat → Int32) × (Nat → Int32) → Prop := (fun o : Int32 × Int32 × Int32 × (Nat → Int32) × (Nat → Int32) × (Nat → Int32) × (Nat → Int64) × (Nat → Int32) × Int32 × (Nat → Int32) × (Nat → Int64) × (Nat → Int32) × (Nat → Int32) × (Nat → Int32) × (Nat → Int32) × (Nat → Int32) => True)
set_option maxRecDepth 100000 in
set_option maxHeartbeats 2000000 in
theorem s_X6_lackingDays_b5  (v_g_cells : Int32) (v_g_passes : Int32) (v_g_rivers : Int32) (v_g_villages : Int32) (v_g_rains : Int32) (v_g_room : (Nat → Int32)) (v_g_passFrom : (Nat → Int32)) (v_g_passTo : (Nat → Int32)) (v_g_riverCell : (Nat → Int32)) (v_g_riverLevel : (Nat → Int32)) (v_g_riverSalt : (Nat → Int32)) (v_g_villageCell : (Nat → Int32)) (v_g_need : (Nat → Int32)) (v_g_lawEnd : (Nat → Int32)) (v_g_code : (Nat → Int32)) (v_p_pumpCell : Int32) (v_p_pumpTakes : Int32) (v_p_pumpFrom : Int32) (v_p_pumpTo : Int32) (v_p_wanting : (Nat → Int32)) (v_p_passWidth : (Nat → Int32)) (v_p_riverWidth : (Nat → Int32)) (v_p_rain : (Nat → Int32)) (u0 : rg v_g_cells 0 12) (u1 : rg v_g_passes 0 20) (u2 : rg v_g_rivers 0 3) (u3 : rg v_g_villages 0 6) (u4 : rg v_g_rains 0 14) (u5 : ac v_g_passFrom v_g_passes 0 11) (u6 : ac v_g_passTo v_g_passes 0 11) (u7 : ac v_g_riverCell v_g_rivers 0 11) (u8 : ac v_g_villageCell v_g_villages 0 11) (u9 : al v_g_lawEnd 0 400) (u10 : rg v_p_pumpCell (-1) 11) (u11 : rg v_p_pumpFrom 0 13) : ∀ (n : Nat) (v_c_pumped : Int32) (v_c_today : Int32) (v_c_lacked : (Nat → Int32)) (v_c_level : (Nat → Int32)) (v_c_water : (Nat → Int32)) (v_c_salt : (Nat → Int64)) (v_c_stack : (Nat → Int32)) (v_d_day : Int32) (v_d_water : (Nat → Int32)) (v_d_salt : (Nat → Int64)) (v_d_seen : (Nat → Int32)) (v_d_took : (Nat → Int32)) (v_d_dryDays : (Nat → Int32)) (v_d_firstDry : (Nat → Int32)) (v_d_total : (Nat → Int32)) (x1 : Int32) (x2 : Int32) (x3 : Int32) (x4 : Int32) (u12 : rg x1 0 5) (u13 : rg x2 1 200) (u14 : rg x4 0 200)  (hm : (200 - x4.toInt).toNat < n), ok (f_X6_lackingDays_b5 v_g_cells v_g_passes v_g_rivers v_g_villages v_g_rains v_g_room v_g_passFrom v_g_passTo v_g_riverCell v_g_riverLevel v_g_riverSalt v_g_villageCell v_g_need v_g_lawEnd v_g_code v_p_pumpCell v_p_pumpTakes v_p_pumpFrom v_p_pumpTo v_p_wanting v_p_passWidth v_p_riverWidth v_p_rain n v_c_pumped v_c_today v_c_lacked v_c_level v_c_water v_c_salt v_c_stack v_d_day v_d_water v_d_salt v_d_seen v_d_took v_d_dryDays v_d_firstDry v_d_total x1 x2 x3 x4) P_X6_lackingDays := by
  intro n
  induction n with
  | zero =>
    intro v_c_pumped v_c_today v_c_lacked v_c_level v_c_water v_c_salt v_c_stack v_d_day v_d_water v_d_salt v_d_seen v_d_took v_d_dryDays v_d_firstDry v_d_total x1 x2 x3 x4 u12 u13 u14 hm
    exact absurd hm (Nat.not_lt_zero _)
  | succ n ih =>
    intro v_c_pumped v_c_today v_c_lacked v_c_level v_c_water v_c_salt v_c_stack v_d_day v_d_water v_d_salt v_d_seen v_d_took v_d_dryDays v_d_firstDry v_d_total x1 x2 x3 x4 u12 u13 u14 hm
    show ok (f_X6_lackingDays_b5_st (f_X6_lackingDays_b5 v_g_cells v_g_passes v_g_rivers v_g_villages v_g_rains v_g_room v_g_passFrom v_g_passTo v_g_riverCell v_g_riverLevel v_g_riverSalt v_g_villageCell v_g_need v_g_lawEnd v_g_code v_p_pumpCell v_p_pumpTakes v_p_pumpFrom v_p_pumpTo v_p_wanting v_p_passWidth v_p_riverWidth v_p_rain n) v_g_cells v_g_passes v_g_rivers v_g_villages v_g_rains v_g_room v_g_passFrom v_g_passTo v_g_riverCell v_g_riverLevel v_g_riverSalt v_g_villageCell v_g_need v_g_lawEnd v_g_code v_p_pumpCell v_p_pumpTakes v_p_pumpFrom v_p_pumpTo v_p_wanting v_p_passWidth v_p_riverWidth v_p_rain v_c_pumped v_c_today v_c_lacked v_c_level v_c_water v_c_salt v_c_stack v_d_day v_d_water v_d_salt v_d_seen v_d_took v_d_dryDays v_d_firstDry v_d_total x1 x2 x3 x4) P_X6_lackingDays
    unfold f_X6_lackingDays_b5_st
    refine ok_if (fun c1 => ?_) (fun c1 => ?_)
    · have w2 : rg x4 1 200 := rg_ley (ti_le c1) u13 u14
      exact ok_some trivial
    · have w3 : rg x4 0 199 := rg_ltx 199 (ti_nle c1) u14 u13 (by decide)
      refine ok_bd15 (s_X0_oneDay v_g_cells v_g_passes v_g_rivers v_g_villages v_g_rains v_g_room v_g_passFrom v_g_passTo v_g_riverCell v_g_riverLevel v_g_riverSalt v_g_villageCell v_g_need v_g_lawEnd v_g_code v_p_pumpCell v_p_pumpTakes v_p_pumpFrom v_p_pumpTo v_p_wanting v_p_passWidth v_p_riverWidth v_p_rain v_c_pumped v_c_today v_c_lacked v_c_level v_c_water v_c_salt v_c_stack v_d_day v_d_water v_d_salt v_d_seen v_d_took v_d_dryDays v_d_firstDry v_d_total u0 u1 u2 u3 u4 u5 u6 u7 u8 u9 u10 u11) (fun o_2_0 o_2_1 o_2_2 o_2_3 o_2_4 o_2_5 o_2_6 o_2_7 o_2_8 o_2_9 o_2_10 o_2_11 o_2_12 o_2_13 o_2_14 p4 => ?_)
      refine ok_ck (inb_rg u12 (by decide) (by decide)) ?_
      refine ok_if (fun c5 => ?_) (fun c5 => ?_)
      · have w6 : rg (o_2_2 x1.toNatClampNeg) 0 0 := rg_lex (ti_eq c5) (rg_ley (ti_eq2 c5) (show rg (0 : Int32) 0 0 from ⟨by decide, by decide⟩) (rg_any (o_2_2 x1.toNatClampNeg))) (show rg (0 : Int32) 0 0 from ⟨by decide, by decide⟩)
        exact ih o_2_0 o_2_1 o_2_2 o_2_3 o_2_4 o_2_5 o_2_6 o_2_7 o_2_8 o_2_9 o_2_10 o_2_11 o_2_12 o_2_13 o_2_14 x1 x2 x3 (x4 + (1 : Int32)) u12 u13 (rg_w (rg_add (e := 1) (f := 200) w3 (show rg (1 : Int32) 1 1 from ⟨by decide, by decide⟩) (by decide) (by decide) (by decide) (by decide)) (by decide) (by decide)) (ms_up (y := (x4 + (1 : Int32))) (a := 0) hm (lt_ad w3 (show rg (1 : Int32) 1 1 from ⟨by decide, by decide⟩) (by decide) (by decide) (by decide)) (rg_w (rg_add (e := 1) (f := 200) w3 (show rg (1 : Int32) 1 1 from ⟨by decide, by decide⟩) (by decide) (by decide) (by decide) (by decide)) (by decide) (by decide)))
      · exact ih o_2_0 o_2_1 o_2_2 o_2_3 o_2_4 o_2_5 o_2_6 o_2_7 o_2_8 o_2_9 o_2_10 o_2_11 o_2_12 o_2_13 o_2_14 x1 x2 (x3 + (1 : Int32)) (x4 + (1 : Int32)) u12 u13 (rg_w (rg_add (e := 1) (f := 200) w3 (show rg (1 : Int32) 1 1 from ⟨by decide, by decide⟩) (by decide) (by decide) (by decide) (by decide)) (by decide) (by decide)) (ms_up (y := (x4 + (1 : Int32))) (a := 0) hm (lt_ad w3 (show rg (1 : Int32) 1 1 from ⟨by decide, by decide⟩) (by decide) (by decide) (by decide)) (rg_w (rg_add (e := 1) (f := 200) w3 (show rg (1 : Int32) 1 1 from ⟨by decide, by decide⟩) (by decide) (by decide) (by decide) (by decide)) (by decide) (by decide)))
set_option maxRecDepth 100000 in
set_option maxHeartbeats 2000000 in
theorem s_X6_lackingDays (v_g_cells : Int32) (v_g_passes : Int32) (v_g_rivers : Int32) (v_g_villages : Int32) (v_g_rains : Int32) (v_g_room : (Nat → Int32)) (v_g_passFrom : (Nat → Int32)) (v_g_passTo : (Nat → Int32)) (v_g_riverCell : (Nat → Int32)) (v_g_riverLevel : (Nat → Int32)) (v_g_riverSalt : (Nat → Int32)) (v_g_villageCell : (Nat → Int32)) (v_g_need : (Nat → Int32)) (v_g_lawEnd : (Nat → Int32)) (v_g_code : (Nat → Int32)) (v_p_pumpCell : Int32) (v_p_pumpTakes : Int32) (v_p_pumpFrom : Int32) (v_p_pumpTo : Int32) (v_p_wanting : (Nat → Int32)) (v_p_passWidth : (Nat → Int32)) (v_p_riverWidth : (Nat → Int32)) (v_p_rain : (Nat → Int32)) (v_c_pumped : Int32) (v_c_today : Int32) (v_c_lacked : (Nat → Int32)) (v_c_level : (Nat → Int32)) (v_c_water : (Nat → Int32)) (v_c_salt : (Nat → Int64)) (v_c_stack : (Nat → Int32)) (v_d_day : Int32) (v_d_water : (Nat → Int32)) (v_d_salt : (Nat → Int64)) (v_d_seen : (Nat → Int32)) (v_d_took : (Nat → Int32)) (v_d_dryDays : (Nat → Int32)) (v_d_firstDry : (Nat → Int32)) (v_d_total : (Nat → Int32)) (q1 : Int32) (q2 : Int32) (u0 : rg v_g_cells 0 12) (u1 : rg v_g_passes 0 20) (u2 : rg v_g_rivers 0 3) (u3 : rg v_g_villages 0 6) (u4 : rg v_g_rains 0 14) (u5 : ac v_g_passFrom v_g_passes 0 11) (u6 : ac v_g_passTo v_g_passes 0 11) (u7 : ac v_g_riverCell v_g_rivers 0 11) (u8 : ac v_g_villageCell v_g_villages 0 11) (u9 : al v_g_lawEnd 0 400) (u10 : rg v_p_pumpCell (-1) 11) (u11 : rg v_p_pumpFrom 0 13) (u12 : rg q1 0 5) (u13 : rg q2 1 200) : ok (f_X6_lackingDays v_g_cells v_g_passes v_g_rivers v_g_villages v_g_rains v_g_room v_g_passFrom v_g_passTo v_g_riverCell v_g_riverLevel v_g_riverSalt v_g_villageCell v_g_need v_g_lawEnd v_g_code v_p_pumpCell v_p_pumpTakes v_p_pumpFrom v_p_pumpTo v_p_wanting v_p_passWidth v_p_riverWidth v_p_rain v_c_pumped v_c_today v_c_lacked v_c_level v_c_water v_c_salt v_c_stack v_d_day v_d_water v_d_salt v_d_seen v_d_took v_d_dryDays v_d_firstDry v_d_total q1 q2) P_X6_lackingDays := by
  unfold f_X6_lackingDays
  exact s_X6_lackingDays_b5 v_g_cells v_g_passes v_g_rivers v_g_villages v_g_rains v_g_room v_g_passFrom v_g_passTo v_g_riverCell v_g_riverLevel v_g_riverSalt v_g_villageCell v_g_need v_g_lawEnd v_g_code v_p_pumpCell v_p_pumpTakes v_p_pumpFrom v_p_pumpTo v_p_wanting v_p_passWidth v_p_riverWidth v_p_rain u0 u1 u2 u3 u4 u5 u6 u7 u8 u9 u10 u11 _ v_c_pumped v_c_today v_c_lacked v_c_level v_c_water v_c_salt v_c_stack v_d_day v_d_water v_d_salt v_d_seen v_d_took v_d_dryDays v_d_firstDry v_d_total q1 q2 (0 : Int32) (0 : Int32) u12 u13 (rg_w (show rg (0 : Int32) 0 0 from ⟨by decide, by decide⟩) (by decide) (by decide)) (fu_up (a := 0) (h := 200) (rg_w (show rg (0 : Int32) 0 0 from ⟨by decide, by decide⟩) (by decide) (by decide)) (by decide))

abbrev P_X6_levelBehind  : Int32 × Int32 × Int32 × (Nat → Int32) × (Nat → Int32) × (Nat → Int32) × (Nat → Int64) × (Nat → Int32) × Int32 × (Nat → Int32) × (Nat → Int64) × (Nat → Int32) × (Nat → Int32) × (Nat → Int32) × (Nat → Int32) × (Nat → Int32) → Prop := (fun o : Int32 × Int32 × Int32 × (Nat → Int32) × (Nat → Int32) × (Nat → Int32) × (Nat → Int64) × (Nat → Int32) × Int32 × (Nat → Int32) × (Nat → Int64) × (Nat → Int32) × (Nat → Int32) × (Nat → Int32) × (Nat → Int32) × (Nat → Int32) => True)
set_option maxRecDepth 100000 in
set_option maxHeartbeats 2000000 in
theorem s_X6_levelBehind_b2  (v_g_cells : Int32) (v_g_passes : Int32) (v_g_rivers : Int32) (v_g_villages : Int32) (v_g_rains : Int32) (v_g_room : (Nat → Int32)) (v_g_passFrom : (Nat → Int32)) (v_g_passTo : (Nat → Int32)) (v_g_riverCell : (Nat → Int32)) (v_g_riverLevel : (Nat → Int32)) (v_g_riverSalt : (Nat → Int32)) (v_g_villageCell : (Nat → Int32)) (v_g_need : (Nat → Int32)) (v_g_lawEnd : (Nat → Int32)) (v_g_code : (Nat → Int32)) (v_p_pumpCell : Int32) (v_p_pumpTakes : Int32) (v_p_pumpFrom : Int32) (v_p_pumpTo : Int32) (v_p_wanting : (Nat → Int32)) (v_p_passWidth : (Nat → Int32)) (v_p_riverWidth : (Nat → Int32)) (v_p_rain : (Nat → Int32)) (u0 : rg v_g_cells 0 12) (u1 : rg v_g_passes 0 20) (u2 : rg v_g_rivers 0 3) (u3 : rg v_g_villages 0 6) (u4 : rg v_g_rains 0 14) (u5 : ac v_g_passFrom v_g_passes 0 11) (u6 : ac v_g_passTo v_g_passes 0 11) (u7 : ac v_g_riverCell v_g_rivers 0 11) (u8 : ac v_g_villageCell v_g_villages 0 11) (u9 : al v_g_lawEnd 0 400) (u10 : rg v_p_pumpCell (-1) 11) (u11 : rg v_p_pumpFrom 0 13) : ∀ (n : Nat) (v_c_pumped : Int32) (v_c_today : Int32) (v_c_lacked : (Nat → Int32)) (v_c_level : (Nat → Int32)) (v_c_water : (Nat → Int32)) (v_c_salt : (Nat → Int64)) (v_c_stack : (Nat → Int32)) (v_d_day : Int32) (v_d_water : (Nat → Int32)) (v_d_salt : (Nat → Int64)) (v_d_seen : (Nat → Int32)) (v_d_took : (Nat → Int32)) (v_d_dryDays : (Nat → Int32)) (v_d_firstDry : (Nat → Int32)) (v_d_total : (Nat → Int32)) (x1 : Int32) (x2 : Int32) (x3 : Int32) (u12 : rg x1 0 11) (u13 : rg x2 1 200) (u14 : rg x3 0 200)  (hm : (200 - x3.toInt).toNat < n), ok (f_X6_levelBehind_b2 v_g_cells v_g_passes v_g_rivers v_g_villages v_g_rains v_g_room v_g_passFrom v_g_passTo v_g_riverCell v_g_riverLevel v_g_riverSalt v_g_villageCell v_g_need v_g_lawEnd v_g_code v_p_pumpCell v_p_pumpTakes v_p_pumpFrom v_p_pumpTo v_p_wanting v_p_passWidth v_p_riverWidth v_p_rain n v_c_pumped v_c_today v_c_lacked v_c_level v_c_water v_c_salt v_c_stack v_d_day v_d_water v_d_salt v_d_seen v_d_took v_d_dryDays v_d_firstDry v_d_total x1 x2 x3) P_X6_levelBehind := by
  intro n
  induction n with
  | zero =>
    intro v_c_pumped v_c_today v_c_lacked v_c_level v_c_water v_c_salt v_c_stack v_d_day v_d_water v_d_salt v_d_seen v_d_took v_d_dryDays v_d_firstDry v_d_total x1 x2 x3 u12 u13 u14 hm
    exact absurd hm (Nat.not_lt_zero _)
  | succ n ih =>
    intro v_c_pumped v_c_today v_c_lacked v_c_level v_c_water v_c_salt v_c_stack v_d_day v_d_water v_d_salt v_d_seen v_d_took v_d_dryDays v_d_firstDry v_d_total x1 x2 x3 u12 u13 u14 hm
    show ok (f_X6_levelBehind_b2_st (f_X6_levelBehind_b2 v_g_cells v_g_passes v_g_rivers v_g_villages v_g_rains v_g_room v_g_passFrom v_g_passTo v_g_riverCell v_g_riverLevel v_g_riverSalt v_g_villageCell v_g_need v_g_lawEnd v_g_code v_p_pumpCell v_p_pumpTakes v_p_pumpFrom v_p_pumpTo v_p_wanting v_p_passWidth v_p_riverWidth v_p_rain n) v_g_cells v_g_passes v_g_rivers v_g_villages v_g_rains v_g_room v_g_passFrom v_g_passTo v_g_riverCell v_g_riverLevel v_g_riverSalt v_g_villageCell v_g_need v_g_lawEnd v_g_code v_p_pumpCell v_p_pumpTakes v_p_pumpFrom v_p_pumpTo v_p_wanting v_p_passWidth v_p_riverWidth v_p_rain v_c_pumped v_c_today v_c_lacked v_c_level v_c_water v_c_salt v_c_stack v_d_day v_d_water v_d_salt v_d_seen v_d_took v_d_dryDays v_d_firstDry v_d_total x1 x2 x3) P_X6_levelBehind
    unfold f_X6_levelBehind_b2_st
    refine ok_if (fun c1 => ?_) (fun c1 => ?_)
    · have w2 : rg x3 1 200 := rg_ley (ti_le c1) u13 u14
      refine ok_ck (inb_rg u12 (by decide) (by decide)) ?_
      refine ok_bd (s_X3_levelOf v_g_room x1 (v_d_water x1.toNatClampNeg) u12) (fun o_3 p3 => ?_)
      exact ok_some trivial
    · have w4 : rg x3 0 199 := rg_ltx 199 (ti_nle c1) u14 u13 (by decide)
      refine ok_bd15 (s_X0_oneDay v_g_cells v_g_passes v_g_rivers v_g_villages v_g_rains v_g_room v_g_passFrom v_g_passTo v_g_riverCell v_g_riverLevel v_g_riverSalt v_g_villageCell v_g_need v_g_lawEnd v_g_code v_p_pumpCell v_p_pumpTakes v_p_pumpFrom v_p_pumpTo v_p_wanting v_p_passWidth v_p_riverWidth v_p_rain v_c_pumped v_c_today v_c_lacked v_c_level v_c_water v_c_salt v_c_stack v_d_day v_d_water v_d_salt v_d_seen v_d_took v_d_dryDays v_d_firstDry v_d_total u0 u1 u2 u3 u4 u5 u6 u7 u8 u9 u10 u11) (fun o_4_0 o_4_1 o_4_2 o_4_3 o_4_4 o_4_5 o_4_6 o_4_7 o_4_8 o_4_9 o_4_10 o_4_11 o_4_12 o_4_13 o_4_14 p5 => ?_)
      exact ih o_4_0 o_4_1 o_4_2 o_4_3 o_4_4 o_4_5 o_4_6 o_4_7 o_4_8 o_4_9 o_4_10 o_4_11 o_4_12 o_4_13 o_4_14 x1 x2 (x3 + (1 : Int32)) u12 u13 (rg_w (rg_add (e := 1) (f := 200) w4 (show rg (1 : Int32) 1 1 from ⟨by decide, by decide⟩) (by decide) (by decide) (by decide) (by decide)) (by decide) (by decide)) (ms_up (y := (x3 + (1 : Int32))) (a := 0) hm (lt_ad w4 (show rg (1 : Int32) 1 1 from ⟨by decide, by decide⟩) (by decide) (by decide) (by decide)) (rg_w (rg_add (e := 1) (f := 200) w4 (show rg (1 : Int32) 1 1 from ⟨by decide, by decide⟩) (by decide) (by decide) (by decide) (by decide)) (by decide) (by decide)))
set_option maxRecDepth 100000 in
set_option maxHeartbeats 2000000 in
theorem s_X6_levelBehind (v_g_cells : Int32) (v_g_passes : Int32) (v_g_rivers : Int32) (v_g_villages : Int32) (v_g_rains : Int32) (v_g_room : (Nat → Int32)) (v_g_passFrom : (Nat → Int32)) (v_g_passTo : (Nat → Int32)) (v_g_riverCell : (Nat → Int32)) (v_g_riverLevel : (Nat → Int32)) (v_g_riverSalt : (Nat → Int32)) (v_g_villageCell : (Nat → Int32)) (v_g_need : (Nat → Int32)) (v_g_lawEnd : (Nat → Int32)) (v_g_code : (Nat → Int32)) (v_p_pumpCell : Int32) (v_p_pumpTakes : Int32) (v_p_pumpFrom : Int32) (v_p_pumpTo : Int32) (v_p_wanting : (Nat → Int32)) (v_p_passWidth : (Nat → Int32)) (v_p_riverWidth : (Nat → Int32)) (v_p_rain : (Nat → Int32)) (v_c_pumped : Int32) (v_c_today : Int32) (v_c_lacked : (Nat → Int32)) (v_c_level : (Nat → Int32)) (v_c_water : (Nat → Int32)) (v_c_salt : (Nat → Int64)) (v_c_stack : (Nat → Int32)) (v_d_day : Int32) (v_d_water : (Nat → Int32)) (v_d_salt : (Nat → Int64)) (v_d_seen : (Nat → Int32)) (v_d_took : (Nat → Int32)) (v_d_dryDays : (Nat → Int32)) (v_d_firstDry : (Nat → Int32)) (v_d_total : (Nat → Int32)) (q1 : Int32) (q2 : Int32) (u0 : rg v_g_cells 0 12) (u1 : rg v_g_passes 0 20) (u2 : rg v_g_rivers 0 3) (u3 : rg v_g_villages 0 6) (u4 : rg v_g_rains 0 14) (u5 : ac v_g_passFrom v_g_passes 0 11) (u6 : ac v_g_passTo v_g_passes 0 11) (u7 : ac v_g_riverCell v_g_rivers 0 11) (u8 : ac v_g_villageCell v_g_villages 0 11) (u9 : al v_g_lawEnd 0 400) (u10 : rg v_p_pumpCell (-1) 11) (u11 : rg v_p_pumpFrom 0 13) (u12 : rg q1 0 11) (u13 : rg q2 1 200) : ok (f_X6_levelBehind v_g_cells v_g_passes v_g_rivers v_g_villages v_g_rains v_g_room v_g_passFrom v_g_passTo v_g_riverCell v_g_riverLevel v_g_riverSalt v_g_villageCell v_g_need v_g_lawEnd v_g_code v_p_pumpCell v_p_pumpTakes v_p_pumpFrom v_p_pumpTo v_p_wanting v_p_passWidth v_p_riverWidth v_p_rain v_c_pumped v_c_today v_c_lacked v_c_level v_c_water v_c_salt v_c_stack v_d_day v_d_water v_d_salt v_d_seen v_d_took v_d_dryDays v_d_firstDry v_d_total q1 q2) P_X6_levelBehind := by
  unfold f_X6_levelBehind
  exact s_X6_levelBehind_b2 v_g_cells v_g_passes v_g_rivers v_g_villages v_g_rains v_g_room v_g_passFrom v_g_passTo v_g_riverCell v_g_riverLevel v_g_riverSalt v_g_villageCell v_g_need v_g_lawEnd v_g_code v_p_pumpCell v_p_pumpTakes v_p_pumpFrom v_p_pumpTo v_p_wanting v_p_passWidth v_p_riverWidth v_p_rain u0 u1 u2 u3 u4 u5 u6 u7 u8 u9 u10 u11 _ v_c_pumped v_c_today v_c_lacked v_c_level v_c_water v_c_salt v_c_stack v_d_day v_d_water v_d_salt v_d_seen v_d_took v_d_dryDays v_d_firstDry v_d_total q1 q2 (0 : Int32) u12 u13 (rg_w (show rg (0 : Int32) 0 0 from ⟨by decide, by decide⟩) (by decide) (by decide)) (fu_up (a := 0) (h := 200) (rg_w (show rg (0 : Int32) 0 0 from ⟨by decide, by decide⟩) (by decide) (by decide)) (by decide))
