abbrev P_X6_pour  : Int32 × (Nat → Int32) → Prop := (fun o : Int32 × (Nat → Int32) => rg o.1 0 1 ∧ True)
set_option maxRecDepth 100000 in
set_option maxHeartbeats 2000000 in
theorem s_X6_pour (v_g_cells : Int32) (v_n_water : (Nat → Int32)) (q1 : Int32) (q2 : Int32) (u0 : rg v_g_cells 0 12) : ok (f_X6_pour v_g_cells v_n_water q1 q2) P_X6_pour := by
  unfold f_X6_pour
  refine ok_bd (s_X6_isCell v_g_cells q1 u0) (fun o_1 p1 => ?_)
  have g2 : rg o_1 0 1 := p1.1
  refine ok_if (fun c4 => ?_) (fun c4 => ?_)
  · have w5 : rg o_1 0 0 := rg_lex (ti_eq c4) (rg_ley (ti_eq2 c4) (show rg (0 : Int32) 0 0 from ⟨by decide, by decide⟩) g2) (show rg (0 : Int32) 0 0 from ⟨by decide, by decide⟩)
    exact ok_some ⟨(rg_w (show rg (0 : Int32) 0 0 from ⟨by decide, by decide⟩) (by decide) (by decide)), trivial⟩
  · obtain ⟨i6_0, i6_1⟩ := p1.2.1.resolve_left c4
    have w7 : rg q1 0 11 := rg_ltx 11 i6_1 i6_0 u0 (by decide)
    have w8 : rg v_g_cells 1 12 := rg_lty 1 i6_1 i6_0 u0 (by decide)
    have w9 : rg o_1 1 1 := rg_nel 1 c4 g2 (show rg (0 : Int32) 0 0 from ⟨by decide, by decide⟩) (by decide)
    refine ok_if (fun c10 => ?_) (fun c10 => ?_)
    · have w11 : rg q2 (-2147483648) (-1) := rg_ltx (-1) (ti_lt c10) (rg_any q2) (show rg (0 : Int32) 0 0 from ⟨by decide, by decide⟩) (by decide)
      exact ok_some ⟨(rg_w (show rg (0 : Int32) 0 0 from ⟨by decide, by decide⟩) (by decide) (by decide)), trivial⟩
    · have w12 : rg q2 0 2147483647 := rg_ley (ti_nlt c10) (show rg (0 : Int32) 0 0 from ⟨by decide, by decide⟩) (rg_any q2)
      refine ok_if (fun c13 => ?_) (fun c13 => ?_)
      · have w14 : rg q2 0 9999 := rg_lex (ti_le c13) w12 (show rg (9999 : Int32) 9999 9999 from ⟨by decide, by decide⟩)
        refine ok_ck (inb_rg w7 (by decide) (by decide)) ?_
        refine ok_nm (fun a_6 ea_6 => ?_)
        exact ok_some ⟨(rg_w (show rg (1 : Int32) 1 1 from ⟨by decide, by decide⟩) (by decide) (by decide)), trivial⟩
      · have w15 : rg q2 10000 2147483647 := rg_lty 10000 (ti_nle c13) (show rg (9999 : Int32) 9999 9999 from ⟨by decide, by decide⟩) w12 (by decide)
        exact ok_some ⟨(rg_w (show rg (0 : Int32) 0 0 from ⟨by decide, by decide⟩) (by decide) (by decide)), trivial⟩

abbrev P_X6_hold  : Int32 × (Nat → Int32) × Int32 × (Nat → Int32) × (Nat → Int64) × (Nat → Int32) × (Nat → Int32) × (Nat → Int32) × (Nat → Int32) × (Nat → Int32) × Int32 × (Nat → Int32) × (Nat → Int64) × (Nat → Int32) × (Nat → Int32) × (Nat → Int32) × (Nat → Int32) × (Nat → Int32) × Int32 × (Nat → Int32) × (Nat → Int64) × (Nat → Int32) × (Nat → Int32) × (Nat → Int32) × (Nat → Int32) × (Nat → Int32) → Prop := (fun o : Int32 × (Nat → Int32) × Int32 × (Nat → Int32) × (Nat → Int64) × (Nat → Int32) × (Nat → Int32) × (Nat → Int32) × (Nat → Int32) × (Nat → Int32) × Int32 × (Nat → Int32) × (Nat → Int64) × (Nat → Int32) × (Nat → Int32) × (Nat → Int32) × (Nat → Int32) × (Nat → Int32) × Int32 × (Nat → Int32) × (Nat → Int64) × (Nat → Int32) × (Nat → Int32) × (Nat → Int32) × (Nat → Int32) × (Nat → Int32) => rg o.1 0 1 ∧ True)
set_option maxRecDepth 100000 in
set_option maxHeartbeats 2000000 in
theorem s_X6_hold (v_n_day : Int32) (v_n_water : (Nat → Int32)) (v_n_salt : (Nat → Int64)) (v_n_seen : (Nat → Int32)) (v_n_took : (Nat → Int32)) (v_n_dryDays : (Nat → Int32)) (v_n_firstDry : (Nat → Int32)) (v_n_total : (Nat → Int32)) (v_w_held : (Nat → Int32)) (v_s0_day : Int32) (v_s0_water : (Nat → Int32)) (v_s0_salt : (Nat → Int64)) (v_s0_seen : (Nat → Int32)) (v_s0_took : (Nat → Int32)) (v_s0_dryDays : (Nat → Int32)) (v_s0_firstDry : (Nat → Int32)) (v_s0_total : (Nat → Int32)) (v_s1_day : Int32) (v_s1_water : (Nat → Int32)) (v_s1_salt : (Nat → Int64)) (v_s1_seen : (Nat → Int32)) (v_s1_took : (Nat → Int32)) (v_s1_dryDays : (Nat → Int32)) (v_s1_firstDry : (Nat → Int32)) (v_s1_total : (Nat → Int32)) (v_s2_day : Int32) (v_s2_water : (Nat → Int32)) (v_s2_salt : (Nat → Int64)) (v_s2_seen : (Nat → Int32)) (v_s2_took : (Nat → Int32)) (v_s2_dryDays : (Nat → Int32)) (v_s2_firstDry : (Nat → Int32)) (v_s2_total : (Nat → Int32)) (q1 : Int32)  : ok (f_X6_hold v_n_day v_n_water v_n_salt v_n_seen v_n_took v_n_dryDays v_n_firstDry v_n_total v_w_held v_s0_day v_s0_water v_s0_salt v_s0_seen v_s0_took v_s0_dryDays v_s0_firstDry v_s0_total v_s1_day v_s1_water v_s1_salt v_s1_seen v_s1_took v_s1_dryDays v_s1_firstDry v_s1_total v_s2_day v_s2_water v_s2_salt v_s2_seen v_s2_took v_s2_dryDays v_s2_firstDry v_s2_total q1) P_X6_hold := by
  unfold f_X6_hold
  refine ok_bd (s_X6_isSlot q1) (fun o_1 p1 => ?_)
  have g2 : rg o_1 0 1 := p1.1
  refine ok_if (fun c4 => ?_) (fun c4 => ?_)
  · have w5 : rg o_1 0 0 := rg_lex (ti_eq c4) (rg_ley (ti_eq2 c4) (show rg (0 : Int32) 0 0 from ⟨by decide, by decide⟩) g2) (show rg (0 : Int32) 0 0 from ⟨by decide, by decide⟩)
    exact ok_some ⟨(rg_w (show rg (0 : Int32) 0 0 from ⟨by decide, by decide⟩) (by decide) (by decide)), trivial⟩
  · obtain i6_0 := p1.2.1.resolve_left c4
    have w7 : rg o_1 1 1 := rg_nel 1 c4 g2 (show rg (0 : Int32) 0 0 from ⟨by decide, by decide⟩) (by decide)
    refine ok_ck (inb_rg i6_0 (by decide) (by decide)) ?_
    refine ok_if (fun c8 => ?_) (fun c8 => ?_)
    · have w9 : rg q1 0 0 := rg_lex (ti_eq c8) (rg_ley (ti_eq2 c8) (show rg (0 : Int32) 0 0 from ⟨by decide, by decide⟩) i6_0) (show rg (0 : Int32) 0 0 from ⟨by decide, by decide⟩)
      refine ok_bd8 (s_X1_become v_n_day v_n_water v_n_salt v_n_seen v_n_took v_n_dryDays v_n_firstDry v_n_total v_s0_day v_s0_water v_s0_salt v_s0_seen v_s0_took v_s0_dryDays v_s0_firstDry v_s0_total) (fun o_5_0 o_5_1 o_5_2 o_5_3 o_5_4 o_5_5 o_5_6 o_5_7 p10 => ?_)
      refine ok_ck (inb_rg w9 (by decide) (by decide)) ?_
      refine ok_nm (fun a_7 ea_7 => ?_)
      exact ok_some ⟨(rg_w (show rg (1 : Int32) 1 1 from ⟨by decide, by decide⟩) (by decide) (by decide)), trivial⟩
    · have w11 : rg q1 1 2 := rg_nel 1 c8 i6_0 (show rg (0 : Int32) 0 0 from ⟨by decide, by decide⟩) (by decide)
      refine ok_if (fun c12 => ?_) (fun c12 => ?_)
      · have w13 : rg q1 1 1 := rg_lex (ti_eq c12) (rg_ley (ti_eq2 c12) (show rg (1 : Int32) 1 1 from ⟨by decide, by decide⟩) w11) (show rg (1 : Int32) 1 1 from ⟨by decide, by decide⟩)
        refine ok_bd8 (s_X1_become v_n_day v_n_water v_n_salt v_n_seen v_n_took v_n_dryDays v_n_firstDry v_n_total v_s1_day v_s1_water v_s1_salt v_s1_seen v_s1_took v_s1_dryDays v_s1_firstDry v_s1_total) (fun o_9_0 o_9_1 o_9_2 o_9_3 o_9_4 o_9_5 o_9_6 o_9_7 p14 => ?_)
        refine ok_ck (inb_rg w13 (by decide) (by decide)) ?_
        refine ok_nm (fun a_11 ea_11 => ?_)
        exact ok_some ⟨(rg_w (show rg (1 : Int32) 1 1 from ⟨by decide, by decide⟩) (by decide) (by decide)), trivial⟩
      · have w15 : rg q1 2 2 := rg_nel 2 c12 w11 (show rg (1 : Int32) 1 1 from ⟨by decide, by decide⟩) (by decide)
        refine ok_if (fun c16 => ?_) (fun c16 => ?_)
        · refine ok_bd8 (s_X1_become v_n_day v_n_water v_n_salt v_n_seen v_n_took v_n_dryDays v_n_firstDry v_n_total v_s2_day v_s2_water v_s2_salt v_s2_seen v_s2_took v_s2_dryDays v_s2_firstDry v_s2_total) (fun o_13_0 o_13_1 o_13_2 o_13_3 o_13_4 o_13_5 o_13_6 o_13_7 p17 => ?_)
          refine ok_ck (inb_rg w15 (by decide) (by decide)) ?_
          refine ok_nm (fun a_15 ea_15 => ?_)
          exact ok_some ⟨(rg_w (show rg (1 : Int32) 1 1 from ⟨by decide, by decide⟩) (by decide) (by decide)), trivial⟩
        · have w18 : rg q1 3 2 := rg_nel 3 c16 w15 (show rg (2 : Int32) 2 2 from ⟨by decide, by decide⟩) (by decide)
          exact rg_no w18 (by decide)

abbrev P_X6_restore  : Int32 × Int32 × (Nat → Int32) × (Nat → Int64) × (Nat → Int32) × (Nat → Int32) × (Nat → Int32) × (Nat → Int32) × (Nat → Int32) → Prop := (fun o : Int32 × Int32 × (Nat → Int32) × (Nat → Int64) × (Nat → Int32) × (Nat → Int32) × (Nat → Int32) × (Nat → Int32) × (Nat → Int32) => rg o.1 0 1 ∧ True)
set_option maxRecDepth 100000 in
set_option maxHeartbeats 2000000 in
theorem s_X6_restore (v_w_held : (Nat → Int32)) (v_s0_day : Int32) (v_s0_water : (Nat → Int32)) (v_s0_salt : (Nat → Int64)) (v_s0_seen : (Nat → Int32)) (v_s0_took : (Nat → Int32)) (v_s0_dryDays : (Nat → Int32)) (v_s0_firstDry : (Nat → Int32)) (v_s0_total : (Nat → Int32)) (v_s1_day : Int32) (v_s1_water : (Nat → Int32)) (v_s1_salt : (Nat → Int64)) (v_s1_seen : (Nat → Int32)) (v_s1_took : (Nat → Int32)) (v_s1_dryDays : (Nat → Int32)) (v_s1_firstDry : (Nat → Int32)) (v_s1_total : (Nat → Int32)) (v_s2_day : Int32) (v_s2_water : (Nat → Int32)) (v_s2_salt : (Nat → Int64)) (v_s2_seen : (Nat → Int32)) (v_s2_took : (Nat → Int32)) (v_s2_dryDays : (Nat → Int32)) (v_s2_firstDry : (Nat → Int32)) (v_s2_total : (Nat → Int32)) (v_n_day : Int32) (v_n_water : (Nat → Int32)) (v_n_salt : (Nat → Int64)) (v_n_seen : (Nat → Int32)) (v_n_took : (Nat → Int32)) (v_n_dryDays : (Nat → Int32)) (v_n_firstDry : (Nat → Int32)) (v_n_total : (Nat → Int32)) (q1 : Int32)  : ok (f_X6_restore v_w_held v_s0_day v_s0_water v_s0_salt v_s0_seen v_s0_took v_s0_dryDays v_s0_firstDry v_s0_total v_s1_day v_s1_water v_s1_salt v_s1_seen v_s1_took v_s1_dryDays v_s1_firstDry v_s1_total v_s2_day v_s2_water v_s2_salt v_s2_seen v_s2_took v_s2_dryDays v_s2_firstDry v_s2_total v_n_day v_n_water v_n_salt v_n_seen v_n_took v_n_dryDays v_n_firstDry v_n_total q1) P_X6_restore := by
  unfold f_X6_restore
  refine ok_bd (s_X6_isSlot q1) (fun o_1 p1 => ?_)
  have g2 : rg o_1 0 1 := p1.1
  refine ok_if (fun c4 => ?_) (fun c4 => ?_)
  · have w5 : rg o_1 0 0 := rg_lex (ti_eq c4) (rg_ley (ti_eq2 c4) (show rg (0 : Int32) 0 0 from ⟨by decide, by decide⟩) g2) (show rg (0 : Int32) 0 0 from ⟨by decide, by decide⟩)
    exact ok_some ⟨(rg_w (show rg (0 : Int32) 0 0 from ⟨by decide, by decide⟩) (by decide) (by decide)), trivial⟩
  · obtain i6_0 := p1.2.1.resolve_left c4
    have w7 : rg o_1 1 1 := rg_nel 1 c4 g2 (show rg (0 : Int32) 0 0 from ⟨by decide, by decide⟩) (by decide)
    refine ok_ck (inb_rg i6_0 (by decide) (by decide)) ?_
    refine ok_if (fun c8 => ?_) (fun c8 => ?_)
    · have w9 : rg (v_w_held q1.toNatClampNeg) 0 0 := rg_lex (ti_eq c8) (rg_ley (ti_eq2 c8) (show rg (0 : Int32) 0 0 from ⟨by decide, by decide⟩) (rg_any (v_w_held q1.toNatClampNeg))) (show rg (0 : Int32) 0 0 from ⟨by decide, by decide⟩)
      exact ok_some ⟨(rg_w (show rg (0 : Int32) 0 0 from ⟨by decide, by decide⟩) (by decide) (by decide)), trivial⟩
    · refine ok_ck (inb_rg i6_0 (by decide) (by decide)) ?_
      refine ok_if (fun c10 => ?_) (fun c10 => ?_)
      · have w11 : rg q1 0 0 := rg_lex (ti_eq c10) (rg_ley (ti_eq2 c10) (show rg (0 : Int32) 0 0 from ⟨by decide, by decide⟩) i6_0) (show rg (0 : Int32) 0 0 from ⟨by decide, by decide⟩)
        refine ok_bd8 (s_X1_become v_s0_day v_s0_water v_s0_salt v_s0_seen v_s0_took v_s0_dryDays v_s0_firstDry v_s0_total v_n_day v_n_water v_n_salt v_n_seen v_n_took v_n_dryDays v_n_firstDry v_n_total) (fun o_7_0 o_7_1 o_7_2 o_7_3 o_7_4 o_7_5 o_7_6 o_7_7 p12 => ?_)
        exact ok_some ⟨(rg_w (show rg (1 : Int32) 1 1 from ⟨by decide, by decide⟩) (by decide) (by decide)), trivial⟩
      · have w13 : rg q1 1 2 := rg_nel 1 c10 i6_0 (show rg (0 : Int32) 0 0 from ⟨by decide, by decide⟩) (by decide)
        refine ok_if (fun c14 => ?_) (fun c14 => ?_)
        · have w15 : rg q1 1 1 := rg_lex (ti_eq c14) (rg_ley (ti_eq2 c14) (show rg (1 : Int32) 1 1 from ⟨by decide, by decide⟩) w13) (show rg (1 : Int32) 1 1 from ⟨by decide, by decide⟩)
          refine ok_bd8 (s_X1_become v_s1_day v_s1_water v_s1_salt v_s1_seen v_s1_took v_s1_dryDays v_s1_firstDry v_s1_total v_n_day v_n_water v_n_salt v_n_seen v_n_took v_n_dryDays v_n_firstDry v_n_total) (fun o_9_0 o_9_1 o_9_2 o_9_3 o_9_4 o_9_5 o_9_6 o_9_7 p16 => ?_)
          exact ok_some ⟨(rg_w (show rg (1 : Int32) 1 1 from ⟨by decide, by decide⟩) (by decide) (by decide)), trivial⟩
        · have w17 : rg q1 2 2 := rg_nel 2 c14 w13 (show rg (1 : Int32) 1 1 from ⟨by decide, by decide⟩) (by decide)
          refine ok_if (fun c18 => ?_) (fun c18 => ?_)
          · refine ok_bd8 (s_X1_become v_s2_day v_s2_water v_s2_salt v_s2_seen v_s2_took v_s2_dryDays v_s2_firstDry v_s2_total v_n_day v_n_water v_n_salt v_n_seen v_n_took v_n_dryDays v_n_firstDry v_n_total) (fun o_11_0 o_11_1 o_11_2 o_11_3 o_11_4 o_11_5 o_11_6 o_11_7 p19 => ?_)
            exact ok_some ⟨(rg_w (show rg (1 : Int32) 1 1 from ⟨by decide, by decide⟩) (by decide) (by decide)), trivial⟩
          · have w20 : rg q1 3 2 := rg_nel 3 c18 w17 (show rg (2 : Int32) 2 2 from ⟨by decide, by decide⟩) (by decide)
            exact rg_no w20 (by decide)

abbrev P_X6_flow  : Int32 × Int32 × (Nat → Int32) × (Nat → Int32) × (Nat → Int32) × (Nat → Int32) × Int32 × (Nat → Int32) × (Nat → Int32) × (Nat → Int32) × (Nat → Int64) × (Nat → Int32) × Int32 × (Nat → Int32) × (Nat → Int64) × (Nat → Int32) × (Nat → Int32) × (Nat → Int32) × (Nat → Int32) × (Nat → Int32) → Prop := (fun o : Int32 × Int32 × (Nat → Int32) × (Nat → Int32) × (Nat → Int32) × (Nat → Int32) × Int32 × (Nat → Int32) × (Nat → Int32) × (Nat → Int32) × (Nat → Int64) × (Nat → Int32) × Int32 × (Nat → Int32) × (Nat → Int64) × (Nat → Int32) × (Nat → Int32) × (Nat → Int32) × (Nat → Int32) × (Nat → Int32) => rg o.2.1 (-1) 11 ∧ True)
set_option maxRecDepth 100000 in
set_option maxHeartbeats 2000000 in
theorem s_X6_flow (v_g_cells : Int32) (v_g_passes : Int32) (v_g_rivers : Int32) (v_g_villages : Int32) (v_g_rains : Int32) (v_g_room : (Nat → Int32)) (v_g_passFrom : (Nat → Int32)) (v_g_passTo : (Nat → Int32)) (v_g_passWidth : (Nat → Int32)) (v_g_riverCell : (Nat → Int32)) (v_g_riverLevel : (Nat → Int32)) (v_g_riverWidth : (Nat → Int32)) (v_g_villageCell : (Nat → Int32)) (v_g_need : (Nat → Int32)) (v_g_lawEnd : (Nat → Int32)) (v_g_code : (Nat → Int32)) (v_g_rain : (Nat → Int32)) (v_n_day : Int32) (v_n_water : (Nat → Int32)) (v_n_salt : (Nat → Int64)) (v_n_seen : (Nat → Int32)) (v_n_took : (Nat → Int32)) (v_n_dryDays : (Nat → Int32)) (v_n_firstDry : (Nat → Int32)) (v_n_total : (Nat → Int32)) (v_p_pumpCell : Int32) (v_p_wanting : (Nat → Int32)) (v_p_passWidth : (Nat → Int32)) (v_p_riverWidth : (Nat → Int32)) (v_p_rain : (Nat → Int32)) (v_c_today : Int32) (v_c_lacked : (Nat → Int32)) (v_c_level : (Nat → Int32)) (v_c_water : (Nat → Int32)) (v_c_salt : (Nat → Int64)) (v_c_stack : (Nat → Int32)) (v_d_day : Int32) (v_d_water : (Nat → Int32)) (v_d_salt : (Nat → Int64)) (v_d_seen : (Nat → Int32)) (v_d_took : (Nat → Int32)) (v_d_dryDays : (Nat → Int32)) (v_d_firstDry : (Nat → Int32)) (v_d_total : (Nat → Int32)) (q1 : Int32) (q2 : Int32) (u0 : rg v_g_cells 0 12) (u1 : rg v_g_passes 0 20) (u2 : rg v_g_rivers 0 3) (u3 : rg v_g_villages 0 6) (u4 : rg v_g_rains 0 14) (u5 : ac v_g_passFrom v_g_passes 0 11) (u6 : ac v_g_passTo v_g_passes 0 11) (u7 : ac v_g_riverCell v_g_rivers 0 11) (u8 : ac v_g_villageCell v_g_villages 0 11) (u9 : al v_g_lawEnd 0 400) (u10 : rg v_p_pumpCell (-1) 11) : ok (f_X6_flow v_g_cells v_g_passes v_g_rivers v_g_villages v_g_rains v_g_room v_g_passFrom v_g_passTo v_g_passWidth v_g_riverCell v_g_riverLevel v_g_riverWidth v_g_villageCell v_g_need v_g_lawEnd v_g_code v_g_rain v_n_day v_n_water v_n_salt v_n_seen v_n_took v_n_dryDays v_n_firstDry v_n_total v_p_pumpCell v_p_wanting v_p_passWidth v_p_riverWidth v_p_rain v_c_today v_c_lacked v_c_level v_c_water v_c_salt v_c_stack v_d_day v_d_water v_d_salt v_d_seen v_d_took v_d_dryDays v_d_firstDry v_d_total q1 q2) P_X6_flow := by
  unfold f_X6_flow
  refine ok_if (fun c1 => ?_) (fun c1 => ?_)
  · have w2 : rg q1 (-2147483648) (-1) := rg_ltx (-1) (ti_lt c1) (rg_any q1) (show rg (0 : Int32) 0 0 from ⟨by decide, by decide⟩) (by decide)
    exact ok_some ⟨u10, trivial⟩
  · have w3 : rg q1 0 2147483647 := rg_ley (ti_nlt c1) (show rg (0 : Int32) 0 0 from ⟨by decide, by decide⟩) (rg_any q1)
    refine ok_if (fun c4 => ?_) (fun c4 => ?_)
    · have w5 : rg q2 0 0 := rg_lex (ti_eq c4) (rg_ley (ti_eq2 c4) (show rg (0 : Int32) 0 0 from ⟨by decide, by decide⟩) (rg_any q2)) (show rg (0 : Int32) 0 0 from ⟨by decide, by decide⟩)
      unfold f_X6_flow_b26
      refine ok_if (fun c6 => ?_) (fun c6 => ?_)
      · have w7 : rg q1 0 19 := rg_ltx 19 (ti_lt c6) w3 u1 (by decide)
        have w8 : rg v_g_passes 1 20 := rg_lty 1 (ti_lt c6) w3 u1 (by decide)
        refine ok_bd13 (s_X6_tryAsTold v_g_passWidth v_g_riverWidth v_g_rain v_n_day v_n_water v_n_salt v_n_seen v_n_took v_n_dryDays v_n_firstDry v_n_total v_p_pumpCell v_p_wanting v_p_passWidth v_p_riverWidth v_p_rain v_d_day v_d_water v_d_salt v_d_seen v_d_took v_d_dryDays v_d_firstDry v_d_total u10) (fun o_2_0_i26 o_2_1_i26 o_2_2_i26 o_2_3_i26 o_2_4_i26 o_2_5_i26 o_2_6_i26 o_2_7_i26 o_2_8_i26 o_2_9_i26 o_2_10_i26 o_2_11_i26 o_2_12_i26 p9 => ?_)
        have g10 : rg o_2_0_i26 (-1) 11 := p9.1
        refine ok_bd3 (s_X0_morning v_g_cells v_g_rains v_g_room o_2_4_i26 o_2_5_i26 v_c_today o_2_6_i26 o_2_8_i26 u0 u4) (fun o_3_0_i26 o_3_1_i26 o_3_2_i26 p11 => ?_)
        refine ok_bd8 (s_X0_takeTurns o_3_0_i26 v_g_villages v_g_villageCell v_g_need v_g_lawEnd v_g_code o_2_1_i26 o_2_5_i26 o_3_2_i26 v_c_lacked v_c_stack o_3_1_i26 o_2_7_i26 o_2_9_i26 o_2_10_i26 o_2_11_i26 o_2_12_i26 u3 u8 u9) (fun o_4_0_i26 o_4_1_i26 o_4_2_i26 o_4_3_i26 o_4_4_i26 o_4_5_i26 o_4_6_i26 o_4_7_i26 p12 => ?_)
        refine ok_bd3 (s_X0_lookAtLevels v_g_cells v_g_room o_4_2_i26 o_4_3_i26 v_c_level v_c_water v_c_salt u0) (fun o_5_0_i26 o_5_1_i26 o_5_2_i26 p13 => ?_)
        refine ok_if (fun c14 => ?_) (fun c14 => ?_)
        · refine ok_bd (s_X0_passFlow o_5_0_i26 v_g_passFrom v_g_passTo o_2_2_i26 q1 w7 (u5 _ (cl_lt w7 (by decide) (ti_lt c6))) (u6 _ (cl_lt w7 (by decide) (ti_lt c6)))) (fun o_7_i26 p15 => ?_)
          exact ok_some ⟨g10, trivial⟩
        · have w16 : rg q2 1 0 := rg_nel 1 c14 w5 (show rg (0 : Int32) 0 0 from ⟨by decide, by decide⟩) (by decide)
          exact rg_no w16 (by decide)
      · exact ok_some ⟨u10, trivial⟩
    · unfold f_X6_flow_b26
      refine ok_if (fun c17 => ?_) (fun c17 => ?_)
      · have w18 : rg q1 0 2 := rg_ltx 2 (ti_lt c17) w3 u2 (by decide)
        have w19 : rg v_g_rivers 1 3 := rg_lty 1 (ti_lt c17) w3 u2 (by decide)
        refine ok_bd13 (s_X6_tryAsTold v_g_passWidth v_g_riverWidth v_g_rain v_n_day v_n_water v_n_salt v_n_seen v_n_took v_n_dryDays v_n_firstDry v_n_total v_p_pumpCell v_p_wanting v_p_passWidth v_p_riverWidth v_p_rain v_d_day v_d_water v_d_salt v_d_seen v_d_took v_d_dryDays v_d_firstDry v_d_total u10) (fun o_2_0_i26 o_2_1_i26 o_2_2_i26 o_2_3_i26 o_2_4_i26 o_2_5_i26 o_2_6_i26 o_2_7_i26 o_2_8_i26 o_2_9_i26 o_2_10_i26 o_2_11_i26 o_2_12_i26 p20 => ?_)
        have g21 : rg o_2_0_i26 (-1) 11 := p20.1
        refine ok_bd3 (s_X0_morning v_g_cells v_g_rains v_g_room o_2_4_i26 o_2_5_i26 v_c_today o_2_6_i26 o_2_8_i26 u0 u4) (fun o_3_0_i26 o_3_1_i26 o_3_2_i26 p22 => ?_)
        refine ok_bd8 (s_X0_takeTurns o_3_0_i26 v_g_villages v_g_villageCell v_g_need v_g_lawEnd v_g_code o_2_1_i26 o_2_5_i26 o_3_2_i26 v_c_lacked v_c_stack o_3_1_i26 o_2_7_i26 o_2_9_i26 o_2_10_i26 o_2_11_i26 o_2_12_i26 u3 u8 u9) (fun o_4_0_i26 o_4_1_i26 o_4_2_i26 o_4_3_i26 o_4_4_i26 o_4_5_i26 o_4_6_i26 o_4_7_i26 p23 => ?_)
        refine ok_bd3 (s_X0_lookAtLevels v_g_cells v_g_room o_4_2_i26 o_4_3_i26 v_c_level v_c_water v_c_salt u0) (fun o_5_0_i26 o_5_1_i26 o_5_2_i26 p24 => ?_)
        refine ok_if (fun c25 => ?_) (fun c25 => ?_)
        · have w26 : rg q2 0 0 := rg_lex (ti_eq c25) (rg_ley (ti_eq2 c25) (show rg (0 : Int32) 0 0 from ⟨by decide, by decide⟩) (rg_any q2)) (show rg (0 : Int32) 0 0 from ⟨by decide, by decide⟩)
          exact absurd c25 c4
        · refine ok_bd (s_X0_riverFlow o_5_0_i26 v_g_riverCell v_g_riverLevel o_2_3_i26 q1 w18 (u7 _ (cl_lt w18 (by decide) (ti_lt c17)))) (fun o_8_i26 p27 => ?_)
          exact ok_some ⟨g21, trivial⟩
      · exact ok_some ⟨u10, trivial⟩

abbrev P_X6_dry  : Int32 × Int32 × (Nat → Int32) × (Nat → Int32) × (Nat → Int32) × (Nat → Int32) × Int32 × Int32 × (Nat → Int32) × (Nat → Int32) × (Nat → Int32) × (Nat → Int64) × (Nat → Int32) × Int32 × (Nat → Int32) × (Nat → Int64) × (Nat → Int32) × (Nat → Int32) × (Nat → Int32) × (Nat → Int32) × (Nat → Int32) → Prop := (fun o : Int32 × Int32 × (Nat → Int32) × (Nat → Int32) × (Nat → Int32) × (Nat → Int32) × Int32 × Int32 × (Nat → Int32) × (Nat → Int32) × (Nat → Int32) × (Nat → Int64) × (Nat → Int32) × Int32 × (Nat → Int32) × (Nat → Int64) × (Nat → Int32) × (Nat → Int32) × (Nat → Int32) × (Nat → Int32) × (Nat → Int32) => rg o.1 (-2) 199 ∧ rg o.2.1 (-1) 11 ∧ True)
set_option maxRecDepth 100000 in
set_option maxHeartbeats 2000000 in
theorem s_X6_dry_b24  (v_g_cells : Int32) (v_g_passes : Int32) (v_g_rivers : Int32) (v_g_villages : Int32) (v_g_rains : Int32) (v_g_room : (Nat → Int32)) (v_g_passFrom : (Nat → Int32)) (v_g_passTo : (Nat → Int32)) (v_g_riverCell : (Nat → Int32)) (v_g_riverLevel : (Nat → Int32)) (v_g_riverSalt : (Nat → Int32)) (v_g_villageCell : (Nat → Int32)) (v_g_need : (Nat → Int32)) (v_g_lawEnd : (Nat → Int32)) (v_g_code : (Nat → Int32)) (v_p_pumpTakes : Int32) (v_p_pumpFrom : Int32) (v_p_pumpTo : Int32) (u0 : rg v_g_cells 0 12) (u1 : rg v_g_passes 0 20) (u2 : rg v_g_rivers 0 3) (u3 : rg v_g_villages 0 6) (u4 : rg v_g_rains 0 14) (u5 : ac v_g_passFrom v_g_passes 0 11) (u6 : ac v_g_passTo v_g_passes 0 11) (u7 : ac v_g_riverCell v_g_rivers 0 11) (u8 : ac v_g_villageCell v_g_villages 0 11) (u9 : al v_g_lawEnd 0 400) (u10 : rg v_p_pumpFrom 0 13) : ∀ (n : Nat) (v_p_pumpCell : Int32) (v_p_wanting : (Nat → Int32)) (v_p_passWidth : (Nat → Int32)) (v_p_riverWidth : (Nat → Int32)) (v_p_rain : (Nat → Int32)) (v_c_pumped : Int32) (v_c_today : Int32) (v_c_lacked : (Nat → Int32)) (v_c_level : (Nat → Int32)) (v_c_water : (Nat → Int32)) (v_c_salt : (Nat → Int64)) (v_c_stack : (Nat → Int32)) (v_d_day : Int32) (v_d_water : (Nat → Int32)) (v_d_salt : (Nat → Int64)) (v_d_seen : (Nat → Int32)) (v_d_took : (Nat → Int32)) (v_d_dryDays : (Nat → Int32)) (v_d_firstDry : (Nat → Int32)) (v_d_total : (Nat → Int32)) (x1 : Int32) (x2 : Int32) (x3 : Int32) (u11 : rg v_p_pumpCell (-1) 11) (u12 : rg x1 0 5) (u13 : rg x2 1 200) (u14 : rg x3 0 200) (u15 : x1.toInt < v_g_villages.toInt)  (hm : (200 - x3.toInt).toNat < n), ok (f_X6_dry_b24 v_g_cells v_g_passes v_g_rivers v_g_villages v_g_rains v_g_room v_g_passFrom v_g_passTo v_g_riverCell v_g_riverLevel v_g_riverSalt v_g_villageCell v_g_need v_g_lawEnd v_g_code v_p_pumpTakes v_p_pumpFrom v_p_pumpTo n v_p_pumpCell v_p_wanting v_p_passWidth v_p_riverWidth v_p_rain v_c_pumped v_c_today v_c_lacked v_c_level v_c_water v_c_salt v_c_stack v_d_day v_d_water v_d_salt v_d_seen v_d_took v_d_dryDays v_d_firstDry v_d_total x1 x2 x3) P_X6_dry := by
  intro n
  induction n with
  | zero =>
    intro v_p_pumpCell v_p_wanting v_p_passWidth v_p_riverWidth v_p_rain v_c_pumped v_c_today v_c_lacked v_c_level v_c_water v_c_salt v_c_stack v_d_day v_d_water v_d_salt v_d_seen v_d_took v_d_dryDays v_d_firstDry v_d_total x1 x2 x3 u11 u12 u13 u14 u15 hm
    exact absurd hm (Nat.not_lt_zero _)
  | succ n ih =>
    intro v_p_pumpCell v_p_wanting v_p_passWidth v_p_riverWidth v_p_rain v_c_pumped v_c_today v_c_lacked v_c_level v_c_water v_c_salt v_c_stack v_d_day v_d_water v_d_salt v_d_seen v_d_took v_d_dryDays v_d_firstDry v_d_total x1 x2 x3 u11 u12 u13 u14 u15 hm
    show ok (f_X6_dry_b24_st (f_X6_dry_b24 v_g_cells v_g_passes v_g_rivers v_g_villages v_g_rains v_g_room v_g_passFrom v_g_passTo v_g_riverCell v_g_riverLevel v_g_riverSalt v_g_villageCell v_g_need v_g_lawEnd v_g_code v_p_pumpTakes v_p_pumpFrom v_p_pumpTo n) v_g_cells v_g_passes v_g_rivers v_g_villages v_g_rains v_g_room v_g_passFrom v_g_passTo v_g_riverCell v_g_riverLevel v_g_riverSalt v_g_villageCell v_g_need v_g_lawEnd v_g_code v_p_pumpTakes v_p_pumpFrom v_p_pumpTo v_p_pumpCell v_p_wanting v_p_passWidth v_p_riverWidth v_p_rain v_c_pumped v_c_today v_c_lacked v_c_level v_c_water v_c_salt v_c_stack v_d_day v_d_water v_d_salt v_d_seen v_d_took v_d_dryDays v_d_firstDry v_d_total x1 x2 x3) P_X6_dry
    unfold f_X6_dry_b24_st
    refine ok_if (fun c1 => ?_) (fun c1 => ?_)
    · have w2 : rg x3 1 200 := rg_ley (ti_le c1) u13 u14
      exact ok_some ⟨(rg_w (show rg (-2 : Int32) (-2) (-2) from ⟨by decide, by decide⟩) (by decide) (by decide)), u11, trivial⟩
    · have w3 : rg x3 0 199 := rg_ltx 199 (ti_nle c1) u14 u13 (by decide)
      refine ok_bd15 (s_X0_oneDay v_g_cells v_g_passes v_g_rivers v_g_villages v_g_rains v_g_room v_g_passFrom v_g_passTo v_g_riverCell v_g_riverLevel v_g_riverSalt v_g_villageCell v_g_need v_g_lawEnd v_g_code v_p_pumpCell v_p_pumpTakes v_p_pumpFrom v_p_pumpTo v_p_wanting v_p_passWidth v_p_riverWidth v_p_rain v_c_pumped v_c_today v_c_lacked v_c_level v_c_water v_c_salt v_c_stack v_d_day v_d_water v_d_salt v_d_seen v_d_took v_d_dryDays v_d_firstDry v_d_total u0 u1 u2 u3 u4 u5 u6 u7 u8 u9 u11 u10) (fun o_2_0 o_2_1 o_2_2 o_2_3 o_2_4 o_2_5 o_2_6 o_2_7 o_2_8 o_2_9 o_2_10 o_2_11 o_2_12 o_2_13 o_2_14 p4 => ?_)
      refine ok_ck (inb_rg u12 (by decide) (by decide)) ?_
      refine ok_if (fun c5 => ?_) (fun c5 => ?_)
      · have w6 : rg (o_2_2 x1.toNatClampNeg) 0 0 := rg_lex (ti_eq c5) (rg_ley (ti_eq2 c5) (show rg (0 : Int32) 0 0 from ⟨by decide, by decide⟩) (rg_any (o_2_2 x1.toNatClampNeg))) (show rg (0 : Int32) 0 0 from ⟨by decide, by decide⟩)
        exact ih v_p_pumpCell v_p_wanting v_p_passWidth v_p_riverWidth v_p_rain o_2_0 o_2_1 o_2_2 o_2_3 o_2_4 o_2_5 o_2_6 o_2_7 o_2_8 o_2_9 o_2_10 o_2_11 o_2_12 o_2_13 o_2_14 x1 x2 (x3 + (1 : Int32)) u11 u12 u13 (rg_w (rg_add (e := 1) (f := 200) w3 (show rg (1 : Int32) 1 1 from ⟨by decide, by decide⟩) (by decide) (by decide) (by decide) (by decide)) (by decide) (by decide)) u15 (ms_up (y := (x3 + (1 : Int32))) (a := 0) hm (lt_ad w3 (show rg (1 : Int32) 1 1 from ⟨by decide, by decide⟩) (by decide) (by decide) (by decide)) (rg_w (rg_add (e := 1) (f := 200) w3 (show rg (1 : Int32) 1 1 from ⟨by decide, by decide⟩) (by decide) (by decide) (by decide) (by decide)) (by decide) (by decide)))
      · exact ok_some ⟨(rg_w w3 (by decide) (by decide)), u11, trivial⟩
set_option maxRecDepth 100000 in
set_option maxHeartbeats 2000000 in
theorem s_X6_dry (v_g_cells : Int32) (v_g_passes : Int32) (v_g_rivers : Int32) (v_g_villages : Int32) (v_g_rains : Int32) (v_g_room : (Nat → Int32)) (v_g_passFrom : (Nat → Int32)) (v_g_passTo : (Nat → Int32)) (v_g_passWidth : (Nat → Int32)) (v_g_riverCell : (Nat → Int32)) (v_g_riverLevel : (Nat → Int32)) (v_g_riverWidth : (Nat → Int32)) (v_g_riverSalt : (Nat → Int32)) (v_g_villageCell : (Nat → Int32)) (v_g_need : (Nat → Int32)) (v_g_lawEnd : (Nat → Int32)) (v_g_code : (Nat → Int32)) (v_g_rain : (Nat → Int32)) (v_p_pumpTakes : Int32) (v_p_pumpFrom : Int32) (v_p_pumpTo : Int32) (v_n_day : Int32) (v_n_water : (Nat → Int32)) (v_n_salt : (Nat → Int64)) (v_n_seen : (Nat → Int32)) (v_n_took : (Nat → Int32)) (v_n_dryDays : (Nat → Int32)) (v_n_firstDry : (Nat → Int32)) (v_n_total : (Nat → Int32)) (v_p_pumpCell : Int32) (v_p_wanting : (Nat → Int32)) (v_p_passWidth : (Nat → Int32)) (v_p_riverWidth : (Nat → Int32)) (v_p_rain : (Nat → Int32)) (v_c_pumped : Int32) (v_c_today : Int32) (v_c_lacked : (Nat → Int32)) (v_c_level : (Nat → Int32)) (v_c_water : (Nat → Int32)) (v_c_salt : (Nat → Int64)) (v_c_stack : (Nat → Int32)) (v_d_day : Int32) (v_d_water : (Nat → Int32)) (v_d_salt : (Nat → Int64)) (v_d_seen : (Nat → Int32)) (v_d_took : (Nat → Int32)) (v_d_dryDays : (Nat → Int32)) (v_d_firstDry : (Nat → Int32)) (v_d_total : (Nat → Int32)) (q1 : Int32) (q2 : Int32) (u0 : rg v_g_cells 0 12) (u1 : rg v_g_passes 0 20) (u2 : rg v_g_rivers 0 3) (u3 : rg v_g_villages 0 6) (u4 : rg v_g_rains 0 14) (u5 : ac v_g_passFrom v_g_passes 0 11) (u6 : ac v_g_passTo v_g_passes 0 11) (u7 : ac v_g_riverCell v_g_rivers 0 11) (u8 : ac v_g_villageCell v_g_villages 0 11) (u9 : al v_g_lawEnd 0 400) (u10 : rg v_p_pumpFrom 0 13) (u11 : rg v_p_pumpCell (-1) 11) : ok (f_X6_dry v_g_cells v_g_passes v_g_rivers v_g_villages v_g_rains v_g_room v_g_passFrom v_g_passTo v_g_passWidth v_g_riverCell v_g_riverLevel v_g_riverWidth v_g_riverSalt v_g_villageCell v_g_need v_g_lawEnd v_g_code v_g_rain v_p_pumpTakes v_p_pumpFrom v_p_pumpTo v_n_day v_n_water v_n_salt v_n_seen v_n_took v_n_dryDays v_n_firstDry v_n_total v_p_pumpCell v_p_wanting v_p_passWidth v_p_riverWidth v_p_rain v_c_pumped v_c_today v_c_lacked v_c_level v_c_water v_c_salt v_c_stack v_d_day v_d_water v_d_salt v_d_seen v_d_took v_d_dryDays v_d_firstDry v_d_total q1 q2) P_X6_dry := by
  unfold f_X6_dry
  refine ok_bd (s_X6_isVillage v_g_villages q1 u3) (fun o_1 p1 => ?_)
  have g2 : rg o_1 0 1 := p1.1
  refine ok_if (fun c4 => ?_) (fun c4 => ?_)
  · have w5 : rg o_1 0 0 := rg_lex (ti_eq c4) (rg_ley (ti_eq2 c4) (show rg (0 : Int32) 0 0 from ⟨by decide, by decide⟩) g2) (show rg (0 : Int32) 0 0 from ⟨by decide, by decide⟩)
    exact ok_some ⟨(rg_w (show rg (-1 : Int32) (-1) (-1) from ⟨by decide, by decide⟩) (by decide) (by decide)), u11, trivial⟩
  · obtain ⟨i6_0, i6_1⟩ := p1.2.1.resolve_left c4
    have w7 : rg q1 0 5 := rg_ltx 5 i6_1 i6_0 u3 (by decide)
    have w8 : rg v_g_villages 1 6 := rg_lty 1 i6_1 i6_0 u3 (by decide)
    have w9 : rg o_1 1 1 := rg_nel 1 c4 g2 (show rg (0 : Int32) 0 0 from ⟨by decide, by decide⟩) (by decide)
    refine ok_bd (s_X6_isAhead q2) (fun o_3 p10 => ?_)
    have g11 : rg o_3 0 1 := p10.1
    refine ok_if (fun c13 => ?_) (fun c13 => ?_)
    · have w14 : rg o_3 0 0 := rg_lex (ti_eq c13) (rg_ley (ti_eq2 c13) (show rg (0 : Int32) 0 0 from ⟨by decide, by decide⟩) g11) (show rg (0 : Int32) 0 0 from ⟨by decide, by decide⟩)
      exact ok_some ⟨(rg_w (show rg (-1 : Int32) (-1) (-1) from ⟨by decide, by decide⟩) (by decide) (by decide)), u11, trivial⟩
    · obtain i15_0 := p10.2.1.resolve_left c13
      have w16 : rg o_3 1 1 := rg_nel 1 c13 g11 (show rg (0 : Int32) 0 0 from ⟨by decide, by decide⟩) (by decide)
      refine ok_bd13 (s_X6_tryAsTold v_g_passWidth v_g_riverWidth v_g_rain v_n_day v_n_water v_n_salt v_n_seen v_n_took v_n_dryDays v_n_firstDry v_n_total v_p_pumpCell v_p_wanting v_p_passWidth v_p_riverWidth v_p_rain v_d_day v_d_water v_d_salt v_d_seen v_d_took v_d_dryDays v_d_firstDry v_d_total u11) (fun o_5_0 o_5_1 o_5_2 o_5_3 o_5_4 o_5_5 o_5_6 o_5_7 o_5_8 o_5_9 o_5_10 o_5_11 o_5_12 p17 => ?_)
      have g18 : rg o_5_0 (-1) 11 := p17.1
      exact s_X6_dry_b24 v_g_cells v_g_passes v_g_rivers v_g_villages v_g_rains v_g_room v_g_passFrom v_g_passTo v_g_riverCell v_g_riverLevel v_g_riverSalt v_g_villageCell v_g_need v_g_lawEnd v_g_code v_p_pumpTakes v_p_pumpFrom v_p_pumpTo u0 u1 u2 (rg_w w8 (by decide) (by decide)) u4 u5 u6 u7 u8 u9 u10 _ o_5_0 o_5_1 o_5_2 o_5_3 o_5_4 v_c_pumped v_c_today v_c_lacked v_c_level v_c_water v_c_salt v_c_stack o_5_5 o_5_6 o_5_7 o_5_8 o_5_9 o_5_10 o_5_11 o_5_12 q1 q2 (0 : Int32) g18 w7 i15_0 (rg_w (show rg (0 : Int32) 0 0 from ⟨by decide, by decide⟩) (by decide) (by decide)) i6_1 (fu_up (a := 0) (h := 200) (rg_w (show rg (0 : Int32) 0 0 from ⟨by decide, by decide⟩) (by decide) (by decide)) (by decide))

abbrev P_X6_dries  : Int32 × Int32 × (Nat → Int32) × (Nat → Int32) × (Nat → Int32) × (Nat → Int32) × Int32 × Int32 × (Nat → Int32) × (Nat → Int32) × (Nat → Int32) × (Nat → Int64) × (Nat → Int32) × Int32 × (Nat → Int32) × (Nat → Int64) × (Nat → Int32) × (Nat → Int32) × (Nat → Int32) × (Nat → Int32) × (Nat → Int32) → Prop := (fun o : Int32 × Int32 × (Nat → Int32) × (Nat → Int32) × (Nat → Int32) × (Nat → Int32) × Int32 × Int32 × (Nat → Int32) × (Nat → Int32) × (Nat → Int32) × (Nat → Int64) × (Nat → Int32) × Int32 × (Nat → Int32) × (Nat → Int64) × (Nat → Int32) × (Nat → Int32) × (Nat → Int32) × (Nat → Int32) × (Nat → Int32) => rg o.2.1 (-1) 11 ∧ True)
set_option maxRecDepth 100000 in
set_option maxHeartbeats 2000000 in
theorem s_X6_dries (v_g_cells : Int32) (v_g_passes : Int32) (v_g_rivers : Int32) (v_g_villages : Int32) (v_g_rains : Int32) (v_g_room : (Nat → Int32)) (v_g_passFrom : (Nat → Int32)) (v_g_passTo : (Nat → Int32)) (v_g_passWidth : (Nat → Int32)) (v_g_riverCell : (Nat → Int32)) (v_g_riverLevel : (Nat → Int32)) (v_g_riverWidth : (Nat → Int32)) (v_g_riverSalt : (Nat → Int32)) (v_g_villageCell : (Nat → Int32)) (v_g_need : (Nat → Int32)) (v_g_lawEnd : (Nat → Int32)) (v_g_code : (Nat → Int32)) (v_g_rain : (Nat → Int32)) (v_p_pumpTakes : Int32) (v_p_pumpFrom : Int32) (v_p_pumpTo : Int32) (v_n_day : Int32) (v_n_water : (Nat → Int32)) (v_n_salt : (Nat → Int64)) (v_n_seen : (Nat → Int32)) (v_n_took : (Nat → Int32)) (v_n_dryDays : (Nat → Int32)) (v_n_firstDry : (Nat → Int32)) (v_n_total : (Nat → Int32)) (v_p_pumpCell : Int32) (v_p_wanting : (Nat → Int32)) (v_p_passWidth : (Nat → Int32)) (v_p_riverWidth : (Nat → Int32)) (v_p_rain : (Nat → Int32)) (v_c_pumped : Int32) (v_c_today : Int32) (v_c_lacked : (Nat → Int32)) (v_c_level : (Nat → Int32)) (v_c_water : (Nat → Int32)) (v_c_salt : (Nat → Int64)) (v_c_stack : (Nat → Int32)) (v_d_day : Int32) (v_d_water : (Nat → Int32)) (v_d_salt : (Nat → Int64)) (v_d_seen : (Nat → Int32)) (v_d_took : (Nat → Int32)) (v_d_dryDays : (Nat → Int32)) (v_d_firstDry : (Nat → Int32)) (v_d_total : (Nat → Int32)) (q1 : Int32) (q2 : Int32) (u0 : rg v_g_cells 0 12) (u1 : rg v_g_passes 0 20) (u2 : rg v_g_rivers 0 3) (u3 : rg v_g_villages 0 6) (u4 : rg v_g_rains 0 14) (u5 : ac v_g_passFrom v_g_passes 0 11) (u6 : ac v_g_passTo v_g_passes 0 11) (u7 : ac v_g_riverCell v_g_rivers 0 11) (u8 : ac v_g_villageCell v_g_villages 0 11) (u9 : al v_g_lawEnd 0 400) (u10 : rg v_p_pumpFrom 0 13) (u11 : rg v_p_pumpCell (-1) 11) : ok (f_X6_dries v_g_cells v_g_passes v_g_rivers v_g_villages v_g_rains v_g_room v_g_passFrom v_g_passTo v_g_passWidth v_g_riverCell v_g_riverLevel v_g_riverWidth v_g_riverSalt v_g_villageCell v_g_need v_g_lawEnd v_g_code v_g_rain v_p_pumpTakes v_p_pumpFrom v_p_pumpTo v_n_day v_n_water v_n_salt v_n_seen v_n_took v_n_dryDays v_n_firstDry v_n_total v_p_pumpCell v_p_wanting v_p_passWidth v_p_riverWidth v_p_rain v_c_pumped v_c_today v_c_lacked v_c_level v_c_water v_c_salt v_c_stack v_d_day v_d_water v_d_salt v_d_seen v_d_took v_d_dryDays v_d_firstDry v_d_total q1 q2) P_X6_dries := by
  unfold f_X6_dries
  refine ok_bd (s_X6_isVillage v_g_villages q1 u3) (fun o_1 p1 => ?_)
  have g2 : rg o_1 0 1 := p1.1
  refine ok_if (fun c4 => ?_) (fun c4 => ?_)
  · have w5 : rg o_1 0 0 := rg_lex (ti_eq c4) (rg_ley (ti_eq2 c4) (show rg (0 : Int32) 0 0 from ⟨by decide, by decide⟩) g2) (show rg (0 : Int32) 0 0 from ⟨by decide, by decide⟩)
    exact ok_some ⟨u11, trivial⟩
  · obtain ⟨i6_0, i6_1⟩ := p1.2.1.resolve_left c4
    have w7 : rg q1 0 5 := rg_ltx 5 i6_1 i6_0 u3 (by decide)
    have w8 : rg v_g_villages 1 6 := rg_lty 1 i6_1 i6_0 u3 (by decide)
    have w9 : rg o_1 1 1 := rg_nel 1 c4 g2 (show rg (0 : Int32) 0 0 from ⟨by decide, by decide⟩) (by decide)
    refine ok_bd (s_X6_isAhead q2) (fun o_3 p10 => ?_)
    have g11 : rg o_3 0 1 := p10.1
    refine ok_if (fun c13 => ?_) (fun c13 => ?_)
    · have w14 : rg o_3 0 0 := rg_lex (ti_eq c13) (rg_ley (ti_eq2 c13) (show rg (0 : Int32) 0 0 from ⟨by decide, by decide⟩) g11) (show rg (0 : Int32) 0 0 from ⟨by decide, by decide⟩)
      exact ok_some ⟨u11, trivial⟩
    · obtain i15_0 := p10.2.1.resolve_left c13
      have w16 : rg o_3 1 1 := rg_nel 1 c13 g11 (show rg (0 : Int32) 0 0 from ⟨by decide, by decide⟩) (by decide)
      refine ok_bd13 (s_X6_tryAsTold v_g_passWidth v_g_riverWidth v_g_rain v_n_day v_n_water v_n_salt v_n_seen v_n_took v_n_dryDays v_n_firstDry v_n_total v_p_pumpCell v_p_wanting v_p_passWidth v_p_riverWidth v_p_rain v_d_day v_d_water v_d_salt v_d_seen v_d_took v_d_dryDays v_d_firstDry v_d_total u11) (fun o_5_0 o_5_1 o_5_2 o_5_3 o_5_4 o_5_5 o_5_6 o_5_7 o_5_8 o_5_9 o_5_10 o_5_11 o_5_12 p17 => ?_)
      have g18 : rg o_5_0 (-1) 11 := p17.1
      refine ok_bd16 (s_X6_lackingDays v_g_cells v_g_passes v_g_rivers v_g_villages v_g_rains v_g_room v_g_passFrom v_g_passTo v_g_riverCell v_g_riverLevel v_g_riverSalt v_g_villageCell v_g_need v_g_lawEnd v_g_code o_5_0 v_p_pumpTakes v_p_pumpFrom v_p_pumpTo o_5_1 o_5_2 o_5_3 o_5_4 v_c_pumped v_c_today v_c_lacked v_c_level v_c_water v_c_salt v_c_stack o_5_5 o_5_6 o_5_7 o_5_8 o_5_9 o_5_10 o_5_11 o_5_12 q1 q2 u0 u1 u2 (rg_w w8 (by decide) (by decide)) u4 u5 u6 u7 u8 u9 g18 u10 w7 i15_0) (fun o_6_0 o_6_1 o_6_2 o_6_3 o_6_4 o_6_5 o_6_6 o_6_7 o_6_8 o_6_9 o_6_10 o_6_11 o_6_12 o_6_13 o_6_14 o_6_15 p19 => ?_)
      exact ok_some ⟨g18, trivial⟩

abbrev P_X6_salty  : Int32 × Int32 × (Nat → Int32) × (Nat → Int32) × (Nat → Int32) × (Nat → Int32) × Int32 × Int32 × (Nat → Int32) × (Nat → Int32) × (Nat → Int32) × (Nat → Int64) × (Nat → Int32) × Int32 × (Nat → Int32) × (Nat → Int64) × (Nat → Int32) × (Nat → Int32) × (Nat → Int32) × (Nat → Int32) × (Nat → Int32) → Prop := (fun o : Int32 × Int32 × (Nat → Int32) × (Nat → Int32) × (Nat → Int32) × (Nat → Int32) × Int32 × Int32 × (Nat → Int32) × (Nat → Int32) × (Nat → Int32) × (Nat → Int64) × (Nat → Int32) × Int32 × (Nat → Int32) × (Nat → Int64) × (Nat → Int32) × (Nat → Int32) × (Nat → Int32) × (Nat → Int32) × (Nat → Int32) => rg o.1 (-2) 200 ∧ rg o.2.1 (-1) 11 ∧ True)
set_option maxRecDepth 100000 in
set_option maxHeartbeats 2000000 in
theorem s_X6_salty_b37  (v_g_cells : Int32) (v_g_passes : Int32) (v_g_rivers : Int32) (v_g_villages : Int32) (v_g_rains : Int32) (v_g_room : (Nat → Int32)) (v_g_passFrom : (Nat → Int32)) (v_g_passTo : (Nat → Int32)) (v_g_riverCell : (Nat → Int32)) (v_g_riverLevel : (Nat → Int32)) (v_g_riverSalt : (Nat → Int32)) (v_g_villageCell : (Nat → Int32)) (v_g_need : (Nat → Int32)) (v_g_lawEnd : (Nat → Int32)) (v_g_code : (Nat → Int32)) (v_p_pumpTakes : Int32) (v_p_pumpFrom : Int32) (v_p_pumpTo : Int32) (u0 : rg v_g_cells 0 12) (u1 : rg v_g_passes 0 20) (u2 : rg v_g_rivers 0 3) (u3 : rg v_g_villages 0 6) (u4 : rg v_g_rains 0 14) (u5 : ac v_g_passFrom v_g_passes 0 11) (u6 : ac v_g_passTo v_g_passes 0 11) (u7 : ac v_g_riverCell v_g_rivers 0 11) (u8 : ac v_g_villageCell v_g_villages 0 11) (u9 : al v_g_lawEnd 0 400) (u10 : rg v_p_pumpFrom 0 13) : ∀ (n : Nat) (v_p_pumpCell : Int32) (v_p_wanting : (Nat → Int32)) (v_p_passWidth : (Nat → Int32)) (v_p_riverWidth : (Nat → Int32)) (v_p_rain : (Nat → Int32)) (v_c_pumped : Int32) (v_c_today : Int32) (v_c_lacked : (Nat → Int32)) (v_c_level : (Nat → Int32)) (v_c_water : (Nat → Int32)) (v_c_salt : (Nat → Int64)) (v_c_stack : (Nat → Int32)) (v_d_day : Int32) (v_d_water : (Nat → Int32)) (v_d_salt : (Nat → Int64)) (v_d_seen : (Nat → Int32)) (v_d_took : (Nat → Int32)) (v_d_dryDays : (Nat → Int32)) (v_d_firstDry : (Nat → Int32)) (v_d_total : (Nat → Int32)) (x1 : Int32) (x2 : Int32) (x3 : Int32) (x4 : Int32) (u11 : rg v_p_pumpCell (-1) 11) (u12 : rg x1 0 11) (u13 : rg x2 1 9999) (u14 : rg x3 1 200) (u15 : rg x4 1 201) (u16 : x1.toInt < v_g_cells.toInt)  (hm : (201 - x4.toInt).toNat < n), ok (f_X6_salty_b37 v_g_cells v_g_passes v_g_rivers v_g_villages v_g_rains v_g_room v_g_passFrom v_g_passTo v_g_riverCell v_g_riverLevel v_g_riverSalt v_g_villageCell v_g_need v_g_lawEnd v_g_code v_p_pumpTakes v_p_pumpFrom v_p_pumpTo n v_p_pumpCell v_p_wanting v_p_passWidth v_p_riverWidth v_p_rain v_c_pumped v_c_today v_c_lacked v_c_level v_c_water v_c_salt v_c_stack v_d_day v_d_water v_d_salt v_d_seen v_d_took v_d_dryDays v_d_firstDry v_d_total x1 x2 x3 x4) P_X6_salty := by
  intro n
  induction n with
  | zero =>
    intro v_p_pumpCell v_p_wanting v_p_passWidth v_p_riverWidth v_p_rain v_c_pumped v_c_today v_c_lacked v_c_level v_c_water v_c_salt v_c_stack v_d_day v_d_water v_d_salt v_d_seen v_d_took v_d_dryDays v_d_firstDry v_d_total x1 x2 x3 x4 u11 u12 u13 u14 u15 u16 hm
    exact absurd hm (Nat.not_lt_zero _)
  | succ n ih =>
    intro v_p_pumpCell v_p_wanting v_p_passWidth v_p_riverWidth v_p_rain v_c_pumped v_c_today v_c_lacked v_c_level v_c_water v_c_salt v_c_stack v_d_day v_d_water v_d_salt v_d_seen v_d_took v_d_dryDays v_d_firstDry v_d_total x1 x2 x3 x4 u11 u12 u13 u14 u15 u16 hm
    show ok (f_X6_salty_b37_st (f_X6_salty_b37 v_g_cells v_g_passes v_g_rivers v_g_villages v_g_rains v_g_room v_g_passFrom v_g_passTo v_g_riverCell v_g_riverLevel v_g_riverSalt v_g_villageCell v_g_need v_g_lawEnd v_g_code v_p_pumpTakes v_p_pumpFrom v_p_pumpTo n) v_g_cells v_g_passes v_g_rivers v_g_villages v_g_rains v_g_room v_g_passFrom v_g_passTo v_g_riverCell v_g_riverLevel v_g_riverSalt v_g_villageCell v_g_need v_g_lawEnd v_g_code v_p_pumpTakes v_p_pumpFrom v_p_pumpTo v_p_pumpCell v_p_wanting v_p_passWidth v_p_riverWidth v_p_rain v_c_pumped v_c_today v_c_lacked v_c_level v_c_water v_c_salt v_c_stack v_d_day v_d_water v_d_salt v_d_seen v_d_took v_d_dryDays v_d_firstDry v_d_total x1 x2 x3 x4) P_X6_salty
    unfold f_X6_salty_b37_st
    refine ok_if (fun c1 => ?_) (fun c1 => ?_)
    · have w2 : rg x4 2 201 := rg_lty 2 (ti_lt c1) u14 u15 (by decide)
      exact ok_some ⟨(rg_w (show rg (-2 : Int32) (-2) (-2) from ⟨by decide, by decide⟩) (by decide) (by decide)), u11, trivial⟩
    · have w3 : rg x4 1 200 := rg_lex (ti_nlt c1) u15 u14
      refine ok_bd15 (s_X0_oneDay v_g_cells v_g_passes v_g_rivers v_g_villages v_g_rains v_g_room v_g_passFrom v_g_passTo v_g_riverCell v_g_riverLevel v_g_riverSalt v_g_villageCell v_g_need v_g_lawEnd v_g_code v_p_pumpCell v_p_pumpTakes v_p_pumpFrom v_p_pumpTo v_p_wanting v_p_passWidth v_p_riverWidth v_p_rain v_c_pumped v_c_today v_c_lacked v_c_level v_c_water v_c_salt v_c_stack v_d_day v_d_water v_d_salt v_d_seen v_d_took v_d_dryDays v_d_firstDry v_d_total u0 u1 u2 u3 u4 u5 u6 u7 u8 u9 u11 u10) (fun o_2_0 o_2_1 o_2_2 o_2_3 o_2_4 o_2_5 o_2_6 o_2_7 o_2_8 o_2_9 o_2_10 o_2_11 o_2_12 o_2_13 o_2_14 p4 => ?_)
      refine ok_bd (s_X1_saltyOf o_2_8 o_2_9 x1 u12) (fun o_3 p5 => ?_)
      refine ok_if (fun c6 => ?_) (fun c6 => ?_)
      · have w7 : rg o_3 (-2147483648) 9998 := rg_ltx 9998 (ti_lt c6) (rg_any o_3) u13 (by decide)
        exact ih v_p_pumpCell v_p_wanting v_p_passWidth v_p_riverWidth v_p_rain o_2_0 o_2_1 o_2_2 o_2_3 o_2_4 o_2_5 o_2_6 o_2_7 o_2_8 o_2_9 o_2_10 o_2_11 o_2_12 o_2_13 o_2_14 x1 x2 x3 (x4 + (1 : Int32)) u11 u12 u13 u14 (rg_w (rg_add (e := 2) (f := 201) w3 (show rg (1 : Int32) 1 1 from ⟨by decide, by decide⟩) (by decide) (by decide) (by decide) (by decide)) (by decide) (by decide)) u16 (ms_up (y := (x4 + (1 : Int32))) (a := 1) hm (lt_ad w3 (show rg (1 : Int32) 1 1 from ⟨by decide, by decide⟩) (by decide) (by decide) (by decide)) (rg_w (rg_add (e := 2) (f := 201) w3 (show rg (1 : Int32) 1 1 from ⟨by decide, by decide⟩) (by decide) (by decide) (by decide) (by decide)) (by decide) (by decide)))
      · have w8 : rg o_3 1 2147483647 := rg_ley (ti_nlt c6) u13 (rg_any o_3)
        exact ok_some ⟨(rg_w w3 (by decide) (by decide)), u11, trivial⟩
set_option maxRecDepth 100000 in
set_option maxHeartbeats 2000000 in
theorem s_X6_salty (v_g_cells : Int32) (v_g_passes : Int32) (v_g_rivers : Int32) (v_g_villages : Int32) (v_g_rains : Int32) (v_g_room : (Nat → Int32)) (v_g_passFrom : (Nat → Int32)) (v_g_passTo : (Nat → Int32)) (v_g_passWidth : (Nat → Int32)) (v_g_riverCell : (Nat → Int32)) (v_g_riverLevel : (Nat → Int32)) (v_g_riverWidth : (Nat → Int32)) (v_g_riverSalt : (Nat → Int32)) (v_g_villageCell : (Nat → Int32)) (v_g_need : (Nat → Int32)) (v_g_lawEnd : (Nat → Int32)) (v_g_code : (Nat → Int32)) (v_g_rain : (Nat → Int32)) (v_p_pumpTakes : Int32) (v_p_pumpFrom : Int32) (v_p_pumpTo : Int32) (v_n_day : Int32) (v_n_water : (Nat → Int32)) (v_n_salt : (Nat → Int64)) (v_n_seen : (Nat → Int32)) (v_n_took : (Nat → Int32)) (v_n_dryDays : (Nat → Int32)) (v_n_firstDry : (Nat → Int32)) (v_n_total : (Nat → Int32)) (v_p_pumpCell : Int32) (v_p_wanting : (Nat → Int32)) (v_p_passWidth : (Nat → Int32)) (v_p_riverWidth : (Nat → Int32)) (v_p_rain : (Nat → Int32)) (v_c_pumped : Int32) (v_c_today : Int32) (v_c_lacked : (Nat → Int32)) (v_c_level : (Nat → Int32)) (v_c_water : (Nat → Int32)) (v_c_salt : (Nat → Int64)) (v_c_stack : (Nat → Int32)) (v_d_day : Int32) (v_d_water : (Nat → Int32)) (v_d_salt : (Nat → Int64)) (v_d_seen : (Nat → Int32)) (v_d_took : (Nat → Int32)) (v_d_dryDays : (Nat → Int32)) (v_d_firstDry : (Nat → Int32)) (v_d_total : (Nat → Int32)) (q1 : Int32) (q2 : Int32) (q3 : Int32) (u0 : rg v_g_cells 0 12) (u1 : rg v_g_passes 0 20) (u2 : rg v_g_rivers 0 3) (u3 : rg v_g_villages 0 6) (u4 : rg v_g_rains 0 14) (u5 : ac v_g_passFrom v_g_passes 0 11) (u6 : ac v_g_passTo v_g_passes 0 11) (u7 : ac v_g_riverCell v_g_rivers 0 11) (u8 : ac v_g_villageCell v_g_villages 0 11) (u9 : al v_g_lawEnd 0 400) (u10 : rg v_p_pumpFrom 0 13) (u11 : rg v_p_pumpCell (-1) 11) : ok (f_X6_salty v_g_cells v_g_passes v_g_rivers v_g_villages v_g_rains v_g_room v_g_passFrom v_g_passTo v_g_passWidth v_g_riverCell v_g_riverLevel v_g_riverWidth v_g_riverSalt v_g_villageCell v_g_need v_g_lawEnd v_g_code v_g_rain v_p_pumpTakes v_p_pumpFrom v_p_pumpTo v_n_day v_n_water v_n_salt v_n_seen v_n_took v_n_dryDays v_n_firstDry v_n_total v_p_pumpCell v_p_wanting v_p_passWidth v_p_riverWidth v_p_rain v_c_pumped v_c_today v_c_lacked v_c_level v_c_water v_c_salt v_c_stack v_d_day v_d_water v_d_salt v_d_seen v_d_took v_d_dryDays v_d_firstDry v_d_total q1 q2 q3) P_X6_salty := by
  unfold f_X6_salty
  refine ok_bd (s_X6_isCell v_g_cells q1 u0) (fun o_1 p1 => ?_)
  have g2 : rg o_1 0 1 := p1.1
  refine ok_if (fun c4 => ?_) (fun c4 => ?_)
  · have w5 : rg o_1 0 0 := rg_lex (ti_eq c4) (rg_ley (ti_eq2 c4) (show rg (0 : Int32) 0 0 from ⟨by decide, by decide⟩) g2) (show rg (0 : Int32) 0 0 from ⟨by decide, by decide⟩)
    exact ok_some ⟨(rg_w (show rg (-1 : Int32) (-1) (-1) from ⟨by decide, by decide⟩) (by decide) (by decide)), u11, trivial⟩
  · obtain ⟨i6_0, i6_1⟩ := p1.2.1.resolve_left c4
    have w7 : rg q1 0 11 := rg_ltx 11 i6_1 i6_0 u0 (by decide)
    have w8 : rg v_g_cells 1 12 := rg_lty 1 i6_1 i6_0 u0 (by decide)
    have w9 : rg o_1 1 1 := rg_nel 1 c4 g2 (show rg (0 : Int32) 0 0 from ⟨by decide, by decide⟩) (by decide)
    refine ok_if (fun c10 => ?_) (fun c10 => ?_)
    · have w11 : rg q2 (-2147483648) 0 := rg_ltx 0 (ti_lt c10) (rg_any q2) (show rg (1 : Int32) 1 1 from ⟨by decide, by decide⟩) (by decide)
      exact ok_some ⟨(rg_w (show rg (-1 : Int32) (-1) (-1) from ⟨by decide, by decide⟩) (by decide) (by decide)), u11, trivial⟩
    · have w12 : rg q2 1 2147483647 := rg_ley (ti_nlt c10) (show rg (1 : Int32) 1 1 from ⟨by decide, by decide⟩) (rg_any q2)
      refine ok_if (fun c13 => ?_) (fun c13 => ?_)
      · have w14 : rg q2 10000 2147483647 := rg_lty 10000 (ti_lt c13) (show rg (9999 : Int32) 9999 9999 from ⟨by decide, by decide⟩) w12 (by decide)
        exact ok_some ⟨(rg_w (show rg (-1 : Int32) (-1) (-1) from ⟨by decide, by decide⟩) (by decide) (by decide)), u11, trivial⟩
      · have w15 : rg q2 1 9999 := rg_lex (ti_nlt c13) w12 (show rg (9999 : Int32) 9999 9999 from ⟨by decide, by decide⟩)
        refine ok_bd (s_X6_isAhead q3) (fun o_5 p16 => ?_)
        have g17 : rg o_5 0 1 := p16.1
        refine ok_if (fun c19 => ?_) (fun c19 => ?_)
        · have w20 : rg o_5 0 0 := rg_lex (ti_eq c19) (rg_ley (ti_eq2 c19) (show rg (0 : Int32) 0 0 from ⟨by decide, by decide⟩) g17) (show rg (0 : Int32) 0 0 from ⟨by decide, by decide⟩)
          exact ok_some ⟨(rg_w (show rg (-1 : Int32) (-1) (-1) from ⟨by decide, by decide⟩) (by decide) (by decide)), u11, trivial⟩
        · obtain i21_0 := p16.2.1.resolve_left c19
          have w22 : rg o_5 1 1 := rg_nel 1 c19 g17 (show rg (0 : Int32) 0 0 from ⟨by decide, by decide⟩) (by decide)
          refine ok_bd13 (s_X6_tryAsTold v_g_passWidth v_g_riverWidth v_g_rain v_n_day v_n_water v_n_salt v_n_seen v_n_took v_n_dryDays v_n_firstDry v_n_total v_p_pumpCell v_p_wanting v_p_passWidth v_p_riverWidth v_p_rain v_d_day v_d_water v_d_salt v_d_seen v_d_took v_d_dryDays v_d_firstDry v_d_total u11) (fun o_7_0 o_7_1 o_7_2 o_7_3 o_7_4 o_7_5 o_7_6 o_7_7 o_7_8 o_7_9 o_7_10 o_7_11 o_7_12 p23 => ?_)
          have g24 : rg o_7_0 (-1) 11 := p23.1
          exact s_X6_salty_b37 v_g_cells v_g_passes v_g_rivers v_g_villages v_g_rains v_g_room v_g_passFrom v_g_passTo v_g_riverCell v_g_riverLevel v_g_riverSalt v_g_villageCell v_g_need v_g_lawEnd v_g_code v_p_pumpTakes v_p_pumpFrom v_p_pumpTo (rg_w w8 (by decide) (by decide)) u1 u2 u3 u4 u5 u6 u7 u8 u9 u10 _ o_7_0 o_7_1 o_7_2 o_7_3 o_7_4 v_c_pumped v_c_today v_c_lacked v_c_level v_c_water v_c_salt v_c_stack o_7_5 o_7_6 o_7_7 o_7_8 o_7_9 o_7_10 o_7_11 o_7_12 q1 q2 q3 (1 : Int32) g24 w7 w15 i21_0 (rg_w (show rg (1 : Int32) 1 1 from ⟨by decide, by decide⟩) (by decide) (by decide)) i6_1 (fu_up (a := 1) (h := 201) (rg_w (show rg (1 : Int32) 1 1 from ⟨by decide, by decide⟩) (by decide) (by decide)) (by decide))

abbrev P_X6_effect  : Int32 × Int32 × (Nat → Int32) × (Nat → Int32) × (Nat → Int32) × (Nat → Int32) × Int32 × Int32 × (Nat → Int32) × (Nat → Int32) × (Nat → Int32) × (Nat → Int64) × (Nat → Int32) × Int32 × (Nat → Int32) × (Nat → Int64) × (Nat → Int32) × (Nat → Int32) × (Nat → Int32) × (Nat → Int32) × (Nat → Int32) → Prop := (fun o : Int32 × Int32 × (Nat → Int32) × (Nat → Int32) × (Nat → Int32) × (Nat → Int32) × Int32 × Int32 × (Nat → Int32) × (Nat → Int32) × (Nat → Int32) × (Nat → Int64) × (Nat → Int32) × Int32 × (Nat → Int32) × (Nat → Int64) × (Nat → Int32) × (Nat → Int32) × (Nat → Int32) × (Nat → Int32) × (Nat → Int32) => rg o.2.1 (-1) 11 ∧ True)
set_option maxRecDepth 100000 in
set_option maxHeartbeats 2000000 in
theorem s_X6_effect (v_g_cells : Int32) (v_g_passes : Int32) (v_g_rivers : Int32) (v_g_villages : Int32) (v_g_rains : Int32) (v_g_room : (Nat → Int32)) (v_g_passFrom : (Nat → Int32)) (v_g_passTo : (Nat → Int32)) (v_g_passWidth : (Nat → Int32)) (v_g_riverCell : (Nat → Int32)) (v_g_riverLevel : (Nat → Int32)) (v_g_riverWidth : (Nat → Int32)) (v_g_riverSalt : (Nat → Int32)) (v_g_villageCell : (Nat → Int32)) (v_g_need : (Nat → Int32)) (v_g_lawEnd : (Nat → Int32)) (v_g_code : (Nat → Int32)) (v_g_rain : (Nat → Int32)) (v_p_pumpTakes : Int32) (v_p_pumpFrom : Int32) (v_p_pumpTo : Int32) (v_n_day : Int32) (v_n_water : (Nat → Int32)) (v_n_salt : (Nat → Int64)) (v_n_seen : (Nat → Int32)) (v_n_took : (Nat → Int32)) (v_n_dryDays : (Nat → Int32)) (v_n_firstDry : (Nat → Int32)) (v_n_total : (Nat → Int32)) (v_p_pumpCell : Int32) (v_p_wanting : (Nat → Int32)) (v_p_passWidth : (Nat → Int32)) (v_p_riverWidth : (Nat → Int32)) (v_p_rain : (Nat → Int32)) (v_c_pumped : Int32) (v_c_today : Int32) (v_c_lacked : (Nat → Int32)) (v_c_level : (Nat → Int32)) (v_c_water : (Nat → Int32)) (v_c_salt : (Nat → Int64)) (v_c_stack : (Nat → Int32)) (v_d_day : Int32) (v_d_water : (Nat → Int32)) (v_d_salt : (Nat → Int64)) (v_d_seen : (Nat → Int32)) (v_d_took : (Nat → Int32)) (v_d_dryDays : (Nat → Int32)) (v_d_firstDry : (Nat → Int32)) (v_d_total : (Nat → Int32)) (q1 : Int32) (q2 : Int32) (q3 : Int32) (q4 : Int32) (u0 : rg v_g_cells 0 12) (u1 : rg v_g_passes 0 20) (u2 : rg v_g_rivers 0 3) (u3 : rg v_g_villages 0 6) (u4 : rg v_g_rains 0 14) (u5 : ac v_g_passFrom v_g_passes 0 11) (u6 : ac v_g_passTo v_g_passes 0 11) (u7 : ac v_g_riverCell v_g_rivers 0 11) (u8 : ac v_g_villageCell v_g_villages 0 11) (u9 : al v_g_lawEnd 0 400) (u10 : rg v_p_pumpFrom 0 13) (u11 : rg v_p_pumpCell (-1) 11) : ok (f_X6_effect v_g_cells v_g_passes v_g_rivers v_g_villages v_g_rains v_g_room v_g_passFrom v_g_passTo v_g_passWidth v_g_riverCell v_g_riverLevel v_g_riverWidth v_g_riverSalt v_g_villageCell v_g_need v_g_lawEnd v_g_code v_g_rain v_p_pumpTakes v_p_pumpFrom v_p_pumpTo v_n_day v_n_water v_n_salt v_n_seen v_n_took v_n_dryDays v_n_firstDry v_n_total v_p_pumpCell v_p_wanting v_p_passWidth v_p_riverWidth v_p_rain v_c_pumped v_c_today v_c_lacked v_c_level v_c_water v_c_salt v_c_stack v_d_day v_d_water v_d_salt v_d_seen v_d_took v_d_dryDays v_d_firstDry v_d_total q1 q2 q3 q4) P_X6_effect := by
  unfold f_X6_effect
  refine ok_bd (s_X6_isChange v_g_passes v_g_rivers v_g_villages q1 q2 u1 u2 u3) (fun o_1 p1 => ?_)
  have g2 : rg o_1 0 1 := p1.1
  refine ok_if (fun c4 => ?_) (fun c4 => ?_)
  · have w5 : rg o_1 0 0 := rg_lex (ti_eq c4) (rg_ley (ti_eq2 c4) (show rg (0 : Int32) 0 0 from ⟨by decide, by decide⟩) g2) (show rg (0 : Int32) 0 0 from ⟨by decide, by decide⟩)
    exact ok_some ⟨u11, trivial⟩
  · obtain i6_0 := p1.2.1.resolve_left c4
    have w7 : rg o_1 1 1 := rg_nel 1 c4 g2 (show rg (0 : Int32) 0 0 from ⟨by decide, by decide⟩) (by decide)
    refine ok_bd (s_X6_isCell v_g_cells q3 u0) (fun o_3 p8 => ?_)
    have g9 : rg o_3 0 1 := p8.1
    refine ok_if (fun c11 => ?_) (fun c11 => ?_)
    · have w12 : rg o_3 0 0 := rg_lex (ti_eq c11) (rg_ley (ti_eq2 c11) (show rg (0 : Int32) 0 0 from ⟨by decide, by decide⟩) g9) (show rg (0 : Int32) 0 0 from ⟨by decide, by decide⟩)
      exact ok_some ⟨u11, trivial⟩
    · obtain ⟨i13_0, i13_1⟩ := p8.2.1.resolve_left c11
      have w14 : rg q3 0 11 := rg_ltx 11 i13_1 i13_0 u0 (by decide)
      have w15 : rg v_g_cells 1 12 := rg_lty 1 i13_1 i13_0 u0 (by decide)
      have w16 : rg o_3 1 1 := rg_nel 1 c11 g9 (show rg (0 : Int32) 0 0 from ⟨by decide, by decide⟩) (by decide)
      refine ok_bd (s_X6_isAhead q4) (fun o_5 p17 => ?_)
      have g18 : rg o_5 0 1 := p17.1
      refine ok_if (fun c20 => ?_) (fun c20 => ?_)
      · have w21 : rg o_5 0 0 := rg_lex (ti_eq c20) (rg_ley (ti_eq2 c20) (show rg (0 : Int32) 0 0 from ⟨by decide, by decide⟩) g18) (show rg (0 : Int32) 0 0 from ⟨by decide, by decide⟩)
        exact ok_some ⟨u11, trivial⟩
      · obtain i22_0 := p17.2.1.resolve_left c20
        have w23 : rg o_5 1 1 := rg_nel 1 c20 g18 (show rg (0 : Int32) 0 0 from ⟨by decide, by decide⟩) (by decide)
        refine ok_bd13 (s_X6_tryAsTold v_g_passWidth v_g_riverWidth v_g_rain v_n_day v_n_water v_n_salt v_n_seen v_n_took v_n_dryDays v_n_firstDry v_n_total v_p_pumpCell v_p_wanting v_p_passWidth v_p_riverWidth v_p_rain v_d_day v_d_water v_d_salt v_d_seen v_d_took v_d_dryDays v_d_firstDry v_d_total u11) (fun o_7_0 o_7_1 o_7_2 o_7_3 o_7_4 o_7_5 o_7_6 o_7_7 o_7_8 o_7_9 o_7_10 o_7_11 o_7_12 p24 => ?_)
        have g25 : rg o_7_0 (-1) 11 := p24.1
        refine ok_bd16 (s_X6_levelBehind v_g_cells v_g_passes v_g_rivers v_g_villages v_g_rains v_g_room v_g_passFrom v_g_passTo v_g_riverCell v_g_riverLevel v_g_riverSalt v_g_villageCell v_g_need v_g_lawEnd v_g_code o_7_0 v_p_pumpTakes v_p_pumpFrom v_p_pumpTo o_7_1 o_7_2 o_7_3 o_7_4 v_c_pumped v_c_today v_c_lacked v_c_level v_c_water v_c_salt v_c_stack o_7_5 o_7_6 o_7_7 o_7_8 o_7_9 o_7_10 o_7_11 o_7_12 q3 q4 (rg_w w15 (by decide) (by decide)) u1 u2 u3 u4 u5 u6 u7 u8 u9 g25 u10 w14 i22_0) (fun o_8_0 o_8_1 o_8_2 o_8_3 o_8_4 o_8_5 o_8_6 o_8_7 o_8_8 o_8_9 o_8_10 o_8_11 o_8_12 o_8_13 o_8_14 o_8_15 p26 => ?_)
        refine ok_bd13 (s_X6_tryAsTold v_g_passWidth v_g_riverWidth v_g_rain v_n_day v_n_water v_n_salt v_n_seen v_n_took v_n_dryDays v_n_firstDry v_n_total o_7_0 o_7_1 o_7_2 o_7_3 o_7_4 o_8_8 o_8_9 o_8_10 o_8_11 o_8_12 o_8_13 o_8_14 o_8_15 g25) (fun o_9_0 o_9_1 o_9_2 o_9_3 o_9_4 o_9_5 o_9_6 o_9_7 o_9_8 o_9_9 o_9_10 o_9_11 o_9_12 p27 => ?_)
        have g28 : rg o_9_0 (-1) 11 := p27.1
        refine ok_bd3 (s_X4_change o_9_1 o_9_2 o_9_3 q1 q2 i6_0) (fun o_10_0 o_10_1 o_10_2 p29 => ?_)
        refine ok_bd16 (s_X6_levelBehind v_g_cells v_g_passes v_g_rivers v_g_villages v_g_rains v_g_room v_g_passFrom v_g_passTo v_g_riverCell v_g_riverLevel v_g_riverSalt v_g_villageCell v_g_need v_g_lawEnd v_g_code o_9_0 v_p_pumpTakes v_p_pumpFrom v_p_pumpTo o_10_0 o_10_1 o_10_2 o_9_4 o_8_1 o_8_2 o_8_3 o_8_4 o_8_5 o_8_6 o_8_7 o_9_5 o_9_6 o_9_7 o_9_8 o_9_9 o_9_10 o_9_11 o_9_12 q3 q4 (rg_w w15 (by decide) (by decide)) u1 u2 u3 u4 u5 u6 u7 u8 u9 g28 u10 w14 i22_0) (fun o_11_0 o_11_1 o_11_2 o_11_3 o_11_4 o_11_5 o_11_6 o_11_7 o_11_8 o_11_9 o_11_10 o_11_11 o_11_12 o_11_13 o_11_14 o_11_15 p30 => ?_)
        exact ok_some ⟨g28, trivial⟩

abbrev P_X6_saved  : Int32 × Int32 × (Nat → Int32) × (Nat → Int32) × (Nat → Int32) × (Nat → Int32) × Int32 × Int32 × (Nat → Int32) × (Nat → Int32) × (Nat → Int32) × (Nat → Int64) × (Nat → Int32) × Int32 × (Nat → Int32) × (Nat → Int64) × (Nat → Int32) × (Nat → Int32) × (Nat → Int32) × (Nat → Int32) × (Nat → Int32) → Prop := (fun o : Int32 × Int32 × (Nat → Int32) × (Nat → Int32) × (Nat → Int32) × (Nat → Int32) × Int32 × Int32 × (Nat → Int32) × (Nat → Int32) × (Nat → Int32) × (Nat → Int64) × (Nat → Int32) × Int32 × (Nat → Int32) × (Nat → Int64) × (Nat → Int32) × (Nat → Int32) × (Nat → Int32) × (Nat → Int32) × (Nat → Int32) => rg o.2.1 (-1) 11 ∧ True)
set_option maxRecDepth 100000 in
set_option maxHeartbeats 2000000 in
theorem s_X6_saved_b41  (v_g_cells : Int32) (v_g_passes : Int32) (v_g_rivers : Int32) (v_g_villages : Int32) (v_g_rains : Int32) (v_g_room : (Nat → Int32)) (v_g_passFrom : (Nat → Int32)) (v_g_passTo : (Nat → Int32)) (v_g_passWidth : (Nat → Int32)) (v_g_riverCell : (Nat → Int32)) (v_g_riverLevel : (Nat → Int32)) (v_g_riverWidth : (Nat → Int32)) (v_g_riverSalt : (Nat → Int32)) (v_g_villageCell : (Nat → Int32)) (v_g_need : (Nat → Int32)) (v_g_lawEnd : (Nat → Int32)) (v_g_code : (Nat → Int32)) (v_g_rain : (Nat → Int32)) (v_p_pumpTakes : Int32) (v_p_pumpFrom : Int32) (v_p_pumpTo : Int32) (v_n_day : Int32) (v_n_water : (Nat → Int32)) (v_n_salt : (Nat → Int64)) (v_n_seen : (Nat → Int32)) (v_n_took : (Nat → Int32)) (v_n_dryDays : (Nat → Int32)) (v_n_firstDry : (Nat → Int32)) (v_n_total : (Nat → Int32)) (v_p_pumpCell : Int32) (v_p_wanting : (Nat → Int32)) (v_p_passWidth : (Nat → Int32)) (v_p_riverWidth : (Nat → Int32)) (v_p_rain : (Nat → Int32)) (v_c_pumped : Int32) (v_c_today : Int32) (v_c_lacked : (Nat → Int32)) (v_c_level : (Nat → Int32)) (v_c_water : (Nat → Int32)) (v_c_salt : (Nat → Int64)) (v_c_stack : (Nat → Int32)) (v_d_day : Int32) (v_d_water : (Nat → Int32)) (v_d_salt : (Nat → Int64)) (v_d_seen : (Nat → Int32)) (v_d_took : (Nat → Int32)) (v_d_dryDays : (Nat → Int32)) (v_d_firstDry : (Nat → Int32)) (v_d_total : (Nat → Int32)) (x1 : Int32) (x2 : Int32) (x3 : Int32) (x4 : Int32) (u0 : rg v_g_cells 0 12) (u1 : rg v_g_passes 0 20) (u2 : rg v_g_rivers 0 3) (u3 : rg v_g_villages 0 6) (u4 : rg v_g_rains 0 14) (u5 : ac v_g_passFrom v_g_passes 0 11) (u6 : ac v_g_passTo v_g_passes 0 11) (u7 : ac v_g_riverCell v_g_rivers 0 11) (u8 : ac v_g_villageCell v_g_villages 0 11) (u9 : al v_g_lawEnd 0 400) (u10 : rg v_p_pumpFrom 0 13) (u11 : rg v_p_pumpCell (-1) 11) (u12 : rg x2 0 2147483647) (u13 : rg x3 0 5) (u14 : rg x4 1 200) (u15 : x3.toInt < v_g_villages.toInt)  : ok (f_X6_saved_b41 v_g_cells v_g_passes v_g_rivers v_g_villages v_g_rains v_g_room v_g_passFrom v_g_passTo v_g_passWidth v_g_riverCell v_g_riverLevel v_g_riverWidth v_g_riverSalt v_g_villageCell v_g_need v_g_lawEnd v_g_code v_g_rain v_p_pumpTakes v_p_pumpFrom v_p_pumpTo v_n_day v_n_water v_n_salt v_n_seen v_n_took v_n_dryDays v_n_firstDry v_n_total v_p_pumpCell v_p_wanting v_p_passWidth v_p_riverWidth v_p_rain v_c_pumped v_c_today v_c_lacked v_c_level v_c_water v_c_salt v_c_stack v_d_day v_d_water v_d_salt v_d_seen v_d_took v_d_dryDays v_d_firstDry v_d_total x1 x2 x3 x4) P_X6_saved := by
  unfold f_X6_saved_b41
  refine ok_bd13 (s_X6_tryAsTold v_g_passWidth v_g_riverWidth v_g_rain v_n_day v_n_water v_n_salt v_n_seen v_n_took v_n_dryDays v_n_firstDry v_n_total v_p_pumpCell v_p_wanting v_p_passWidth v_p_riverWidth v_p_rain v_d_day v_d_water v_d_salt v_d_seen v_d_took v_d_dryDays v_d_firstDry v_d_total u11) (fun o_1_0 o_1_1 o_1_2 o_1_3 o_1_4 o_1_5 o_1_6 o_1_7 o_1_8 o_1_9 o_1_10 o_1_11 o_1_12 p1 => ?_)
  have g2 : rg o_1_0 (-1) 11 := p1.1
  refine ok_bd16 (s_X6_lackingDays v_g_cells v_g_passes v_g_rivers v_g_villages v_g_rains v_g_room v_g_passFrom v_g_passTo v_g_riverCell v_g_riverLevel v_g_riverSalt v_g_villageCell v_g_need v_g_lawEnd v_g_code o_1_0 v_p_pumpTakes v_p_pumpFrom v_p_pumpTo o_1_1 o_1_2 o_1_3 o_1_4 v_c_pumped v_c_today v_c_lacked v_c_level v_c_water v_c_salt v_c_stack o_1_5 o_1_6 o_1_7 o_1_8 o_1_9 o_1_10 o_1_11 o_1_12 x3 x4 u0 u1 u2 u3 u4 u5 u6 u7 u8 u9 g2 u10 u13 u14) (fun o_2_0 o_2_1 o_2_2 o_2_3 o_2_4 o_2_5 o_2_6 o_2_7 o_2_8 o_2_9 o_2_10 o_2_11 o_2_12 o_2_13 o_2_14 o_2_15 p3 => ?_)
  refine ok_bd13 (s_X6_tryAsTold v_g_passWidth v_g_riverWidth v_g_rain v_n_day v_n_water v_n_salt v_n_seen v_n_took v_n_dryDays v_n_firstDry v_n_total o_1_0 o_1_1 o_1_2 o_1_3 o_1_4 o_2_8 o_2_9 o_2_10 o_2_11 o_2_12 o_2_13 o_2_14 o_2_15 g2) (fun o_3_0 o_3_1 o_3_2 o_3_3 o_3_4 o_3_5 o_3_6 o_3_7 o_3_8 o_3_9 o_3_10 o_3_11 o_3_12 p4 => ?_)
  have g5 : rg o_3_0 (-1) 11 := p4.1
  refine ok_bd3 (s_X4_change o_3_1 o_3_2 o_3_3 x1 x2 u12) (fun o_4_0 o_4_1 o_4_2 p6 => ?_)
  refine ok_bd16 (s_X6_lackingDays v_g_cells v_g_passes v_g_rivers v_g_villages v_g_rains v_g_room v_g_passFrom v_g_passTo v_g_riverCell v_g_riverLevel v_g_riverSalt v_g_villageCell v_g_need v_g_lawEnd v_g_code o_3_0 v_p_pumpTakes v_p_pumpFrom v_p_pumpTo o_4_0 o_4_1 o_4_2 o_3_4 o_2_1 o_2_2 o_2_3 o_2_4 o_2_5 o_2_6 o_2_7 o_3_5 o_3_6 o_3_7 o_3_8 o_3_9 o_3_10 o_3_11 o_3_12 x3 x4 u0 u1 u2 u3 u4 u5 u6 u7 u8 u9 g5 u10 u13 u14) (fun o_5_0 o_5_1 o_5_2 o_5_3 o_5_4 o_5_5 o_5_6 o_5_7 o_5_8 o_5_9 o_5_10 o_5_11 o_5_12 o_5_13 o_5_14 o_5_15 p7 => ?_)
  exact ok_some ⟨g5, trivial⟩
set_option maxRecDepth 100000 in
set_option maxHeartbeats 2000000 in
theorem s_X6_saved (v_g_cells : Int32) (v_g_passes : Int32) (v_g_rivers : Int32) (v_g_villages : Int32) (v_g_rains : Int32) (v_g_room : (Nat → Int32)) (v_g_passFrom : (Nat → Int32)) (v_g_passTo : (Nat → Int32)) (v_g_passWidth : (Nat → Int32)) (v_g_riverCell : (Nat → Int32)) (v_g_riverLevel : (Nat → Int32)) (v_g_riverWidth : (Nat → Int32)) (v_g_riverSalt : (Nat → Int32)) (v_g_villageCell : (Nat → Int32)) (v_g_need : (Nat → Int32)) (v_g_lawEnd : (Nat → Int32)) (v_g_code : (Nat → Int32)) (v_g_rain : (Nat → Int32)) (v_p_pumpTakes : Int32) (v_p_pumpFrom : Int32) (v_p_pumpTo : Int32) (v_n_day : Int32) (v_n_water : (Nat → Int32)) (v_n_salt : (Nat → Int64)) (v_n_seen : (Nat → Int32)) (v_n_took : (Nat → Int32)) (v_n_dryDays : (Nat → Int32)) (v_n_firstDry : (Nat → Int32)) (v_n_total : (Nat → Int32)) (v_p_pumpCell : Int32) (v_p_wanting : (Nat → Int32)) (v_p_passWidth : (Nat → Int32)) (v_p_riverWidth : (Nat → Int32)) (v_p_rain : (Nat → Int32)) (v_c_pumped : Int32) (v_c_today : Int32) (v_c_lacked : (Nat → Int32)) (v_c_level : (Nat → Int32)) (v_c_water : (Nat → Int32)) (v_c_salt : (Nat → Int64)) (v_c_stack : (Nat → Int32)) (v_d_day : Int32) (v_d_water : (Nat → Int32)) (v_d_salt : (Nat → Int64)) (v_d_seen : (Nat → Int32)) (v_d_took : (Nat → Int32)) (v_d_dryDays : (Nat → Int32)) (v_d_firstDry : (Nat → Int32)) (v_d_total : (Nat → Int32)) (q1 : Int32) (q2 : Int32) (q3 : Int32) (q4 : Int32) (u0 : rg v_g_cells 0 12) (u1 : rg v_g_passes 0 20) (u2 : rg v_g_rivers 0 3) (u3 : rg v_g_villages 0 6) (u4 : rg v_g_rains 0 14) (u5 : ac v_g_passFrom v_g_passes 0 11) (u6 : ac v_g_passTo v_g_passes 0 11) (u7 : ac v_g_riverCell v_g_rivers 0 11) (u8 : ac v_g_villageCell v_g_villages 0 11) (u9 : al v_g_lawEnd 0 400) (u10 : rg v_p_pumpFrom 0 13) (u11 : rg v_p_pumpCell (-1) 11) : ok (f_X6_saved v_g_cells v_g_passes v_g_rivers v_g_villages v_g_rains v_g_room v_g_passFrom v_g_passTo v_g_passWidth v_g_riverCell v_g_riverLevel v_g_riverWidth v_g_riverSalt v_g_villageCell v_g_need v_g_lawEnd v_g_code v_g_rain v_p_pumpTakes v_p_pumpFrom v_p_pumpTo v_n_day v_n_water v_n_salt v_n_seen v_n_took v_n_dryDays v_n_firstDry v_n_total v_p_pumpCell v_p_wanting v_p_passWidth v_p_riverWidth v_p_rain v_c_pumped v_c_today v_c_lacked v_c_level v_c_water v_c_salt v_c_stack v_d_day v_d_water v_d_salt v_d_seen v_d_took v_d_dryDays v_d_firstDry v_d_total q1 q2 q3 q4) P_X6_saved := by
  unfold f_X6_saved
  refine ok_bd (s_X6_isChange v_g_passes v_g_rivers v_g_villages q1 q2 u1 u2 u3) (fun o_1 p1 => ?_)
  have g2 : rg o_1 0 1 := p1.1
  refine ok_if (fun c4 => ?_) (fun c4 => ?_)
  · have w5 : rg o_1 0 0 := rg_lex (ti_eq c4) (rg_ley (ti_eq2 c4) (show rg (0 : Int32) 0 0 from ⟨by decide, by decide⟩) g2) (show rg (0 : Int32) 0 0 from ⟨by decide, by decide⟩)
    exact ok_some ⟨u11, trivial⟩
  · obtain i6_0 := p1.2.1.resolve_left c4
    have w7 : rg o_1 1 1 := rg_nel 1 c4 g2 (show rg (0 : Int32) 0 0 from ⟨by decide, by decide⟩) (by decide)
    refine ok_bd (s_X6_isVillage v_g_villages q3 u3) (fun o_3 p8 => ?_)
    have g9 : rg o_3 0 1 := p8.1
    refine ok_if (fun c11 => ?_) (fun c11 => ?_)
    · have w12 : rg o_3 0 0 := rg_lex (ti_eq c11) (rg_ley (ti_eq2 c11) (show rg (0 : Int32) 0 0 from ⟨by decide, by decide⟩) g9) (show rg (0 : Int32) 0 0 from ⟨by decide, by decide⟩)
      exact ok_some ⟨u11, trivial⟩
    · obtain ⟨i13_0, i13_1⟩ := p8.2.1.resolve_left c11
      have w14 : rg q3 0 5 := rg_ltx 5 i13_1 i13_0 u3 (by decide)
      have w15 : rg v_g_villages 1 6 := rg_lty 1 i13_1 i13_0 u3 (by decide)
      have w16 : rg o_3 1 1 := rg_nel 1 c11 g9 (show rg (0 : Int32) 0 0 from ⟨by decide, by decide⟩) (by decide)
      refine ok_bd (s_X6_isAhead q4) (fun o_5 p17 => ?_)
      have g18 : rg o_5 0 1 := p17.1
      refine ok_if (fun c20 => ?_) (fun c20 => ?_)
      · have w21 : rg o_5 0 0 := rg_lex (ti_eq c20) (rg_ley (ti_eq2 c20) (show rg (0 : Int32) 0 0 from ⟨by decide, by decide⟩) g18) (show rg (0 : Int32) 0 0 from ⟨by decide, by decide⟩)
        exact ok_some ⟨u11, trivial⟩
      · obtain i22_0 := p17.2.1.resolve_left c20
        have w23 : rg o_5 1 1 := rg_nel 1 c20 g18 (show rg (0 : Int32) 0 0 from ⟨by decide, by decide⟩) (by decide)
        refine ok_if (fun c24 => ?_) (fun c24 => ?_)
        · have w25 : rg q1 0 0 := rg_lex (ti_eq c24) (rg_ley (ti_eq2 c24) (show rg (0 : Int32) 0 0 from ⟨by decide, by decide⟩) (rg_any q1)) (show rg (0 : Int32) 0 0 from ⟨by decide, by decide⟩)
          refine ok_if (fun c26 => ?_) (fun c26 => ?_)
          · have w27 : rg q2 0 5 := rg_lex (ti_eq c26) (rg_ley (ti_eq2 c26) w14 i6_0) w14
            exact ok_some ⟨u11, trivial⟩
          · exact s_X6_saved_b41 v_g_cells v_g_passes v_g_rivers v_g_villages v_g_rains v_g_room v_g_passFrom v_g_passTo v_g_passWidth v_g_riverCell v_g_riverLevel v_g_riverWidth v_g_riverSalt v_g_villageCell v_g_need v_g_lawEnd v_g_code v_g_rain v_p_pumpTakes v_p_pumpFrom v_p_pumpTo v_n_day v_n_water v_n_salt v_n_seen v_n_took v_n_dryDays v_n_firstDry v_n_total v_p_pumpCell v_p_wanting v_p_passWidth v_p_riverWidth v_p_rain v_c_pumped v_c_today v_c_lacked v_c_level v_c_water v_c_salt v_c_stack v_d_day v_d_water v_d_salt v_d_seen v_d_took v_d_dryDays v_d_firstDry v_d_total q1 q2 q3 q4 u0 u1 u2 (rg_w w15 (by decide) (by decide)) u4 u5 u6 u7 u8 u9 u10 u11 i6_0 w14 i22_0 i13_1
        · exact s_X6_saved_b41 v_g_cells v_g_passes v_g_rivers v_g_villages v_g_rains v_g_room v_g_passFrom v_g_passTo v_g_passWidth v_g_riverCell v_g_riverLevel v_g_riverWidth v_g_riverSalt v_g_villageCell v_g_need v_g_lawEnd v_g_code v_g_rain v_p_pumpTakes v_p_pumpFrom v_p_pumpTo v_n_day v_n_water v_n_salt v_n_seen v_n_took v_n_dryDays v_n_firstDry v_n_total v_p_pumpCell v_p_wanting v_p_passWidth v_p_riverWidth v_p_rain v_c_pumped v_c_today v_c_lacked v_c_level v_c_water v_c_salt v_c_stack v_d_day v_d_water v_d_salt v_d_seen v_d_took v_d_dryDays v_d_firstDry v_d_total q1 q2 q3 q4 u0 u1 u2 (rg_w w15 (by decide) (by decide)) u4 u5 u6 u7 u8 u9 u10 u11 i6_0 w14 i22_0 i13_1
