abbrev P_X6_parts  : Int32 → Prop := (fun o : Int32 => True)
set_option maxRecDepth 100000 in
set_option maxHeartbeats 2000000 in
theorem s_X6_parts (v_g_cells : Int32) (v_g_passes : Int32) (v_g_passFrom : (Nat → Int32)) (v_g_passTo : (Nat → Int32)) (u0 : rg v_g_cells 0 12) (u1 : rg v_g_passes 0 20) (u2 : ac v_g_passFrom v_g_passes 0 11) (u3 : ac v_g_passTo v_g_passes 0 11) : ok (f_X6_parts v_g_cells v_g_passes v_g_passFrom v_g_passTo) P_X6_parts := by
  unfold f_X6_parts
  refine ok_bd (s_X3_bodiesWithout v_g_cells v_g_passes v_g_passFrom v_g_passTo (-1 : Int32) u0 u1 u2 u3) (fun o_1 p1 => ?_)
  exact ok_some trivial

abbrev P_X6_bridges  : Int32 → Prop := (fun o : Int32 => True)
set_option maxRecDepth 100000 in
set_option maxHeartbeats 2000000 in
theorem s_X6_bridges_b13  (v_g_cells : Int32) (v_g_passes : Int32) (v_g_passFrom : (Nat → Int32)) (v_g_passTo : (Nat → Int32)) (u0 : rg v_g_cells 0 12) (u1 : rg v_g_passes 0 20) (u2 : ac v_g_passFrom v_g_passes 0 11) (u3 : ac v_g_passTo v_g_passes 0 11) : ∀ (n : Nat) (x1 : Int32) (x2 : Int32) (x3 : Int32) (u4 : rg x3 0 20)  (hm : (20 - x3.toInt).toNat < n), ok (f_X6_bridges_b13 v_g_cells v_g_passes v_g_passFrom v_g_passTo n x1 x2 x3) P_X6_bridges := by
  intro n
  induction n with
  | zero =>
    intro x1 x2 x3 u4 hm
    exact absurd hm (Nat.not_lt_zero _)
  | succ n ih =>
    intro x1 x2 x3 u4 hm
    show ok (f_X6_bridges_b13_st (f_X6_bridges_b13 v_g_cells v_g_passes v_g_passFrom v_g_passTo n) v_g_cells v_g_passes v_g_passFrom v_g_passTo x1 x2 x3) P_X6_bridges
    unfold f_X6_bridges_b13_st
    refine ok_if (fun c1 => ?_) (fun c1 => ?_)
    · exact ok_some trivial
    · have w2 : rg x3 0 19 := rg_ltx 19 (ti_nle c1) u4 u1 (by decide)
      have w3 : rg v_g_passes 1 20 := rg_lty 1 (ti_nle c1) u4 u1 (by decide)
      refine ok_bd (s_X3_bodiesWithout v_g_cells v_g_passes v_g_passFrom v_g_passTo x3 u0 (rg_w w3 (by decide) (by decide)) u2 u3) (fun o_2 p4 => ?_)
      refine ok_if (fun c5 => ?_) (fun c5 => ?_)
      · exact ih x1 x2 (x3 + (1 : Int32)) (rg_w (rg_add (e := 1) (f := 20) w2 (show rg (1 : Int32) 1 1 from ⟨by decide, by decide⟩) (by decide) (by decide) (by decide) (by decide)) (by decide) (by decide)) (ms_up (y := (x3 + (1 : Int32))) (a := 0) hm (lt_ad w2 (show rg (1 : Int32) 1 1 from ⟨by decide, by decide⟩) (by decide) (by decide) (by decide)) (rg_w (rg_add (e := 1) (f := 20) w2 (show rg (1 : Int32) 1 1 from ⟨by decide, by decide⟩) (by decide) (by decide) (by decide) (by decide)) (by decide) (by decide)))
      · have w6 : rg x1 (-2147483648) 2147483646 := rg_ltx 2147483646 (ti_nle c5) (rg_any x1) (rg_any o_2) (by decide)
        have w7 : rg o_2 (-2147483647) 2147483647 := rg_lty (-2147483647) (ti_nle c5) (rg_any x1) (rg_any o_2) (by decide)
        exact ih x1 (x2 ||| ((1 : Int32) <<< (x3 &&& 31))) (x3 + (1 : Int32)) (rg_w (rg_add (e := 1) (f := 20) w2 (show rg (1 : Int32) 1 1 from ⟨by decide, by decide⟩) (by decide) (by decide) (by decide) (by decide)) (by decide) (by decide)) (ms_up (y := (x3 + (1 : Int32))) (a := 0) hm (lt_ad w2 (show rg (1 : Int32) 1 1 from ⟨by decide, by decide⟩) (by decide) (by decide) (by decide)) (rg_w (rg_add (e := 1) (f := 20) w2 (show rg (1 : Int32) 1 1 from ⟨by decide, by decide⟩) (by decide) (by decide) (by decide) (by decide)) (by decide) (by decide)))
set_option maxRecDepth 100000 in
set_option maxHeartbeats 2000000 in
theorem s_X6_bridges (v_g_cells : Int32) (v_g_passes : Int32) (v_g_passFrom : (Nat → Int32)) (v_g_passTo : (Nat → Int32)) (u0 : rg v_g_cells 0 12) (u1 : rg v_g_passes 0 20) (u2 : ac v_g_passFrom v_g_passes 0 11) (u3 : ac v_g_passTo v_g_passes 0 11) : ok (f_X6_bridges v_g_cells v_g_passes v_g_passFrom v_g_passTo) P_X6_bridges := by
  unfold f_X6_bridges
  refine ok_bd (s_X3_bodiesWithout v_g_cells v_g_passes v_g_passFrom v_g_passTo (-1 : Int32) u0 u1 u2 u3) (fun o_1 p1 => ?_)
  exact s_X6_bridges_b13 v_g_cells v_g_passes v_g_passFrom v_g_passTo u0 u1 u2 u3 _ o_1 (0 : Int32) (0 : Int32) (rg_w (show rg (0 : Int32) 0 0 from ⟨by decide, by decide⟩) (by decide) (by decide)) (fu_up (a := 0) (h := 20) (rg_w (show rg (0 : Int32) 0 0 from ⟨by decide, by decide⟩) (by decide) (by decide)) (by decide))

abbrev P_X6_worthOf  : Int32 × Int32 × (Nat → Int32) × (Nat → Int32) × (Nat → Int32) × (Nat → Int32) × Int32 × Int32 × (Nat → Int32) × (Nat → Int32) × (Nat → Int32) × (Nat → Int64) × (Nat → Int32) × Int32 × (Nat → Int32) × (Nat → Int64) × (Nat → Int32) × (Nat → Int32) × (Nat → Int32) × (Nat → Int32) × (Nat → Int32) → Prop := (fun o : Int32 × Int32 × (Nat → Int32) × (Nat → Int32) × (Nat → Int32) × (Nat → Int32) × Int32 × Int32 × (Nat → Int32) × (Nat → Int32) × (Nat → Int32) × (Nat → Int64) × (Nat → Int32) × Int32 × (Nat → Int32) × (Nat → Int64) × (Nat → Int32) × (Nat → Int32) × (Nat → Int32) × (Nat → Int32) × (Nat → Int32) => rg o.2.1 (-1) 11 ∧ True)
set_option maxRecDepth 100000 in
set_option maxHeartbeats 2000000 in
theorem s_X6_worthOf (v_g_cells : Int32) (v_g_passes : Int32) (v_g_rivers : Int32) (v_g_villages : Int32) (v_g_rains : Int32) (v_g_room : (Nat → Int32)) (v_g_passFrom : (Nat → Int32)) (v_g_passTo : (Nat → Int32)) (v_g_passWidth : (Nat → Int32)) (v_g_riverCell : (Nat → Int32)) (v_g_riverLevel : (Nat → Int32)) (v_g_riverWidth : (Nat → Int32)) (v_g_riverSalt : (Nat → Int32)) (v_g_villageCell : (Nat → Int32)) (v_g_need : (Nat → Int32)) (v_g_lawEnd : (Nat → Int32)) (v_g_code : (Nat → Int32)) (v_g_rain : (Nat → Int32)) (v_p_pumpTakes : Int32) (v_p_pumpFrom : Int32) (v_p_pumpTo : Int32) (v_n_day : Int32) (v_n_water : (Nat → Int32)) (v_n_salt : (Nat → Int64)) (v_n_seen : (Nat → Int32)) (v_n_took : (Nat → Int32)) (v_n_dryDays : (Nat → Int32)) (v_n_firstDry : (Nat → Int32)) (v_n_total : (Nat → Int32)) (v_p_pumpCell : Int32) (v_p_wanting : (Nat → Int32)) (v_p_passWidth : (Nat → Int32)) (v_p_riverWidth : (Nat → Int32)) (v_p_rain : (Nat → Int32)) (v_c_pumped : Int32) (v_c_today : Int32) (v_c_lacked : (Nat → Int32)) (v_c_level : (Nat → Int32)) (v_c_water : (Nat → Int32)) (v_c_salt : (Nat → Int64)) (v_c_stack : (Nat → Int32)) (v_d_day : Int32) (v_d_water : (Nat → Int32)) (v_d_salt : (Nat → Int64)) (v_d_seen : (Nat → Int32)) (v_d_took : (Nat → Int32)) (v_d_dryDays : (Nat → Int32)) (v_d_firstDry : (Nat → Int32)) (v_d_total : (Nat → Int32)) (q1 : Int32) (q2 : Int32) (q3 : Int32) (u0 : rg v_g_cells 0 12) (u1 : rg v_g_passes 0 20) (u2 : rg v_g_rivers 0 3) (u3 : rg v_g_villages 0 6) (u4 : rg v_g_rains 0 14) (u5 : ac v_g_passFrom v_g_passes 0 11) (u6 : ac v_g_passTo v_g_passes 0 11) (u7 : ac v_g_riverCell v_g_rivers 0 11) (u8 : ac v_g_villageCell v_g_villages 0 11) (u9 : al v_g_lawEnd 0 400) (u10 : rg v_p_pumpFrom 0 13) (u11 : rg v_p_pumpCell (-1) 11) (u12 : rg q1 0 5) (u13 : rg q3 1 200) : ok (f_X6_worthOf v_g_cells v_g_passes v_g_rivers v_g_villages v_g_rains v_g_room v_g_passFrom v_g_passTo v_g_passWidth v_g_riverCell v_g_riverLevel v_g_riverWidth v_g_riverSalt v_g_villageCell v_g_need v_g_lawEnd v_g_code v_g_rain v_p_pumpTakes v_p_pumpFrom v_p_pumpTo v_n_day v_n_water v_n_salt v_n_seen v_n_took v_n_dryDays v_n_firstDry v_n_total v_p_pumpCell v_p_wanting v_p_passWidth v_p_riverWidth v_p_rain v_c_pumped v_c_today v_c_lacked v_c_level v_c_water v_c_salt v_c_stack v_d_day v_d_water v_d_salt v_d_seen v_d_took v_d_dryDays v_d_firstDry v_d_total q1 q2 q3) P_X6_worthOf := by
  unfold f_X6_worthOf
  refine ok_bd13 (s_X6_tryAsTold v_g_passWidth v_g_riverWidth v_g_rain v_n_day v_n_water v_n_salt v_n_seen v_n_took v_n_dryDays v_n_firstDry v_n_total v_p_pumpCell v_p_wanting v_p_passWidth v_p_riverWidth v_p_rain v_d_day v_d_water v_d_salt v_d_seen v_d_took v_d_dryDays v_d_firstDry v_d_total u11) (fun o_1_0 o_1_1 o_1_2 o_1_3 o_1_4 o_1_5 o_1_6 o_1_7 o_1_8 o_1_9 o_1_10 o_1_11 o_1_12 p1 => ?_)
  have g2 : rg o_1_0 (-1) 11 := p1.1
  refine ok_bd (s_X4_letTake o_1_1 q2) (fun o_2 p3 => ?_)
  refine ok_bd16 (s_X6_lackingDays v_g_cells v_g_passes v_g_rivers v_g_villages v_g_rains v_g_room v_g_passFrom v_g_passTo v_g_riverCell v_g_riverLevel v_g_riverSalt v_g_villageCell v_g_need v_g_lawEnd v_g_code o_1_0 v_p_pumpTakes v_p_pumpFrom v_p_pumpTo o_2 o_1_2 o_1_3 o_1_4 v_c_pumped v_c_today v_c_lacked v_c_level v_c_water v_c_salt v_c_stack o_1_5 o_1_6 o_1_7 o_1_8 o_1_9 o_1_10 o_1_11 o_1_12 q1 q3 u0 u1 u2 u3 u4 u5 u6 u7 u8 u9 g2 u10 u12 u13) (fun o_3_0 o_3_1 o_3_2 o_3_3 o_3_4 o_3_5 o_3_6 o_3_7 o_3_8 o_3_9 o_3_10 o_3_11 o_3_12 o_3_13 o_3_14 o_3_15 p4 => ?_)
  exact ok_some ⟨g2, trivial⟩

abbrev P_X6_worth  : Int32 × Int32 × (Nat → Int32) × (Nat → Int32) × (Nat → Int32) × (Nat → Int32) × Int32 × Int32 × (Nat → Int32) × (Nat → Int32) × (Nat → Int32) × (Nat → Int64) × (Nat → Int32) × Int32 × (Nat → Int32) × (Nat → Int64) × (Nat → Int32) × (Nat → Int32) × (Nat → Int32) × (Nat → Int32) × (Nat → Int32) → Prop := (fun o : Int32 × Int32 × (Nat → Int32) × (Nat → Int32) × (Nat → Int32) × (Nat → Int32) × Int32 × Int32 × (Nat → Int32) × (Nat → Int32) × (Nat → Int32) × (Nat → Int64) × (Nat → Int32) × Int32 × (Nat → Int32) × (Nat → Int64) × (Nat → Int32) × (Nat → Int32) × (Nat → Int32) × (Nat → Int32) × (Nat → Int32) => rg o.2.1 (-1) 11 ∧ True)
set_option maxRecDepth 100000 in
set_option maxHeartbeats 2000000 in
theorem s_X6_worth (v_g_cells : Int32) (v_g_passes : Int32) (v_g_rivers : Int32) (v_g_villages : Int32) (v_g_rains : Int32) (v_g_room : (Nat → Int32)) (v_g_passFrom : (Nat → Int32)) (v_g_passTo : (Nat → Int32)) (v_g_passWidth : (Nat → Int32)) (v_g_riverCell : (Nat → Int32)) (v_g_riverLevel : (Nat → Int32)) (v_g_riverWidth : (Nat → Int32)) (v_g_riverSalt : (Nat → Int32)) (v_g_villageCell : (Nat → Int32)) (v_g_need : (Nat → Int32)) (v_g_lawEnd : (Nat → Int32)) (v_g_code : (Nat → Int32)) (v_g_rain : (Nat → Int32)) (v_p_pumpTakes : Int32) (v_p_pumpFrom : Int32) (v_p_pumpTo : Int32) (v_n_day : Int32) (v_n_water : (Nat → Int32)) (v_n_salt : (Nat → Int64)) (v_n_seen : (Nat → Int32)) (v_n_took : (Nat → Int32)) (v_n_dryDays : (Nat → Int32)) (v_n_firstDry : (Nat → Int32)) (v_n_total : (Nat → Int32)) (v_p_pumpCell : Int32) (v_p_wanting : (Nat → Int32)) (v_p_passWidth : (Nat → Int32)) (v_p_riverWidth : (Nat → Int32)) (v_p_rain : (Nat → Int32)) (v_c_pumped : Int32) (v_c_today : Int32) (v_c_lacked : (Nat → Int32)) (v_c_level : (Nat → Int32)) (v_c_water : (Nat → Int32)) (v_c_salt : (Nat → Int64)) (v_c_stack : (Nat → Int32)) (v_d_day : Int32) (v_d_water : (Nat → Int32)) (v_d_salt : (Nat → Int64)) (v_d_seen : (Nat → Int32)) (v_d_took : (Nat → Int32)) (v_d_dryDays : (Nat → Int32)) (v_d_firstDry : (Nat → Int32)) (v_d_total : (Nat → Int32)) (q1 : Int32) (q2 : Int32) (q3 : Int32) (u0 : rg v_g_cells 0 12) (u1 : rg v_g_passes 0 20) (u2 : rg v_g_rivers 0 3) (u3 : rg v_g_villages 0 6) (u4 : rg v_g_rains 0 14) (u5 : ac v_g_passFrom v_g_passes 0 11) (u6 : ac v_g_passTo v_g_passes 0 11) (u7 : ac v_g_riverCell v_g_rivers 0 11) (u8 : ac v_g_villageCell v_g_villages 0 11) (u9 : al v_g_lawEnd 0 400) (u10 : rg v_p_pumpFrom 0 13) (u11 : rg v_p_pumpCell (-1) 11) : ok (f_X6_worth v_g_cells v_g_passes v_g_rivers v_g_villages v_g_rains v_g_room v_g_passFrom v_g_passTo v_g_passWidth v_g_riverCell v_g_riverLevel v_g_riverWidth v_g_riverSalt v_g_villageCell v_g_need v_g_lawEnd v_g_code v_g_rain v_p_pumpTakes v_p_pumpFrom v_p_pumpTo v_n_day v_n_water v_n_salt v_n_seen v_n_took v_n_dryDays v_n_firstDry v_n_total v_p_pumpCell v_p_wanting v_p_passWidth v_p_riverWidth v_p_rain v_c_pumped v_c_today v_c_lacked v_c_level v_c_water v_c_salt v_c_stack v_d_day v_d_water v_d_salt v_d_seen v_d_took v_d_dryDays v_d_firstDry v_d_total q1 q2 q3) P_X6_worth := by
  unfold f_X6_worth
  refine ok_bd (s_X6_isVillage v_g_villages q1 u3) (fun o_1 p1 => ?_)
  have g2 : rg o_1 0 1 := p1.1
  refine ok_if (fun c4 => ?_) (fun c4 => ?_)
  · have w5 : rg o_1 0 0 := rg_lex (ti_eq c4) (rg_ley (ti_eq2 c4) (show rg (0 : Int32) 0 0 from ⟨by decide, by decide⟩) g2) (show rg (0 : Int32) 0 0 from ⟨by decide, by decide⟩)
    exact ok_some ⟨u11, trivial⟩
  · obtain ⟨i6_0, i6_1⟩ := p1.2.1.resolve_left c4
    have w7 : rg q1 0 5 := rg_ltx 5 i6_1 i6_0 u3 (by decide)
    have w8 : rg v_g_villages 1 6 := rg_lty 1 i6_1 i6_0 u3 (by decide)
    have w9 : rg o_1 1 1 := rg_nel 1 c4 g2 (show rg (0 : Int32) 0 0 from ⟨by decide, by decide⟩) (by decide)
    refine ok_if (fun c10 => ?_) (fun c10 => ?_)
    · have w11 : rg q2 (-2147483648) (-1) := rg_ltx (-1) (ti_lt c10) (rg_any q2) (show rg (0 : Int32) 0 0 from ⟨by decide, by decide⟩) (by decide)
      exact ok_some ⟨u11, trivial⟩
    · have w12 : rg q2 0 2147483647 := rg_ley (ti_nlt c10) (show rg (0 : Int32) 0 0 from ⟨by decide, by decide⟩) (rg_any q2)
      refine ok_bd (s_X6_allVillages v_g_villages (rg_w w8 (by decide) (by decide))) (fun o_4 p13 => ?_)
      have g14 : rg o_4 0 63 := p13.1
      refine ok_if (fun c15 => ?_) (fun c15 => ?_)
      · have w16 : rg q2 1 2147483647 := rg_lty 1 (ti_lt c15) g14 w12 (by decide)
        exact ok_some ⟨u11, trivial⟩
      · have w17 : rg q2 0 63 := rg_lex (ti_nlt c15) w12 g14
        refine ok_bd (s_X6_isAhead q3) (fun o_6 p18 => ?_)
        have g19 : rg o_6 0 1 := p18.1
        refine ok_if (fun c21 => ?_) (fun c21 => ?_)
        · have w22 : rg o_6 0 0 := rg_lex (ti_eq c21) (rg_ley (ti_eq2 c21) (show rg (0 : Int32) 0 0 from ⟨by decide, by decide⟩) g19) (show rg (0 : Int32) 0 0 from ⟨by decide, by decide⟩)
          exact ok_some ⟨u11, trivial⟩
        · obtain i23_0 := p18.2.1.resolve_left c21
          have w24 : rg o_6 1 1 := rg_nel 1 c21 g19 (show rg (0 : Int32) 0 0 from ⟨by decide, by decide⟩) (by decide)
          refine ok_bd21 (s_X6_worthOf v_g_cells v_g_passes v_g_rivers v_g_villages v_g_rains v_g_room v_g_passFrom v_g_passTo v_g_passWidth v_g_riverCell v_g_riverLevel v_g_riverWidth v_g_riverSalt v_g_villageCell v_g_need v_g_lawEnd v_g_code v_g_rain v_p_pumpTakes v_p_pumpFrom v_p_pumpTo v_n_day v_n_water v_n_salt v_n_seen v_n_took v_n_dryDays v_n_firstDry v_n_total v_p_pumpCell v_p_wanting v_p_passWidth v_p_riverWidth v_p_rain v_c_pumped v_c_today v_c_lacked v_c_level v_c_water v_c_salt v_c_stack v_d_day v_d_water v_d_salt v_d_seen v_d_took v_d_dryDays v_d_firstDry v_d_total q1 q2 q3 u0 u1 u2 (rg_w w8 (by decide) (by decide)) u4 u5 u6 u7 u8 u9 u10 u11 w7 i23_0) (fun o_8_0 o_8_1 o_8_2 o_8_3 o_8_4 o_8_5 o_8_6 o_8_7 o_8_8 o_8_9 o_8_10 o_8_11 o_8_12 o_8_13 o_8_14 o_8_15 o_8_16 o_8_17 o_8_18 o_8_19 o_8_20 p25 => ?_)
          have g26 : rg o_8_1 (-1) 11 := p25.1
          exact ok_some ⟨g26, trivial⟩

abbrev P_X6_ordersWithAhead  : Int32 → Prop := (fun o : Int32 => True)
set_option maxRecDepth 100000 in
set_option maxHeartbeats 2000000 in
theorem s_X6_ordersWithAhead (v_g_villages : Int32) (q1 : Int32) (u0 : rg v_g_villages 0 6) : ok (f_X6_ordersWithAhead v_g_villages q1) P_X6_ordersWithAhead := by
  unfold f_X6_ordersWithAhead
  refine ok_if (fun c1 => ?_) (fun c1 => ?_)
  · have w2 : rg q1 (-2147483648) (-1) := rg_ltx (-1) (ti_lt c1) (rg_any q1) (show rg (0 : Int32) 0 0 from ⟨by decide, by decide⟩) (by decide)
    exact ok_some trivial
  · have w3 : rg q1 0 2147483647 := rg_ley (ti_nlt c1) (show rg (0 : Int32) 0 0 from ⟨by decide, by decide⟩) (rg_any q1)
    refine ok_if (fun c4 => ?_) (fun c4 => ?_)
    · have w5 : rg q1 7 2147483647 := rg_ley (ti_le c4) (show rg (7 : Int32) 7 7 from ⟨by decide, by decide⟩) w3
      exact ok_some trivial
    · have w6 : rg q1 0 6 := rg_ltx 6 (ti_nle c4) w3 (show rg (7 : Int32) 7 7 from ⟨by decide, by decide⟩) (by decide)
      refine ok_if (fun c7 => ?_) (fun c7 => ?_)
      · have w8 : rg ((v_g_villages - (1 : Int32)) - q1) (-7) (-1) := rg_ltx (-1) (ti_lt c7) (rg_sub (e := (-7)) (f := 5) (rg_sub (e := (-1)) (f := 5) u0 (show rg (1 : Int32) 1 1 from ⟨by decide, by decide⟩) (by decide) (by decide) (by decide) (by decide)) w6 (by decide) (by decide) (by decide) (by decide)) (show rg (0 : Int32) 0 0 from ⟨by decide, by decide⟩) (by decide)
        exact ok_some trivial
      · have w9 : rg ((v_g_villages - (1 : Int32)) - q1) 0 5 := rg_ley (ti_nlt c7) (show rg (0 : Int32) 0 0 from ⟨by decide, by decide⟩) (rg_sub (e := (-7)) (f := 5) (rg_sub (e := (-1)) (f := 5) u0 (show rg (1 : Int32) 1 1 from ⟨by decide, by decide⟩) (by decide) (by decide) (by decide) (by decide)) w6 (by decide) (by decide) (by decide) (by decide))
        refine ok_if (fun c10 => ?_) (fun c10 => ?_)
        · refine ok_ck (inb_rg w6 (by decide) (by decide)) ?_
          refine ok_ck (inb_rg w9 (by decide) (by decide)) ?_
          exact ok_some trivial
        · have w11 : rg ((v_g_villages - (1 : Int32)) - q1) 7 5 := rg_ley (ti_nlt c10) (show rg (7 : Int32) 7 7 from ⟨by decide, by decide⟩) w9
          exact rg_no w11 (by decide)

abbrev P_X6_blame  : Int32 × Int32 × (Nat → Int32) × (Nat → Int32) × (Nat → Int32) × (Nat → Int32) × Int32 × Int32 × (Nat → Int32) × (Nat → Int32) × (Nat → Int32) × (Nat → Int64) × (Nat → Int32) × Int32 × (Nat → Int32) × (Nat → Int64) × (Nat → Int32) × (Nat → Int32) × (Nat → Int32) × (Nat → Int32) × (Nat → Int32) → Prop := (fun o : Int32 × Int32 × (Nat → Int32) × (Nat → Int32) × (Nat → Int32) × (Nat → Int32) × Int32 × Int32 × (Nat → Int32) × (Nat → Int32) × (Nat → Int32) × (Nat → Int64) × (Nat → Int32) × Int32 × (Nat → Int32) × (Nat → Int64) × (Nat → Int32) × (Nat → Int32) × (Nat → Int32) × (Nat → Int32) × (Nat → Int32) => rg o.2.1 (-1) 11 ∧ True)
set_option maxRecDepth 100000 in
set_option maxHeartbeats 2000000 in
theorem s_X6_blame_b39  (v_g_cells : Int32) (v_g_passes : Int32) (v_g_rivers : Int32) (v_g_villages : Int32) (v_g_rains : Int32) (v_g_room : (Nat → Int32)) (v_g_passFrom : (Nat → Int32)) (v_g_passTo : (Nat → Int32)) (v_g_passWidth : (Nat → Int32)) (v_g_riverCell : (Nat → Int32)) (v_g_riverLevel : (Nat → Int32)) (v_g_riverWidth : (Nat → Int32)) (v_g_riverSalt : (Nat → Int32)) (v_g_villageCell : (Nat → Int32)) (v_g_need : (Nat → Int32)) (v_g_lawEnd : (Nat → Int32)) (v_g_code : (Nat → Int32)) (v_g_rain : (Nat → Int32)) (v_p_pumpTakes : Int32) (v_p_pumpFrom : Int32) (v_p_pumpTo : Int32) (v_n_day : Int32) (v_n_water : (Nat → Int32)) (v_n_salt : (Nat → Int64)) (v_n_seen : (Nat → Int32)) (v_n_took : (Nat → Int32)) (v_n_dryDays : (Nat → Int32)) (v_n_firstDry : (Nat → Int32)) (v_n_total : (Nat → Int32)) (u0 : rg v_g_cells 0 12) (u1 : rg v_g_passes 0 20) (u2 : rg v_g_rivers 0 3) (u3 : rg v_g_villages 0 6) (u4 : rg v_g_rains 0 14) (u5 : ac v_g_passFrom v_g_passes 0 11) (u6 : ac v_g_passTo v_g_passes 0 11) (u7 : ac v_g_riverCell v_g_rivers 0 11) (u8 : ac v_g_villageCell v_g_villages 0 11) (u9 : al v_g_lawEnd 0 400) (u10 : rg v_p_pumpFrom 0 13) : ∀ (n : Nat) (v_p_pumpCell : Int32) (v_p_wanting : (Nat → Int32)) (v_p_passWidth : (Nat → Int32)) (v_p_riverWidth : (Nat → Int32)) (v_p_rain : (Nat → Int32)) (v_c_pumped : Int32) (v_c_today : Int32) (v_c_lacked : (Nat → Int32)) (v_c_level : (Nat → Int32)) (v_c_water : (Nat → Int32)) (v_c_salt : (Nat → Int64)) (v_c_stack : (Nat → Int32)) (v_d_day : Int32) (v_d_water : (Nat → Int32)) (v_d_salt : (Nat → Int64)) (v_d_seen : (Nat → Int32)) (v_d_took : (Nat → Int32)) (v_d_dryDays : (Nat → Int32)) (v_d_firstDry : (Nat → Int32)) (v_d_total : (Nat → Int32)) (x1 : Int32) (x2 : Int32) (x3 : Int32) (x4 : Int32) (x5 : Int32) (x6 : Int32) (u11 : rg v_p_pumpCell (-1) 11) (u12 : rg x1 0 5) (u13 : rg x2 0 5) (u14 : rg x3 1 200) (u15 : rg x4 0 63) (u16 : rg x6 0 64) (u17 : x1.toInt < v_g_villages.toInt) (u18 : x2.toInt < v_g_villages.toInt)  (hm : (64 - x6.toInt).toNat < n), ok (f_X6_blame_b39 v_g_cells v_g_passes v_g_rivers v_g_villages v_g_rains v_g_room v_g_passFrom v_g_passTo v_g_passWidth v_g_riverCell v_g_riverLevel v_g_riverWidth v_g_riverSalt v_g_villageCell v_g_need v_g_lawEnd v_g_code v_g_rain v_p_pumpTakes v_p_pumpFrom v_p_pumpTo v_n_day v_n_water v_n_salt v_n_seen v_n_took v_n_dryDays v_n_firstDry v_n_total n v_p_pumpCell v_p_wanting v_p_passWidth v_p_riverWidth v_p_rain v_c_pumped v_c_today v_c_lacked v_c_level v_c_water v_c_salt v_c_stack v_d_day v_d_water v_d_salt v_d_seen v_d_took v_d_dryDays v_d_firstDry v_d_total x1 x2 x3 x4 x5 x6) P_X6_blame := by
  intro n
  induction n with
  | zero =>
    intro v_p_pumpCell v_p_wanting v_p_passWidth v_p_riverWidth v_p_rain v_c_pumped v_c_today v_c_lacked v_c_level v_c_water v_c_salt v_c_stack v_d_day v_d_water v_d_salt v_d_seen v_d_took v_d_dryDays v_d_firstDry v_d_total x1 x2 x3 x4 x5 x6 u11 u12 u13 u14 u15 u16 u17 u18 hm
    exact absurd hm (Nat.not_lt_zero _)
  | succ n ih =>
    intro v_p_pumpCell v_p_wanting v_p_passWidth v_p_riverWidth v_p_rain v_c_pumped v_c_today v_c_lacked v_c_level v_c_water v_c_salt v_c_stack v_d_day v_d_water v_d_salt v_d_seen v_d_took v_d_dryDays v_d_firstDry v_d_total x1 x2 x3 x4 x5 x6 u11 u12 u13 u14 u15 u16 u17 u18 hm
    show ok (f_X6_blame_b39_st (f_X6_blame_b39 v_g_cells v_g_passes v_g_rivers v_g_villages v_g_rains v_g_room v_g_passFrom v_g_passTo v_g_passWidth v_g_riverCell v_g_riverLevel v_g_riverWidth v_g_riverSalt v_g_villageCell v_g_need v_g_lawEnd v_g_code v_g_rain v_p_pumpTakes v_p_pumpFrom v_p_pumpTo v_n_day v_n_water v_n_salt v_n_seen v_n_took v_n_dryDays v_n_firstDry v_n_total n) v_g_cells v_g_passes v_g_rivers v_g_villages v_g_rains v_g_room v_g_passFrom v_g_passTo v_g_passWidth v_g_riverCell v_g_riverLevel v_g_riverWidth v_g_riverSalt v_g_villageCell v_g_need v_g_lawEnd v_g_code v_g_rain v_p_pumpTakes v_p_pumpFrom v_p_pumpTo v_n_day v_n_water v_n_salt v_n_seen v_n_took v_n_dryDays v_n_firstDry v_n_total v_p_pumpCell v_p_wanting v_p_passWidth v_p_riverWidth v_p_rain v_c_pumped v_c_today v_c_lacked v_c_level v_c_water v_c_salt v_c_stack v_d_day v_d_water v_d_salt v_d_seen v_d_took v_d_dryDays v_d_firstDry v_d_total x1 x2 x3 x4 x5 x6) P_X6_blame
    unfold f_X6_blame_b39_st
    refine ok_if (fun c1 => ?_) (fun c1 => ?_)
    · have w2 : rg x6 1 64 := rg_lty 1 (ti_lt c1) u15 u16 (by decide)
      exact ok_some ⟨u11, trivial⟩
    · have w3 : rg x6 0 63 := rg_lex (ti_nlt c1) u16 u15
      refine ok_bd (s_X6_has x6 x2) (fun o_2 p4 => ?_)
      have g5 : rg o_2 0 1 := p4.1
      refine ok_if (fun c6 => ?_) (fun c6 => ?_)
      · have w7 : rg o_2 0 0 := rg_lex (ti_eq c6) (rg_ley (ti_eq2 c6) (show rg (0 : Int32) 0 0 from ⟨by decide, by decide⟩) g5) (show rg (0 : Int32) 0 0 from ⟨by decide, by decide⟩)
        refine ok_bd21 (s_X6_worthOf v_g_cells v_g_passes v_g_rivers v_g_villages v_g_rains v_g_room v_g_passFrom v_g_passTo v_g_passWidth v_g_riverCell v_g_riverLevel v_g_riverWidth v_g_riverSalt v_g_villageCell v_g_need v_g_lawEnd v_g_code v_g_rain v_p_pumpTakes v_p_pumpFrom v_p_pumpTo v_n_day v_n_water v_n_salt v_n_seen v_n_took v_n_dryDays v_n_firstDry v_n_total v_p_pumpCell v_p_wanting v_p_passWidth v_p_riverWidth v_p_rain v_c_pumped v_c_today v_c_lacked v_c_level v_c_water v_c_salt v_c_stack v_d_day v_d_water v_d_salt v_d_seen v_d_took v_d_dryDays v_d_firstDry v_d_total x1 (x6 ||| ((1 : Int32) <<< (x2 &&& 31))) x3 u0 u1 u2 u3 u4 u5 u6 u7 u8 u9 u10 u11 u12 u14) (fun o_4_0 o_4_1 o_4_2 o_4_3 o_4_4 o_4_5 o_4_6 o_4_7 o_4_8 o_4_9 o_4_10 o_4_11 o_4_12 o_4_13 o_4_14 o_4_15 o_4_16 o_4_17 o_4_18 o_4_19 o_4_20 p8 => ?_)
        have g9 : rg o_4_1 (-1) 11 := p8.1
        refine ok_bd21 (s_X6_worthOf v_g_cells v_g_passes v_g_rivers v_g_villages v_g_rains v_g_room v_g_passFrom v_g_passTo v_g_passWidth v_g_riverCell v_g_riverLevel v_g_riverWidth v_g_riverSalt v_g_villageCell v_g_need v_g_lawEnd v_g_code v_g_rain v_p_pumpTakes v_p_pumpFrom v_p_pumpTo v_n_day v_n_water v_n_salt v_n_seen v_n_took v_n_dryDays v_n_firstDry v_n_total o_4_1 o_4_2 o_4_3 o_4_4 o_4_5 o_4_6 o_4_7 o_4_8 o_4_9 o_4_10 o_4_11 o_4_12 o_4_13 o_4_14 o_4_15 o_4_16 o_4_17 o_4_18 o_4_19 o_4_20 x1 x6 x3 u0 u1 u2 u3 u4 u5 u6 u7 u8 u9 u10 g9 u12 u14) (fun o_5_0 o_5_1 o_5_2 o_5_3 o_5_4 o_5_5 o_5_6 o_5_7 o_5_8 o_5_9 o_5_10 o_5_11 o_5_12 o_5_13 o_5_14 o_5_15 o_5_16 o_5_17 o_5_18 o_5_19 o_5_20 p10 => ?_)
        have g11 : rg o_5_1 (-1) 11 := p10.1
        refine ok_bd (s_J6_bitCount_0f7a4 x6) (fun o_6 p12 => ?_)
        refine ok_bd (s_X6_ordersWithAhead v_g_villages o_6 u3) (fun o_7 p13 => ?_)
        exact ih o_5_1 o_5_2 o_5_3 o_5_4 o_5_5 o_5_6 o_5_7 o_5_8 o_5_9 o_5_10 o_5_11 o_5_12 o_5_13 o_5_14 o_5_15 o_5_16 o_5_17 o_5_18 o_5_19 o_5_20 x1 x2 x3 x4 (x5 + ((o_4_0 - o_5_0) * o_7)) (x6 + (1 : Int32)) g11 u12 u13 u14 u15 (rg_w (rg_add (e := 1) (f := 64) w3 (show rg (1 : Int32) 1 1 from ⟨by decide, by decide⟩) (by decide) (by decide) (by decide) (by decide)) (by decide) (by decide)) u17 u18 (ms_up (y := (x6 + (1 : Int32))) (a := 0) hm (lt_ad w3 (show rg (1 : Int32) 1 1 from ⟨by decide, by decide⟩) (by decide) (by decide) (by decide)) (rg_w (rg_add (e := 1) (f := 64) w3 (show rg (1 : Int32) 1 1 from ⟨by decide, by decide⟩) (by decide) (by decide) (by decide) (by decide)) (by decide) (by decide)))
      · have w14 : rg o_2 1 1 := rg_nel 1 c6 g5 (show rg (0 : Int32) 0 0 from ⟨by decide, by decide⟩) (by decide)
        exact ih v_p_pumpCell v_p_wanting v_p_passWidth v_p_riverWidth v_p_rain v_c_pumped v_c_today v_c_lacked v_c_level v_c_water v_c_salt v_c_stack v_d_day v_d_water v_d_salt v_d_seen v_d_took v_d_dryDays v_d_firstDry v_d_total x1 x2 x3 x4 x5 (x6 + (1 : Int32)) u11 u12 u13 u14 u15 (rg_w (rg_add (e := 1) (f := 64) w3 (show rg (1 : Int32) 1 1 from ⟨by decide, by decide⟩) (by decide) (by decide) (by decide) (by decide)) (by decide) (by decide)) u17 u18 (ms_up (y := (x6 + (1 : Int32))) (a := 0) hm (lt_ad w3 (show rg (1 : Int32) 1 1 from ⟨by decide, by decide⟩) (by decide) (by decide) (by decide)) (rg_w (rg_add (e := 1) (f := 64) w3 (show rg (1 : Int32) 1 1 from ⟨by decide, by decide⟩) (by decide) (by decide) (by decide) (by decide)) (by decide) (by decide)))
set_option maxRecDepth 100000 in
set_option maxHeartbeats 2000000 in
theorem s_X6_blame (v_g_cells : Int32) (v_g_passes : Int32) (v_g_rivers : Int32) (v_g_villages : Int32) (v_g_rains : Int32) (v_g_room : (Nat → Int32)) (v_g_passFrom : (Nat → Int32)) (v_g_passTo : (Nat → Int32)) (v_g_passWidth : (Nat → Int32)) (v_g_riverCell : (Nat → Int32)) (v_g_riverLevel : (Nat → Int32)) (v_g_riverWidth : (Nat → Int32)) (v_g_riverSalt : (Nat → Int32)) (v_g_villageCell : (Nat → Int32)) (v_g_need : (Nat → Int32)) (v_g_lawEnd : (Nat → Int32)) (v_g_code : (Nat → Int32)) (v_g_rain : (Nat → Int32)) (v_p_pumpTakes : Int32) (v_p_pumpFrom : Int32) (v_p_pumpTo : Int32) (v_n_day : Int32) (v_n_water : (Nat → Int32)) (v_n_salt : (Nat → Int64)) (v_n_seen : (Nat → Int32)) (v_n_took : (Nat → Int32)) (v_n_dryDays : (Nat → Int32)) (v_n_firstDry : (Nat → Int32)) (v_n_total : (Nat → Int32)) (v_p_pumpCell : Int32) (v_p_wanting : (Nat → Int32)) (v_p_passWidth : (Nat → Int32)) (v_p_riverWidth : (Nat → Int32)) (v_p_rain : (Nat → Int32)) (v_c_pumped : Int32) (v_c_today : Int32) (v_c_lacked : (Nat → Int32)) (v_c_level : (Nat → Int32)) (v_c_water : (Nat → Int32)) (v_c_salt : (Nat → Int64)) (v_c_stack : (Nat → Int32)) (v_d_day : Int32) (v_d_water : (Nat → Int32)) (v_d_salt : (Nat → Int64)) (v_d_seen : (Nat → Int32)) (v_d_took : (Nat → Int32)) (v_d_dryDays : (Nat → Int32)) (v_d_firstDry : (Nat → Int32)) (v_d_total : (Nat → Int32)) (q1 : Int32) (q2 : Int32) (q3 : Int32) (u0 : rg v_g_cells 0 12) (u1 : rg v_g_passes 0 20) (u2 : rg v_g_rivers 0 3) (u3 : rg v_g_villages 0 6) (u4 : rg v_g_rains 0 14) (u5 : ac v_g_passFrom v_g_passes 0 11) (u6 : ac v_g_passTo v_g_passes 0 11) (u7 : ac v_g_riverCell v_g_rivers 0 11) (u8 : ac v_g_villageCell v_g_villages 0 11) (u9 : al v_g_lawEnd 0 400) (u10 : rg v_p_pumpFrom 0 13) (u11 : rg v_p_pumpCell (-1) 11) : ok (f_X6_blame v_g_cells v_g_passes v_g_rivers v_g_villages v_g_rains v_g_room v_g_passFrom v_g_passTo v_g_passWidth v_g_riverCell v_g_riverLevel v_g_riverWidth v_g_riverSalt v_g_villageCell v_g_need v_g_lawEnd v_g_code v_g_rain v_p_pumpTakes v_p_pumpFrom v_p_pumpTo v_n_day v_n_water v_n_salt v_n_seen v_n_took v_n_dryDays v_n_firstDry v_n_total v_p_pumpCell v_p_wanting v_p_passWidth v_p_riverWidth v_p_rain v_c_pumped v_c_today v_c_lacked v_c_level v_c_water v_c_salt v_c_stack v_d_day v_d_water v_d_salt v_d_seen v_d_took v_d_dryDays v_d_firstDry v_d_total q1 q2 q3) P_X6_blame := by
  unfold f_X6_blame
  refine ok_bd (s_X6_isVillage v_g_villages q1 u3) (fun o_1 p1 => ?_)
  have g2 : rg o_1 0 1 := p1.1
  refine ok_if (fun c4 => ?_) (fun c4 => ?_)
  · have w5 : rg o_1 0 0 := rg_lex (ti_eq c4) (rg_ley (ti_eq2 c4) (show rg (0 : Int32) 0 0 from ⟨by decide, by decide⟩) g2) (show rg (0 : Int32) 0 0 from ⟨by decide, by decide⟩)
    exact ok_some ⟨u11, trivial⟩
  · obtain ⟨i6_0, i6_1⟩ := p1.2.1.resolve_left c4
    have w7 : rg q1 0 5 := rg_ltx 5 i6_1 i6_0 u3 (by decide)
    have w8 : rg v_g_villages 1 6 := rg_lty 1 i6_1 i6_0 u3 (by decide)
    have w9 : rg o_1 1 1 := rg_nel 1 c4 g2 (show rg (0 : Int32) 0 0 from ⟨by decide, by decide⟩) (by decide)
    refine ok_bd (s_X6_isVillage v_g_villages q2 (rg_w w8 (by decide) (by decide))) (fun o_3 p10 => ?_)
    have g11 : rg o_3 0 1 := p10.1
    refine ok_if (fun c13 => ?_) (fun c13 => ?_)
    · have w14 : rg o_3 0 0 := rg_lex (ti_eq c13) (rg_ley (ti_eq2 c13) (show rg (0 : Int32) 0 0 from ⟨by decide, by decide⟩) g11) (show rg (0 : Int32) 0 0 from ⟨by decide, by decide⟩)
      exact ok_some ⟨u11, trivial⟩
    · obtain ⟨i15_0, i15_1⟩ := p10.2.1.resolve_left c13
      have w16 : rg q2 0 5 := rg_ltx 5 i15_1 i15_0 w8 (by decide)
      have w17 : rg o_3 1 1 := rg_nel 1 c13 g11 (show rg (0 : Int32) 0 0 from ⟨by decide, by decide⟩) (by decide)
      refine ok_bd (s_X6_isAhead q3) (fun o_5 p18 => ?_)
      have g19 : rg o_5 0 1 := p18.1
      refine ok_if (fun c21 => ?_) (fun c21 => ?_)
      · have w22 : rg o_5 0 0 := rg_lex (ti_eq c21) (rg_ley (ti_eq2 c21) (show rg (0 : Int32) 0 0 from ⟨by decide, by decide⟩) g19) (show rg (0 : Int32) 0 0 from ⟨by decide, by decide⟩)
        exact ok_some ⟨u11, trivial⟩
      · obtain i23_0 := p18.2.1.resolve_left c21
        have w24 : rg o_5 1 1 := rg_nel 1 c21 g19 (show rg (0 : Int32) 0 0 from ⟨by decide, by decide⟩) (by decide)
        refine ok_bd (s_X6_allVillages v_g_villages (rg_w w8 (by decide) (by decide))) (fun o_7 p25 => ?_)
        have g26 : rg o_7 0 63 := p25.1
        exact s_X6_blame_b39 v_g_cells v_g_passes v_g_rivers v_g_villages v_g_rains v_g_room v_g_passFrom v_g_passTo v_g_passWidth v_g_riverCell v_g_riverLevel v_g_riverWidth v_g_riverSalt v_g_villageCell v_g_need v_g_lawEnd v_g_code v_g_rain v_p_pumpTakes v_p_pumpFrom v_p_pumpTo v_n_day v_n_water v_n_salt v_n_seen v_n_took v_n_dryDays v_n_firstDry v_n_total u0 u1 u2 (rg_w w8 (by decide) (by decide)) u4 u5 u6 u7 u8 u9 u10 _ v_p_pumpCell v_p_wanting v_p_passWidth v_p_riverWidth v_p_rain v_c_pumped v_c_today v_c_lacked v_c_level v_c_water v_c_salt v_c_stack v_d_day v_d_water v_d_salt v_d_seen v_d_took v_d_dryDays v_d_firstDry v_d_total q1 q2 q3 o_7 (0 : Int32) (0 : Int32) u11 w7 w16 i23_0 g26 (rg_w (show rg (0 : Int32) 0 0 from ⟨by decide, by decide⟩) (by decide) (by decide)) i6_1 i15_1 (fu_up (a := 0) (h := 64) (rg_w (show rg (0 : Int32) 0 0 from ⟨by decide, by decide⟩) (by decide) (by decide)) (by decide))

abbrev P_X6_tell  : Int32 × Int32 × (Nat → Int32) × (Nat → Int32) × (Nat → Int32) → Prop := (fun o : Int32 × Int32 × (Nat → Int32) × (Nat → Int32) × (Nat → Int32) => rg o.1 (-1) 19 ∧ rg o.2.1 0 20 ∧ al o.2.2.1 0 199 ∧ al o.2.2.2.1 0 11 ∧ True)
set_option maxRecDepth 100000 in
set_option maxHeartbeats 2000000 in
theorem s_X6_tell (v_g_cells : Int32) (v_e_told : Int32) (v_e_toldDay : (Nat → Int32)) (v_e_toldCell : (Nat → Int32)) (v_e_toldLevel : (Nat → Int32)) (q1 : Int32) (q2 : Int32) (q3 : Int32) (u0 : rg v_g_cells 0 12) (u1 : rg v_e_told 0 20) (u2 : al v_e_toldDay 0 199) (u3 : al v_e_toldCell 0 11) : ok (f_X6_tell v_g_cells v_e_told v_e_toldDay v_e_toldCell v_e_toldLevel q1 q2 q3) P_X6_tell := by
  unfold f_X6_tell
  refine ok_if (fun c1 => ?_) (fun c1 => ?_)
  · have w2 : rg q1 (-2147483648) (-1) := rg_ltx (-1) (ti_lt c1) (rg_any q1) (show rg (0 : Int32) 0 0 from ⟨by decide, by decide⟩) (by decide)
    exact ok_some ⟨(rg_w (show rg (-1 : Int32) (-1) (-1) from ⟨by decide, by decide⟩) (by decide) (by decide)), u1, u2, u3, trivial⟩
  · have w3 : rg q1 0 2147483647 := rg_ley (ti_nlt c1) (show rg (0 : Int32) 0 0 from ⟨by decide, by decide⟩) (rg_any q1)
    refine ok_if (fun c4 => ?_) (fun c4 => ?_)
    · have w5 : rg q1 200 2147483647 := rg_ley (ti_le c4) (show rg (200 : Int32) 200 200 from ⟨by decide, by decide⟩) w3
      exact ok_some ⟨(rg_w (show rg (-1 : Int32) (-1) (-1) from ⟨by decide, by decide⟩) (by decide) (by decide)), u1, u2, u3, trivial⟩
    · have w6 : rg q1 0 199 := rg_ltx 199 (ti_nle c4) w3 (show rg (200 : Int32) 200 200 from ⟨by decide, by decide⟩) (by decide)
      refine ok_bd (s_X6_isCell v_g_cells q2 u0) (fun o_3 p7 => ?_)
      have g8 : rg o_3 0 1 := p7.1
      refine ok_if (fun c10 => ?_) (fun c10 => ?_)
      · have w11 : rg o_3 0 0 := rg_lex (ti_eq c10) (rg_ley (ti_eq2 c10) (show rg (0 : Int32) 0 0 from ⟨by decide, by decide⟩) g8) (show rg (0 : Int32) 0 0 from ⟨by decide, by decide⟩)
        exact ok_some ⟨(rg_w (show rg (-1 : Int32) (-1) (-1) from ⟨by decide, by decide⟩) (by decide) (by decide)), u1, u2, u3, trivial⟩
      · obtain ⟨i12_0, i12_1⟩ := p7.2.1.resolve_left c10
        have w13 : rg q2 0 11 := rg_ltx 11 i12_1 i12_0 u0 (by decide)
        have w14 : rg v_g_cells 1 12 := rg_lty 1 i12_1 i12_0 u0 (by decide)
        have w15 : rg o_3 1 1 := rg_nel 1 c10 g8 (show rg (0 : Int32) 0 0 from ⟨by decide, by decide⟩) (by decide)
        refine ok_if (fun c16 => ?_) (fun c16 => ?_)
        · have w17 : rg q3 (-2147483648) (-1) := rg_ltx (-1) (ti_lt c16) (rg_any q3) (show rg (0 : Int32) 0 0 from ⟨by decide, by decide⟩) (by decide)
          exact ok_some ⟨(rg_w (show rg (-1 : Int32) (-1) (-1) from ⟨by decide, by decide⟩) (by decide) (by decide)), u1, u2, u3, trivial⟩
        · have w18 : rg q3 0 2147483647 := rg_ley (ti_nlt c16) (show rg (0 : Int32) 0 0 from ⟨by decide, by decide⟩) (rg_any q3)
          refine ok_if (fun c19 => ?_) (fun c19 => ?_)
          · have w20 : rg q3 0 9999 := rg_lex (ti_le c19) w18 (show rg (9999 : Int32) 9999 9999 from ⟨by decide, by decide⟩)
            refine ok_bd5 (s_X2_add v_e_told v_e_toldDay v_e_toldCell v_e_toldLevel q1 q2 q3 u1 u2 u3 w6 w13) (fun o_7_0 o_7_1 o_7_2 o_7_3 o_7_4 p21 => ?_)
            have g22 : rg o_7_0 (-1) 19 := p21.1
            have g23 : rg o_7_1 0 20 := p21.2.1
            have g24 : al o_7_2 0 199 := p21.2.2.1
            have g25 : al o_7_3 0 11 := p21.2.2.2.1
            exact ok_some ⟨g22, g23, g24, g25, trivial⟩
          · have w26 : rg q3 10000 2147483647 := rg_lty 10000 (ti_nle c19) (show rg (9999 : Int32) 9999 9999 from ⟨by decide, by decide⟩) w18 (by decide)
            exact ok_some ⟨(rg_w (show rg (-1 : Int32) (-1) (-1) from ⟨by decide, by decide⟩) (by decide) (by decide)), u1, u2, u3, trivial⟩

abbrev P_X6_forget (z_v_e_pumps : (Nat → Int32)) : Int32 × Int32 × (Nat → Int32) → Prop := (fun o : Int32 × Int32 × (Nat → Int32) => rg o.1 0 20 ∧ rg o.2.1 0 20 ∧ pk z_v_e_pumps o.2.2 ∧ True)
set_option maxRecDepth 100000 in
set_option maxHeartbeats 2000000 in
theorem s_X6_forget (v_e_told : Int32) (v_e_pumps : (Nat → Int32)) (u0 : rg v_e_told 0 20) : ok (f_X6_forget v_e_told v_e_pumps) (P_X6_forget v_e_pumps) := by
  unfold f_X6_forget
  refine ok_bd2 (s_X2_clear v_e_told v_e_pumps u0) (fun o_1_0 o_1_1 p1 => ?_)
  have g2 : rg o_1_0 0 20 := p1.1
  have g3 : pk v_e_pumps o_1_1 := p1.2.1
  exact ok_some ⟨u0, g2, g3, trivial⟩

abbrev P_X6_off  : Int32 × Int32 × (Nat → Int32) × (Nat → Int32) × (Nat → Int32) × (Nat → Int32) × Int32 × Int32 × (Nat → Int32) × (Nat → Int32) × (Nat → Int32) × (Nat → Int64) × (Nat → Int32) × Int32 × (Nat → Int32) × (Nat → Int64) × (Nat → Int32) × (Nat → Int32) × (Nat → Int32) × (Nat → Int32) × (Nat → Int32) → Prop := (fun o : Int32 × Int32 × (Nat → Int32) × (Nat → Int32) × (Nat → Int32) × (Nat → Int32) × Int32 × Int32 × (Nat → Int32) × (Nat → Int32) × (Nat → Int32) × (Nat → Int64) × (Nat → Int32) × Int32 × (Nat → Int32) × (Nat → Int64) × (Nat → Int32) × (Nat → Int32) × (Nat → Int32) × (Nat → Int32) × (Nat → Int32) => rg o.1 (-2) 19 ∧ rg o.2.1 (-1) 11 ∧ True)
set_option maxRecDepth 100000 in
set_option maxHeartbeats 2000000 in
theorem s_X6_off (v_g_cells : Int32) (v_g_passes : Int32) (v_g_rivers : Int32) (v_g_villages : Int32) (v_g_rains : Int32) (v_g_room : (Nat → Int32)) (v_g_water : (Nat → Int32)) (v_g_passFrom : (Nat → Int32)) (v_g_passTo : (Nat → Int32)) (v_g_passWidth : (Nat → Int32)) (v_g_riverCell : (Nat → Int32)) (v_g_riverLevel : (Nat → Int32)) (v_g_riverWidth : (Nat → Int32)) (v_g_riverSalt : (Nat → Int32)) (v_g_villageCell : (Nat → Int32)) (v_g_need : (Nat → Int32)) (v_g_lawEnd : (Nat → Int32)) (v_g_code : (Nat → Int32)) (v_g_rain : (Nat → Int32)) (v_e_told : Int32) (v_e_toldDay : (Nat → Int32)) (v_e_toldCell : (Nat → Int32)) (v_e_toldLevel : (Nat → Int32)) (v_ep_pumpTakes : Int32) (v_ep_pumpFrom : Int32) (v_ep_pumpTo : Int32) (v_ep_pumpCell : Int32) (v_ep_wanting : (Nat → Int32)) (v_ep_passWidth : (Nat → Int32)) (v_ep_riverWidth : (Nat → Int32)) (v_ep_rain : (Nat → Int32)) (v_ec_pumped : Int32) (v_ec_today : Int32) (v_ec_lacked : (Nat → Int32)) (v_ec_level : (Nat → Int32)) (v_ec_water : (Nat → Int32)) (v_ec_salt : (Nat → Int64)) (v_ec_stack : (Nat → Int32)) (v_ed_day : Int32) (v_ed_water : (Nat → Int32)) (v_ed_salt : (Nat → Int64)) (v_ed_seen : (Nat → Int32)) (v_ed_took : (Nat → Int32)) (v_ed_dryDays : (Nat → Int32)) (v_ed_firstDry : (Nat → Int32)) (v_ed_total : (Nat → Int32)) (q1 : Int32) (u0 : rg v_g_cells 0 12) (u1 : rg v_g_passes 0 20) (u2 : rg v_g_rivers 0 3) (u3 : rg v_g_villages 0 6) (u4 : rg v_g_rains 0 14) (u5 : ac v_g_passFrom v_g_passes 0 11) (u6 : ac v_g_passTo v_g_passes 0 11) (u7 : ac v_g_riverCell v_g_rivers 0 11) (u8 : ac v_g_villageCell v_g_villages 0 11) (u9 : al v_g_lawEnd 0 400) (u10 : rg v_e_told 0 20) (u11 : al v_e_toldDay 0 199) (u12 : al v_e_toldCell 0 11) (u13 : rg v_ep_pumpFrom 0 13) (u14 : rg v_ep_pumpCell (-1) 11) : ok (f_X6_off v_g_cells v_g_passes v_g_rivers v_g_villages v_g_rains v_g_room v_g_water v_g_passFrom v_g_passTo v_g_passWidth v_g_riverCell v_g_riverLevel v_g_riverWidth v_g_riverSalt v_g_villageCell v_g_need v_g_lawEnd v_g_code v_g_rain v_e_told v_e_toldDay v_e_toldCell v_e_toldLevel v_ep_pumpTakes v_ep_pumpFrom v_ep_pumpTo v_ep_pumpCell v_ep_wanting v_ep_passWidth v_ep_riverWidth v_ep_rain v_ec_pumped v_ec_today v_ec_lacked v_ec_level v_ec_water v_ec_salt v_ec_stack v_ed_day v_ed_water v_ed_salt v_ed_seen v_ed_took v_ed_dryDays v_ed_firstDry v_ed_total q1) P_X6_off := by
  unfold f_X6_off
  refine ok_bd (s_X6_isKnown v_e_told q1 u10) (fun o_1 p1 => ?_)
  have g2 : rg o_1 0 1 := p1.1
  refine ok_if (fun c4 => ?_) (fun c4 => ?_)
  · have w5 : rg o_1 0 0 := rg_lex (ti_eq c4) (rg_ley (ti_eq2 c4) (show rg (0 : Int32) 0 0 from ⟨by decide, by decide⟩) g2) (show rg (0 : Int32) 0 0 from ⟨by decide, by decide⟩)
    exact ok_some ⟨(rg_w (show rg (-1 : Int32) (-1) (-1) from ⟨by decide, by decide⟩) (by decide) (by decide)), u14, trivial⟩
  · obtain i6_0 := p1.2.1.resolve_left c4
    have w7 : rg o_1 1 1 := rg_nel 1 c4 g2 (show rg (0 : Int32) 0 0 from ⟨by decide, by decide⟩) (by decide)
    refine ok_bd21 (s_X2_firstOff v_e_toldDay v_e_toldCell v_e_toldLevel v_g_cells v_g_passes v_g_rivers v_g_villages v_g_rains v_g_room v_g_water v_g_passFrom v_g_passTo v_g_passWidth v_g_riverCell v_g_riverLevel v_g_riverWidth v_g_riverSalt v_g_villageCell v_g_need v_g_lawEnd v_g_code v_g_rain v_ep_pumpTakes v_ep_pumpFrom v_ep_pumpTo v_ep_pumpCell v_ep_wanting v_ep_passWidth v_ep_riverWidth v_ep_rain v_ec_pumped v_ec_today v_ec_lacked v_ec_level v_ec_water v_ec_salt v_ec_stack v_ed_day v_ed_water v_ed_salt v_ed_seen v_ed_took v_ed_dryDays v_ed_firstDry v_ed_total q1 u11 u12 u0 u1 u2 u3 u4 u5 u6 u7 u8 u9 u13 u14) (fun o_3_0 o_3_1 o_3_2 o_3_3 o_3_4 o_3_5 o_3_6 o_3_7 o_3_8 o_3_9 o_3_10 o_3_11 o_3_12 o_3_13 o_3_14 o_3_15 o_3_16 o_3_17 o_3_18 o_3_19 o_3_20 p8 => ?_)
    have g9 : rg o_3_0 (-2) 19 := p8.1
    have g10 : rg o_3_1 (-1) 11 := p8.2.1
    exact ok_some ⟨g9, g10, trivial⟩

abbrev P_X6_read (z_v_e_pumps : (Nat → Int32)) : Int32 × Int32 × Int32 × (Nat → Int32) × Int32 × Int32 × Int32 × Int32 × Int32 × Int32 × Int32 × Int32 × (Nat → Int32) × (Nat → Int32) × (Nat → Int64) × (Nat → Int64) × (Nat → Int64) × Int32 × Int32 × Int32 × Int32 × Int32 × (Nat → Int32) × (Nat → Int32) × (Nat → Int32) × (Nat → Int32) × (Nat → Int32) × (Nat → Int32) × (Nat → Int32) × (Nat → Int32) × (Nat → Int32) × (Nat → Int32) × (Nat → Int32) × (Nat → Int32) × (Nat → Int32) × (Nat → Int32) × (Nat → Int32) × Int32 × Int32 × Int32 × Int32 × Int32 × (Nat → Int32) × (Nat → Int32) × (Nat → Int32) × (Nat → Int32) × (Nat → Int32) × (Nat → Int32) × (Nat → Int32) × (Nat → Int32) × (Nat → Int32) × (Nat → Int32) × (Nat → Int32) × (Nat → Int32) × (Nat → Int32) × (Nat → Int32) × (Nat → Int32) × Int32 × (Nat → Int32) × (Nat → Int64) × (Nat → Int32) × (Nat → Int32) × (Nat → Int32) × (Nat → Int32) × (Nat → Int32) × Int32 × (Nat → Int32) → Prop := (fun o : Int32 × Int32 × Int32 × (Nat → Int32) × Int32 × Int32 × Int32 × Int32 × Int32 × Int32 × Int32 × Int32 × (Nat → Int32) × (Nat → Int32) × (Nat → Int64) × (Nat → Int64) × (Nat → Int64) × Int32 × Int32 × Int32 × Int32 × Int32 × (Nat → Int32) × (Nat → Int32) × (Nat → Int32) × (Nat → Int32) × (Nat → Int32) × (Nat → Int32) × (Nat → Int32) × (Nat → Int32) × (Nat → Int32) × (Nat → Int32) × (Nat → Int32) × (Nat → Int32) × (Nat → Int32) × (Nat → Int32) × (Nat → Int32) × Int32 × Int32 × Int32 × Int32 × Int32 × (Nat → Int32) × (Nat → Int32) × (Nat → Int32) × (Nat → Int32) × (Nat → Int32) × (Nat → Int32) × (Nat → Int32) × (Nat → Int32) × (Nat → Int32) × (Nat → Int32) × (Nat → Int32) × (Nat → Int32) × (Nat → Int32) × (Nat → Int32) × (Nat → Int32) × Int32 × (Nat → Int32) × (Nat → Int64) × (Nat → Int32) × (Nat → Int32) × (Nat → Int32) × (Nat → Int32) × (Nat → Int32) × Int32 × (Nat → Int32) => rg o.2.1 0 2000 ∧ rg o.2.2.2.2.1 0 402 ∧ rg o.2.2.2.2.2.1 0 400 ∧ rg o.2.2.2.2.2.2.1 (-1) 11 ∧ rg o.2.2.2.2.2.2.2.2.2.2.2.2.2.2.2.2.2.1 0 12 ∧ rg o.2.2.2.2.2.2.2.2.2.2.2.2.2.2.2.2.2.2.1 0 20 ∧ rg o.2.2.2.2.2.2.2.2.2.2.2.2.2.2.2.2.2.2.2.1 0 3 ∧ rg o.2.2.2.2.2.2.2.2.2.2.2.2.2.2.2.2.2.2.2.2.1 0 6 ∧ rg o.2.2.2.2.2.2.2.2.2.2.2.2.2.2.2.2.2.2.2.2.2.1 0 14 ∧ al o.2.2.2.2.2.2.2.2.2.2.2.2.2.2.2.2.2.2.2.2.2.2.2.2.2.2.2.2.2.2.2.2.2.2.1 0 400 ∧ rg o.2.2.2.2.2.2.2.2.2.2.2.2.2.2.2.2.2.2.2.2.2.2.2.2.2.2.2.2.2.2.2.2.2.2.2.2.2.1 0 12 ∧ rg o.2.2.2.2.2.2.2.2.2.2.2.2.2.2.2.2.2.2.2.2.2.2.2.2.2.2.2.2.2.2.2.2.2.2.2.2.2.2.1 0 20 ∧ rg o.2.2.2.2.2.2.2.2.2.2.2.2.2.2.2.2.2.2.2.2.2.2.2.2.2.2.2.2.2.2.2.2.2.2.2.2.2.2.2.1 0 3 ∧ rg o.2.2.2.2.2.2.2.2.2.2.2.2.2.2.2.2.2.2.2.2.2.2.2.2.2.2.2.2.2.2.2.2.2.2.2.2.2.2.2.2.1 0 6 ∧ rg o.2.2.2.2.2.2.2.2.2.2.2.2.2.2.2.2.2.2.2.2.2.2.2.2.2.2.2.2.2.2.2.2.2.2.2.2.2.2.2.2.2.1 0 14 ∧ ac o.2.2.2.2.2.2.2.2.2.2.2.2.2.2.2.2.2.2.2.2.2.2.2.2.2.2.2.2.2.2.2.2.2.2.2.2.2.2.2.2.2.2.2.2.2.1 o.2.2.2.2.2.2.2.2.2.2.2.2.2.2.2.2.2.2.2.2.2.2.2.2.2.2.2.2.2.2.2.2.2.2.2.2.2.2.1 0 11 ∧ ac o.2.2.2.2.2.2.2.2.2.2.2.2.2.2.2.2.2.2.2.2.2.2.2.2.2.2.2.2.2.2.2.2.2.2.2.2.2.2.2.2.2.2.2.2.2.2.1 o.2.2.2.2.2.2.2.2.2.2.2.2.2.2.2.2.2.2.2.2.2.2.2.2.2.2.2.2.2.2.2.2.2.2.2.2.2.2.1 0 11 ∧ ac o.2.2.2.2.2.2.2.2.2.2.2.2.2.2.2.2.2.2.2.2.2.2.2.2.2.2.2.2.2.2.2.2.2.2.2.2.2.2.2.2.2.2.2.2.2.2.2.2.1 o.2.2.2.2.2.2.2.2.2.2.2.2.2.2.2.2.2.2.2.2.2.2.2.2.2.2.2.2.2.2.2.2.2.2.2.2.2.2.2.1 0 11 ∧ ac o.2.2.2.2.2.2.2.2.2.2.2.2.2.2.2.2.2.2.2.2.2.2.2.2.2.2.2.2.2.2.2.2.2.2.2.2.2.2.2.2.2.2.2.2.2.2.2.2.2.2.2.2.1 o.2.2.2.2.2.2.2.2.2.2.2.2.2.2.2.2.2.2.2.2.2.2.2.2.2.2.2.2.2.2.2.2.2.2.2.2.2.2.2.2.1 0 11 ∧ al o.2.2.2.2.2.2.2.2.2.2.2.2.2.2.2.2.2.2.2.2.2.2.2.2.2.2.2.2.2.2.2.2.2.2.2.2.2.2.2.2.2.2.2.2.2.2.2.2.2.2.2.2.2.2.1 0 400 ∧ rg o.2.2.2.2.2.2.2.2.2.2.2.2.2.2.2.2.2.2.2.2.2.2.2.2.2.2.2.2.2.2.2.2.2.2.2.2.2.2.2.2.2.2.2.2.2.2.2.2.2.2.2.2.2.2.2.2.2.2.2.2.2.2.2.2.2.1 0 20 ∧ pk z_v_e_pumps o.2.2.2.2.2.2.2.2.2.2.2.2.2.2.2.2.2.2.2.2.2.2.2.2.2.2.2.2.2.2.2.2.2.2.2.2.2.2.2.2.2.2.2.2.2.2.2.2.2.2.2.2.2.2.2.2.2.2.2.2.2.2.2.2.2.2 ∧ rg o.2.1 0 0 ∧ True)
set_option maxRecDepth 100000 in
set_option maxHeartbeats 2000000 in
theorem s_X6_read (v_w_tape : (Nat → Int32)) (v_w_length : Int32) (v_w_faultPlace : Int32) (v_w_held : (Nat → Int32)) (v_r_next : Int32) (v_r_codeLength : Int32) (v_r_ownCell : Int32) (v_r_stopped : Int32) (v_r_fault : Int32) (v_r_faultPlace : Int32) (v_r_laterFault : Int32) (v_r_laterPlace : Int32) (v_r_kind : (Nat → Int32)) (v_r_start : (Nat → Int32)) (v_r_value : (Nat → Int64)) (v_r_cellName : (Nat → Int64)) (v_r_villageName : (Nat → Int64)) (v_rg_cells : Int32) (v_rg_passes : Int32) (v_rg_rivers : Int32) (v_rg_villages : Int32) (v_rg_rains : Int32) (v_rg_room : (Nat → Int32)) (v_rg_water : (Nat → Int32)) (v_rg_ways : (Nat → Int32)) (v_rg_passFrom : (Nat → Int32)) (v_rg_passTo : (Nat → Int32)) (v_rg_passWidth : (Nat → Int32)) (v_rg_riverCell : (Nat → Int32)) (v_rg_riverLevel : (Nat → Int32)) (v_rg_riverWidth : (Nat → Int32)) (v_rg_riverSalt : (Nat → Int32)) (v_rg_villageCell : (Nat → Int32)) (v_rg_need : (Nat → Int32)) (v_rg_lawEnd : (Nat → Int32)) (v_rg_code : (Nat → Int32)) (v_rg_rain : (Nat → Int32)) (v_g_cells : Int32) (v_g_passes : Int32) (v_g_rivers : Int32) (v_g_villages : Int32) (v_g_rains : Int32) (v_g_room : (Nat → Int32)) (v_g_water : (Nat → Int32)) (v_g_ways : (Nat → Int32)) (v_g_passFrom : (Nat → Int32)) (v_g_passTo : (Nat → Int32)) (v_g_passWidth : (Nat → Int32)) (v_g_riverCell : (Nat → Int32)) (v_g_riverLevel : (Nat → Int32)) (v_g_riverWidth : (Nat → Int32)) (v_g_riverSalt : (Nat → Int32)) (v_g_villageCell : (Nat → Int32)) (v_g_need : (Nat → Int32)) (v_g_lawEnd : (Nat → Int32)) (v_g_code : (Nat → Int32)) (v_g_rain : (Nat → Int32)) (v_n_day : Int32) (v_n_water : (Nat → Int32)) (v_n_salt : (Nat → Int64)) (v_n_seen : (Nat → Int32)) (v_n_took : (Nat → Int32)) (v_n_dryDays : (Nat → Int32)) (v_n_firstDry : (Nat → Int32)) (v_n_total : (Nat → Int32)) (v_e_told : Int32) (v_e_pumps : (Nat → Int32)) (u0 : al v_w_tape (-128) 127) (u1 : rg v_w_length 0 2000) (u2 : rg v_r_next 0 402) (u3 : rg v_r_codeLength 0 400) (u4 : rg v_r_ownCell (-1) 11) (u5 : rg v_rg_cells 0 12) (u6 : rg v_rg_passes 0 20) (u7 : rg v_rg_rivers 0 3) (u8 : rg v_rg_villages 0 6) (u9 : rg v_rg_rains 0 14) (u10 : al v_rg_lawEnd 0 400) (u11 : rg v_g_cells 0 12) (u12 : rg v_g_passes 0 20) (u13 : rg v_g_rivers 0 3) (u14 : rg v_g_villages 0 6) (u15 : rg v_g_rains 0 14) (u16 : ac v_g_passFrom v_g_passes 0 11) (u17 : ac v_g_passTo v_g_passes 0 11) (u18 : ac v_g_riverCell v_g_rivers 0 11) (u19 : ac v_g_villageCell v_g_villages 0 11) (u20 : al v_g_lawEnd 0 400) (u21 : rg v_e_told 0 20) : ok (f_X6_read v_w_tape v_w_length v_w_faultPlace v_w_held v_r_next v_r_codeLength v_r_ownCell v_r_stopped v_r_fault v_r_faultPlace v_r_laterFault v_r_laterPlace v_r_kind v_r_start v_r_value v_r_cellName v_r_villageName v_rg_cells v_rg_passes v_rg_rivers v_rg_villages v_rg_rains v_rg_room v_rg_water v_rg_ways v_rg_passFrom v_rg_passTo v_rg_passWidth v_rg_riverCell v_rg_riverLevel v_rg_riverWidth v_rg_riverSalt v_rg_villageCell v_rg_need v_rg_lawEnd v_rg_code v_rg_rain v_g_cells v_g_passes v_g_rivers v_g_villages v_g_rains v_g_room v_g_water v_g_ways v_g_passFrom v_g_passTo v_g_passWidth v_g_riverCell v_g_riverLevel v_g_riverWidth v_g_riverSalt v_g_villageCell v_g_need v_g_lawEnd v_g_code v_g_rain v_n_day v_n_water v_n_salt v_n_seen v_n_took v_n_dryDays v_n_firstDry v_n_total v_e_told v_e_pumps) (P_X6_read v_e_pumps) := by
  unfold f_X6_read
  refine ok_bd34 (s_X5_readAll v_w_tape v_r_next v_r_codeLength v_r_ownCell v_r_stopped v_r_fault v_r_faultPlace v_r_laterFault v_r_laterPlace v_r_kind v_r_start v_r_value v_r_cellName v_r_villageName v_rg_cells v_rg_passes v_rg_rivers v_rg_villages v_rg_rains v_rg_room v_rg_water v_rg_ways v_rg_passFrom v_rg_passTo v_rg_passWidth v_rg_riverCell v_rg_riverLevel v_rg_riverWidth v_rg_riverSalt v_rg_villageCell v_rg_need v_rg_lawEnd v_rg_code v_rg_rain v_w_length u0 u2 u3 u4 u5 u6 u7 u8 u9 u10 u1) (fun o_1_0 o_1_1 o_1_2 o_1_3 o_1_4 o_1_5 o_1_6 o_1_7 o_1_8 o_1_9 o_1_10 o_1_11 o_1_12 o_1_13 o_1_14 o_1_15 o_1_16 o_1_17 o_1_18 o_1_19 o_1_20 o_1_21 o_1_22 o_1_23 o_1_24 o_1_25 o_1_26 o_1_27 o_1_28 o_1_29 o_1_30 o_1_31 o_1_32 o_1_33 p1 => ?_)
  have g2 : rg o_1_1 0 402 := p1.1
  have g3 : rg o_1_2 0 400 := p1.2.1
  have g4 : rg o_1_3 (-1) 11 := p1.2.2.1
  have g5 : rg o_1_14 0 12 := p1.2.2.2.1
  have g6 : rg o_1_15 0 20 := p1.2.2.2.2.1
  have g7 : rg o_1_16 0 3 := p1.2.2.2.2.2.1
  have g8 : rg o_1_17 0 6 := p1.2.2.2.2.2.2.1
  have g9 : rg o_1_18 0 14 := p1.2.2.2.2.2.2.2.1
  have g10 : al o_1_31 0 400 := p1.2.2.2.2.2.2.2.2.1
  have g11 : ca o_1_5 o_1_7 o_1_22 o_1_15 := p1.2.2.2.2.2.2.2.2.2.1
  have g12 : ca o_1_5 o_1_7 o_1_23 o_1_15 := p1.2.2.2.2.2.2.2.2.2.2.1
  have g13 : ca o_1_5 o_1_7 o_1_25 o_1_16 := p1.2.2.2.2.2.2.2.2.2.2.2.1
  have g14 : ca o_1_5 o_1_7 o_1_29 o_1_17 := p1.2.2.2.2.2.2.2.2.2.2.2.2.1
  refine ok_bd (s_X5_placeOfFault o_1_5 o_1_6 o_1_8) (fun o_2 p16 => ?_)
  refine ok_if (fun c17 => ?_) (fun c17 => ?_)
  · obtain ⟨j18a, j18b⟩ := p1.2.2.2.2.2.2.2.2.2.2.2.2.2.1.resolve_left (fun q => q c17)
    have w19 : rg o_1_0 0 0 := rg_lex (ti_eq c17) (rg_ley (ti_eq2 c17) (show rg (0 : Int32) 0 0 from ⟨by decide, by decide⟩) (rg_any o_1_0)) (show rg (0 : Int32) 0 0 from ⟨by decide, by decide⟩)
    refine ok_bd20 (s_X3_become o_1_14 o_1_15 o_1_16 o_1_17 o_1_18 o_1_19 o_1_20 o_1_21 o_1_22 o_1_23 o_1_24 o_1_25 o_1_26 o_1_27 o_1_28 o_1_29 o_1_30 o_1_31 o_1_32 o_1_33 v_g_cells v_g_passes v_g_rivers v_g_villages v_g_rains v_g_room v_g_water v_g_ways v_g_passFrom v_g_passTo v_g_passWidth v_g_riverCell v_g_riverLevel v_g_riverWidth v_g_riverSalt v_g_villageCell v_g_need v_g_lawEnd v_g_code v_g_rain g5 g6 g7 g8 g9 (g11 j18a j18b) (g12 j18a j18b) (g13 j18a j18b) (g14 j18a j18b) g10 u11 u12 u13 u14 u15 u16 u17 u18 u19 u20) (fun o_4_0 o_4_1 o_4_2 o_4_3 o_4_4 o_4_5 o_4_6 o_4_7 o_4_8 o_4_9 o_4_10 o_4_11 o_4_12 o_4_13 o_4_14 o_4_15 o_4_16 o_4_17 o_4_18 o_4_19 p20 => ?_)
    have g21 : rg o_4_0 0 12 := p20.1
    have g22 : rg o_4_1 0 20 := p20.2.1
    have g23 : rg o_4_2 0 3 := p20.2.2.1
    have g24 : rg o_4_3 0 6 := p20.2.2.2.1
    have g25 : rg o_4_4 0 14 := p20.2.2.2.2.1
    have g26 : ac o_4_8 o_4_1 0 11 := p20.2.2.2.2.2.1
    have g27 : ac o_4_9 o_4_1 0 11 := p20.2.2.2.2.2.2.1
    have g28 : ac o_4_11 o_4_2 0 11 := p20.2.2.2.2.2.2.2.1
    have g29 : ac o_4_15 o_4_3 0 11 := p20.2.2.2.2.2.2.2.2.1
    have g30 : al o_4_17 0 400 := p20.2.2.2.2.2.2.2.2.2.1
    refine ok_bd11 (s_X6_startAnew o_4_6 v_w_held v_n_day v_n_water v_n_salt v_n_seen v_n_took v_n_dryDays v_n_firstDry v_n_total v_e_told v_e_pumps u21) (fun o_5_0 o_5_1 o_5_2 o_5_3 o_5_4 o_5_5 o_5_6 o_5_7 o_5_8 o_5_9 o_5_10 p31 => ?_)
    have g32 : rg o_5_9 0 20 := p31.1
    have g33 : pk v_e_pumps o_5_10 := p31.2.1
    exact ok_some ⟨(rg_w (show rg (0 : Int32) 0 0 from ⟨by decide, by decide⟩) (by decide) (by decide)), g2, g3, g4, g5, g6, g7, g8, g9, g10, g21, g22, g23, g24, g25, g26, g27, g28, g29, g30, g32, g33, (show rg (0 : Int32) 0 0 from ⟨by decide, by decide⟩), trivial⟩
  · exact ok_some ⟨(rg_w (show rg (0 : Int32) 0 0 from ⟨by decide, by decide⟩) (by decide) (by decide)), g2, g3, g4, g5, g6, g7, g8, g9, g10, u11, u12, u13, u14, u15, u16, u17, u18, u19, u20, u21, pk_rf, (show rg (0 : Int32) 0 0 from ⟨by decide, by decide⟩), trivial⟩

abbrev P_X2_keepLevels_S  : (Nat → Int32) → Prop := (fun o : (Nat → Int32) => True)
set_option maxRecDepth 100000 in
set_option maxHeartbeats 2000000 in
theorem s_X2_keepLevels_S_b26  (v_g_cells : Int32) (v_g_room : (Nat → Int32)) (v_d_water : (Nat → Int32)) (u0 : rg v_g_cells 0 12) : ∀ (n : Nat) (v_pl_0 : (Nat → Int32)) (x1 : Int32) (x2 : Int32) (u1 : rg x1 0 1452) (u2 : rg x2 0 12)  (hm : (12 - x2.toInt).toNat < n), ok (f_X2_keepLevels_S_b26 v_g_cells v_g_room v_d_water n v_pl_0 x1 x2) P_X2_keepLevels_S := by
  intro n
  induction n with
  | zero =>
    intro v_pl_0 x1 x2 u1 u2 hm
    exact absurd hm (Nat.not_lt_zero _)
  | succ n ih =>
    intro v_pl_0 x1 x2 u1 u2 hm
    show ok (f_X2_keepLevels_S_b26_st (f_X2_keepLevels_S_b26 v_g_cells v_g_room v_d_water n) v_g_cells v_g_room v_d_water v_pl_0 x1 x2) P_X2_keepLevels_S
    unfold f_X2_keepLevels_S_b26_st
    refine ok_if (fun c1 => ?_) (fun c1 => ?_)
    · exact ok_some trivial
    · have w2 : rg x2 0 11 := rg_ltx 11 (ti_nle c1) u2 u0 (by decide)
      have w3 : rg v_g_cells 1 12 := rg_lty 1 (ti_nle c1) u2 u0 (by decide)
      refine ok_if (fun c4 => ?_) (fun c4 => ?_)
      · have w5 : rg (x1 + x2) 1452 1463 := rg_ley (ti_le c4) (show rg (1452 : Int32) 1452 1452 from ⟨by decide, by decide⟩) (rg_add (e := 0) (f := 1463) u1 w2 (by decide) (by decide) (by decide) (by decide))
        exact ok_some trivial
      · have w6 : rg (x1 + x2) 0 1451 := rg_ltx 1451 (ti_nle c4) (rg_add (e := 0) (f := 1463) u1 w2 (by decide) (by decide) (by decide) (by decide)) (show rg (1452 : Int32) 1452 1452 from ⟨by decide, by decide⟩) (by decide)
        refine ok_ck (inb_rg w2 (by decide) (by decide)) ?_
        refine ok_bd (s_X3_levelOf v_g_room x2 (v_d_water x2.toNatClampNeg) w2) (fun o_4 p7 => ?_)
        refine ok_ck (inb_rg w6 (by decide) (by decide)) ?_
        refine ok_nm (fun a_6 ea_6 => ?_)
        exact ih a_6 x1 (x2 + (1 : Int32)) u1 (rg_w (rg_add (e := 1) (f := 12) w2 (show rg (1 : Int32) 1 1 from ⟨by decide, by decide⟩) (by decide) (by decide) (by decide) (by decide)) (by decide) (by decide)) (ms_up (y := (x2 + (1 : Int32))) (a := 0) hm (lt_ad w2 (show rg (1 : Int32) 1 1 from ⟨by decide, by decide⟩) (by decide) (by decide) (by decide)) (rg_w (rg_add (e := 1) (f := 12) w2 (show rg (1 : Int32) 1 1 from ⟨by decide, by decide⟩) (by decide) (by decide) (by decide) (by decide)) (by decide) (by decide)))
set_option maxRecDepth 100000 in
set_option maxHeartbeats 2000000 in
theorem s_X2_keepLevels_S_b16  (v_e_fitting : Int32) (v_g_cells : Int32) (v_g_room : (Nat → Int32)) (v_d_water : (Nat → Int32)) (v_pl_0 : (Nat → Int32)) (u0 : rg v_e_fitting 0 121) (u1 : rg v_g_cells 0 12)   : ok (f_X2_keepLevels_S_b16 v_e_fitting v_g_cells v_g_room v_d_water v_pl_0) P_X2_keepLevels_S := by
  unfold f_X2_keepLevels_S_b16
  exact s_X2_keepLevels_S_b26 v_g_cells v_g_room v_d_water u1 _ v_pl_0 (v_e_fitting * (12 : Int32)) (0 : Int32) (rg_mul (e := 0) (f := 1452) u0 (show rg (12 : Int32) 12 12 from ⟨by decide, by decide⟩) (by decide) (by decide) (by decide) (by decide) (by decide)) (rg_w (show rg (0 : Int32) 0 0 from ⟨by decide, by decide⟩) (by decide) (by decide)) (fu_up (a := 0) (h := 12) (rg_w (show rg (0 : Int32) 0 0 from ⟨by decide, by decide⟩) (by decide) (by decide)) (by decide))
set_option maxRecDepth 100000 in
set_option maxHeartbeats 2000000 in
theorem s_X2_keepLevels_S (v_e_fitting : Int32) (v_g_cells : Int32) (v_g_room : (Nat → Int32)) (v_d_water : (Nat → Int32)) (v_pl_0 : (Nat → Int32)) (u0 : rg v_e_fitting 0 121) (u1 : rg v_g_cells 0 12) : ok (f_X2_keepLevels_S v_e_fitting v_g_cells v_g_room v_d_water v_pl_0) P_X2_keepLevels_S := by
  unfold f_X2_keepLevels_S
  exact s_X2_keepLevels_S_b16 v_e_fitting v_g_cells v_g_room v_d_water v_pl_0 u0 u1

set_option maxRecDepth 100000 in
set_option maxHeartbeats 2000000 in
theorem s_X2_keepLevels_N (v_e_fitting : Int32) (v_g_cells : Int32) (v_g_room : (Nat → Int32)) (v_d_water : (Nat → Int32)) (u0 : rg v_e_fitting 0 121) (u1 : rg v_g_cells 0 12) : ok (f_X2_keepLevels_N v_e_fitting v_g_cells v_g_room v_d_water) P_X2_keepLevels_S := by
  unfold f_X2_keepLevels_N
  exact s_X2_keepLevels_S_b16 v_e_fitting v_g_cells v_g_room v_d_water (fun _ => 0) u0 u1

abbrev P_X2_fits_S  : Int32 × Int32 × Int32 × (Nat → Int32) × (Nat → Int32) × (Nat → Int32) × (Nat → Int64) × (Nat → Int32) × Int32 × (Nat → Int32) × (Nat → Int64) × (Nat → Int32) × (Nat → Int32) × (Nat → Int32) × (Nat → Int32) × (Nat → Int32) × (Nat → Int32) → Prop := (fun o : Int32 × Int32 × Int32 × (Nat → Int32) × (Nat → Int32) × (Nat → Int32) × (Nat → Int64) × (Nat → Int32) × Int32 × (Nat → Int32) × (Nat → Int64) × (Nat → Int32) × (Nat → Int32) × (Nat → Int32) × (Nat → Int32) × (Nat → Int32) × (Nat → Int32) => rg o.1 0 1 ∧ True)
set_option maxRecDepth 100000 in
set_option maxHeartbeats 2000000 in
theorem s_X2_fits_S_b52 (k24 : Int32 → Int32 → (Nat → Int32) → (Nat → Int32) → (Nat → Int32) → (Nat → Int64) → (Nat → Int32) → Int32 → (Nat → Int32) → (Nat → Int64) → (Nat → Int32) → (Nat → Int32) → (Nat → Int32) → (Nat → Int32) → (Nat → Int32) → (Nat → Int32) → Int32 → Int32 → Int32 → Int32 → Option (Int32 × Int32 × Int32 × (Nat → Int32) × (Nat → Int32) × (Nat → Int32) × (Nat → Int64) × (Nat → Int32) × Int32 × (Nat → Int32) × (Nat → Int64) × (Nat → Int32) × (Nat → Int32) × (Nat → Int32) × (Nat → Int32) × (Nat → Int32) × (Nat → Int32))) (v_e_fitting : Int32) (v_e_toldDay : (Nat → Int32)) (v_e_toldCell : (Nat → Int32)) (v_e_toldLevel : (Nat → Int32)) (v_g_cells : Int32) (v_g_passes : Int32) (v_g_rivers : Int32) (v_g_villages : Int32) (v_g_rains : Int32) (v_g_room : (Nat → Int32)) (v_g_passFrom : (Nat → Int32)) (v_g_passTo : (Nat → Int32)) (v_g_riverCell : (Nat → Int32)) (v_g_riverLevel : (Nat → Int32)) (v_g_riverSalt : (Nat → Int32)) (v_g_villageCell : (Nat → Int32)) (v_g_need : (Nat → Int32)) (v_g_lawEnd : (Nat → Int32)) (v_g_code : (Nat → Int32)) (v_p_pumpCell : Int32) (v_p_pumpTakes : Int32) (v_p_pumpFrom : Int32) (v_p_pumpTo : Int32) (v_p_wanting : (Nat → Int32)) (v_p_passWidth : (Nat → Int32)) (v_p_riverWidth : (Nat → Int32)) (v_p_rain : (Nat → Int32)) (v_c_pumped : Int32) (v_c_today : Int32) (v_c_lacked : (Nat → Int32)) (v_c_level : (Nat → Int32)) (v_c_water : (Nat → Int32)) (v_c_salt : (Nat → Int64)) (v_c_stack : (Nat → Int32)) (v_d_day : Int32) (v_d_water : (Nat → Int32)) (v_d_salt : (Nat → Int64)) (v_d_seen : (Nat → Int32)) (v_d_took : (Nat → Int32)) (v_d_dryDays : (Nat → Int32)) (v_d_firstDry : (Nat → Int32)) (v_d_total : (Nat → Int32)) (v_pl_0 : (Nat → Int32)) (x1 : Int32) (x2 : Int32) (x3 : Int32) (x4 : Int32) (u0 : rg v_e_fitting 0 121) (u1 : al v_e_toldDay 0 199) (u2 : al v_e_toldCell 0 11) (u3 : rg v_g_cells 0 12) (u4 : rg v_g_passes 0 20) (u5 : rg v_g_rivers 0 3) (u6 : rg v_g_villages 0 6) (u7 : rg v_g_rains 0 14) (u8 : ac v_g_passFrom v_g_passes 0 11) (u9 : ac v_g_passTo v_g_passes 0 11) (u10 : ac v_g_riverCell v_g_rivers 0 11) (u11 : ac v_g_villageCell v_g_villages 0 11) (u12 : al v_g_lawEnd 0 400) (u13 : rg v_p_pumpCell (-1) 11) (u14 : rg v_p_pumpFrom 0 13) (u15 : rg x2 (-1) 199) (u16 : rg x3 0 199) (u17 : rg x4 0 199) (u18 : x4.toInt ≤ x3.toInt) (hk24 : ∀ (v_c_pumped' : Int32) (v_c_today' : Int32) (v_c_lacked' : (Nat → Int32)) (v_c_level' : (Nat → Int32)) (v_c_water' : (Nat → Int32)) (v_c_salt' : (Nat → Int64)) (v_c_stack' : (Nat → Int32)) (v_d_day' : Int32) (v_d_water' : (Nat → Int32)) (v_d_salt' : (Nat → Int64)) (v_d_seen' : (Nat → Int32)) (v_d_took' : (Nat → Int32)) (v_d_dryDays' : (Nat → Int32)) (v_d_firstDry' : (Nat → Int32)) (v_d_total' : (Nat → Int32)) (v_pl_0' : (Nat → Int32)) (x1' : Int32) (x2' : Int32) (x3' : Int32) (x4' : Int32), rg x2' (-1) 199 → rg x3' 0 199 → rg x4' 0 200 → x4.toInt < x4'.toInt → ok (k24 v_c_pumped' v_c_today' v_c_lacked' v_c_level' v_c_water' v_c_salt' v_c_stack' v_d_day' v_d_water' v_d_salt' v_d_seen' v_d_took' v_d_dryDays' v_d_firstDry' v_d_total' v_pl_0' x1' x2' x3' x4') P_X2_fits_S) : ok (f_X2_fits_S_b52 k24 v_e_fitting v_e_toldDay v_e_toldCell v_e_toldLevel v_g_cells v_g_passes v_g_rivers v_g_villages v_g_rains v_g_room v_g_passFrom v_g_passTo v_g_riverCell v_g_riverLevel v_g_riverSalt v_g_villageCell v_g_need v_g_lawEnd v_g_code v_p_pumpCell v_p_pumpTakes v_p_pumpFrom v_p_pumpTo v_p_wanting v_p_passWidth v_p_riverWidth v_p_rain v_c_pumped v_c_today v_c_lacked v_c_level v_c_water v_c_salt v_c_stack v_d_day v_d_water v_d_salt v_d_seen v_d_took v_d_dryDays v_d_firstDry v_d_total v_pl_0 x1 x2 x3 x4) P_X2_fits_S := by
  unfold f_X2_fits_S_b52
  refine ok_if (fun c1 => ?_) (fun c1 => ?_)
  · exact hk24 v_c_pumped v_c_today v_c_lacked v_c_level v_c_water v_c_salt v_c_stack v_d_day v_d_water v_d_salt v_d_seen v_d_took v_d_dryDays v_d_firstDry v_d_total v_pl_0 x1 x2 x3 (x4 + (1 : Int32)) u15 u16 (rg_w (rg_add (e := 1) (f := 200) u17 (show rg (1 : Int32) 1 1 from ⟨by decide, by decide⟩) (by decide) (by decide) (by decide) (by decide)) (by decide) (by decide)) (lt_ad u17 (show rg (1 : Int32) 1 1 from ⟨by decide, by decide⟩) (by decide) (by decide) (by decide))
  · have w2 : rg x4 0 198 := rg_ltx 198 (ti_nle c1) u17 u16 (by decide)
    have w3 : rg x3 1 199 := rg_lty 1 (ti_nle c1) u17 u16 (by decide)
    refine ok_bd15 (s_X0_oneDay v_g_cells v_g_passes v_g_rivers v_g_villages v_g_rains v_g_room v_g_passFrom v_g_passTo v_g_riverCell v_g_riverLevel v_g_riverSalt v_g_villageCell v_g_need v_g_lawEnd v_g_code v_p_pumpCell v_p_pumpTakes v_p_pumpFrom v_p_pumpTo v_p_wanting v_p_passWidth v_p_riverWidth v_p_rain v_c_pumped v_c_today v_c_lacked v_c_level v_c_water v_c_salt v_c_stack v_d_day v_d_water v_d_salt v_d_seen v_d_took v_d_dryDays v_d_firstDry v_d_total u3 u4 u5 u6 u7 u8 u9 u10 u11 u12 u13 u14) (fun o_2_0 o_2_1 o_2_2 o_2_3 o_2_4 o_2_5 o_2_6 o_2_7 o_2_8 o_2_9 o_2_10 o_2_11 o_2_12 o_2_13 o_2_14 p4 => ?_)
    exact hk24 o_2_0 o_2_1 o_2_2 o_2_3 o_2_4 o_2_5 o_2_6 o_2_7 o_2_8 o_2_9 o_2_10 o_2_11 o_2_12 o_2_13 o_2_14 v_pl_0 x1 x2 x3 (x4 + (1 : Int32)) u15 (rg_w w3 (by decide) (by decide)) (rg_w (rg_add (e := 1) (f := 199) w2 (show rg (1 : Int32) 1 1 from ⟨by decide, by decide⟩) (by decide) (by decide) (by decide) (by decide)) (by decide) (by decide)) (lt_ad w2 (show rg (1 : Int32) 1 1 from ⟨by decide, by decide⟩) (by decide) (by decide) (by decide))
set_option maxRecDepth 100000 in
set_option maxHeartbeats 2000000 in
theorem s_X2_fits_S_b24  (v_e_fitting : Int32) (v_e_toldDay : (Nat → Int32)) (v_e_toldCell : (Nat → Int32)) (v_e_toldLevel : (Nat → Int32)) (v_g_cells : Int32) (v_g_passes : Int32) (v_g_rivers : Int32) (v_g_villages : Int32) (v_g_rains : Int32) (v_g_room : (Nat → Int32)) (v_g_passFrom : (Nat → Int32)) (v_g_passTo : (Nat → Int32)) (v_g_riverCell : (Nat → Int32)) (v_g_riverLevel : (Nat → Int32)) (v_g_riverSalt : (Nat → Int32)) (v_g_villageCell : (Nat → Int32)) (v_g_need : (Nat → Int32)) (v_g_lawEnd : (Nat → Int32)) (v_g_code : (Nat → Int32)) (v_p_pumpCell : Int32) (v_p_pumpTakes : Int32) (v_p_pumpFrom : Int32) (v_p_pumpTo : Int32) (v_p_wanting : (Nat → Int32)) (v_p_passWidth : (Nat → Int32)) (v_p_riverWidth : (Nat → Int32)) (v_p_rain : (Nat → Int32)) (u0 : rg v_e_fitting 0 121) (u1 : al v_e_toldDay 0 199) (u2 : al v_e_toldCell 0 11) (u3 : rg v_g_cells 0 12) (u4 : rg v_g_passes 0 20) (u5 : rg v_g_rivers 0 3) (u6 : rg v_g_villages 0 6) (u7 : rg v_g_rains 0 14) (u8 : ac v_g_passFrom v_g_passes 0 11) (u9 : ac v_g_passTo v_g_passes 0 11) (u10 : ac v_g_riverCell v_g_rivers 0 11) (u11 : ac v_g_villageCell v_g_villages 0 11) (u12 : al v_g_lawEnd 0 400) (u13 : rg v_p_pumpCell (-1) 11) (u14 : rg v_p_pumpFrom 0 13) : ∀ (n : Nat) (v_c_pumped : Int32) (v_c_today : Int32) (v_c_lacked : (Nat → Int32)) (v_c_level : (Nat → Int32)) (v_c_water : (Nat → Int32)) (v_c_salt : (Nat → Int64)) (v_c_stack : (Nat → Int32)) (v_d_day : Int32) (v_d_water : (Nat → Int32)) (v_d_salt : (Nat → Int64)) (v_d_seen : (Nat → Int32)) (v_d_took : (Nat → Int32)) (v_d_dryDays : (Nat → Int32)) (v_d_firstDry : (Nat → Int32)) (v_d_total : (Nat → Int32)) (v_pl_0 : (Nat → Int32)) (x1 : Int32) (x2 : Int32) (x3 : Int32) (x4 : Int32) (u15 : rg x2 (-1) 199) (u16 : rg x3 0 199) (u17 : rg x4 0 200)  (hm : (200 - x4.toInt).toNat < n), ok (f_X2_fits_S_b24 v_e_fitting v_e_toldDay v_e_toldCell v_e_toldLevel v_g_cells v_g_passes v_g_rivers v_g_villages v_g_rains v_g_room v_g_passFrom v_g_passTo v_g_riverCell v_g_riverLevel v_g_riverSalt v_g_villageCell v_g_need v_g_lawEnd v_g_code v_p_pumpCell v_p_pumpTakes v_p_pumpFrom v_p_pumpTo v_p_wanting v_p_passWidth v_p_riverWidth v_p_rain n v_c_pumped v_c_today v_c_lacked v_c_level v_c_water v_c_salt v_c_stack v_d_day v_d_water v_d_salt v_d_seen v_d_took v_d_dryDays v_d_firstDry v_d_total v_pl_0 x1 x2 x3 x4) P_X2_fits_S := by
  intro n
  induction n with
  | zero =>
    intro v_c_pumped v_c_today v_c_lacked v_c_level v_c_water v_c_salt v_c_stack v_d_day v_d_water v_d_salt v_d_seen v_d_took v_d_dryDays v_d_firstDry v_d_total v_pl_0 x1 x2 x3 x4 u15 u16 u17 hm
    exact absurd hm (Nat.not_lt_zero _)
  | succ n ih =>
    intro v_c_pumped v_c_today v_c_lacked v_c_level v_c_water v_c_salt v_c_stack v_d_day v_d_water v_d_salt v_d_seen v_d_took v_d_dryDays v_d_firstDry v_d_total v_pl_0 x1 x2 x3 x4 u15 u16 u17 hm
    show ok (f_X2_fits_S_b24_st (f_X2_fits_S_b24 v_e_fitting v_e_toldDay v_e_toldCell v_e_toldLevel v_g_cells v_g_passes v_g_rivers v_g_villages v_g_rains v_g_room v_g_passFrom v_g_passTo v_g_riverCell v_g_riverLevel v_g_riverSalt v_g_villageCell v_g_need v_g_lawEnd v_g_code v_p_pumpCell v_p_pumpTakes v_p_pumpFrom v_p_pumpTo v_p_wanting v_p_passWidth v_p_riverWidth v_p_rain n) v_e_fitting v_e_toldDay v_e_toldCell v_e_toldLevel v_g_cells v_g_passes v_g_rivers v_g_villages v_g_rains v_g_room v_g_passFrom v_g_passTo v_g_riverCell v_g_riverLevel v_g_riverSalt v_g_villageCell v_g_need v_g_lawEnd v_g_code v_p_pumpCell v_p_pumpTakes v_p_pumpFrom v_p_pumpTo v_p_wanting v_p_passWidth v_p_riverWidth v_p_rain v_c_pumped v_c_today v_c_lacked v_c_level v_c_water v_c_salt v_c_stack v_d_day v_d_water v_d_salt v_d_seen v_d_took v_d_dryDays v_d_firstDry v_d_total v_pl_0 x1 x2 x3 x4) P_X2_fits_S
    unfold f_X2_fits_S_b24_st
    refine ok_if (fun c1 => ?_) (fun c1 => ?_)
    · have w2 : rg x4 1 200 := rg_lty 1 (ti_lt c1) u16 u17 (by decide)
      exact ok_some ⟨(rg_w (show rg (1 : Int32) 1 1 from ⟨by decide, by decide⟩) (by decide) (by decide)), trivial⟩
    · have w3 : rg x4 0 199 := rg_lex (ti_nlt c1) u17 u16
      refine ok_bd (s_X2_offToday v_e_toldDay v_e_toldCell v_e_toldLevel v_g_room v_d_day v_d_water x1 u1 u2) (fun o_2 p4 => ?_)
      have g5 : rg o_2 (-2) 19 := p4.1
      refine ok_if (fun c6 => ?_) (fun c6 => ?_)
      · have w7 : rg o_2 (-2) (-2) := rg_lex (ti_eq c6) (rg_ley (ti_eq2 c6) (show rg (-2 : Int32) (-2) (-2) from ⟨by decide, by decide⟩) g5) (show rg (-2 : Int32) (-2) (-2) from ⟨by decide, by decide⟩)
        refine ok_if (fun c8 => ?_) (fun c8 => ?_)
        · have w9 : rg x2 0 199 := rg_lex (ti_eq2 c8) (rg_ley (ti_eq c8) w3 u15) w3
          refine ok_bd (s_X2_keepLevels_S v_e_fitting v_g_cells v_g_room v_d_water v_pl_0 u0 u3) (fun o_5 p10 => ?_)
          exact s_X2_fits_S_b52 _ v_e_fitting v_e_toldDay v_e_toldCell v_e_toldLevel v_g_cells v_g_passes v_g_rivers v_g_villages v_g_rains v_g_room v_g_passFrom v_g_passTo v_g_riverCell v_g_riverLevel v_g_riverSalt v_g_villageCell v_g_need v_g_lawEnd v_g_code v_p_pumpCell v_p_pumpTakes v_p_pumpFrom v_p_pumpTo v_p_wanting v_p_passWidth v_p_riverWidth v_p_rain v_c_pumped v_c_today v_c_lacked v_c_level v_c_water v_c_salt v_c_stack v_d_day v_d_water v_d_salt v_d_seen v_d_took v_d_dryDays v_d_firstDry v_d_total o_5 x1 x2 x3 x4 u0 u1 u2 u3 u4 u5 u6 u7 u8 u9 u10 u11 u12 u13 u14 (rg_w w9 (by decide) (by decide)) u16 w3 (ti_nlt c1) (by intro v_c_pumped' v_c_today' v_c_lacked' v_c_level' v_c_water' v_c_salt' v_c_stack' v_d_day' v_d_water' v_d_salt' v_d_seen' v_d_took' v_d_dryDays' v_d_firstDry' v_d_total' v_pl_0' x1' x2' x3' x4' f0 f1 f2 lt; exact ih _ _ _ _ _ _ _ _ _ _ _ _ _ _ _ _ _ _ _ _ f0 f1 f2 (ms_up hm lt f2))
        · exact s_X2_fits_S_b52 _ v_e_fitting v_e_toldDay v_e_toldCell v_e_toldLevel v_g_cells v_g_passes v_g_rivers v_g_villages v_g_rains v_g_room v_g_passFrom v_g_passTo v_g_riverCell v_g_riverLevel v_g_riverSalt v_g_villageCell v_g_need v_g_lawEnd v_g_code v_p_pumpCell v_p_pumpTakes v_p_pumpFrom v_p_pumpTo v_p_wanting v_p_passWidth v_p_riverWidth v_p_rain v_c_pumped v_c_today v_c_lacked v_c_level v_c_water v_c_salt v_c_stack v_d_day v_d_water v_d_salt v_d_seen v_d_took v_d_dryDays v_d_firstDry v_d_total v_pl_0 x1 x2 x3 x4 u0 u1 u2 u3 u4 u5 u6 u7 u8 u9 u10 u11 u12 u13 u14 u15 u16 w3 (ti_nlt c1) (by intro v_c_pumped' v_c_today' v_c_lacked' v_c_level' v_c_water' v_c_salt' v_c_stack' v_d_day' v_d_water' v_d_salt' v_d_seen' v_d_took' v_d_dryDays' v_d_firstDry' v_d_total' v_pl_0' x1' x2' x3' x4' f0 f1 f2 lt; exact ih _ _ _ _ _ _ _ _ _ _ _ _ _ _ _ _ _ _ _ _ f0 f1 f2 (ms_up hm lt f2))
      · have w11 : rg o_2 (-1) 19 := rg_nel (-1) c6 g5 (show rg (-2 : Int32) (-2) (-2) from ⟨by decide, by decide⟩) (by decide)
        exact ok_some ⟨(rg_w (show rg (0 : Int32) 0 0 from ⟨by decide, by decide⟩) (by decide) (by decide)), trivial⟩
set_option maxRecDepth 100000 in
set_option maxHeartbeats 2000000 in
theorem s_X2_fits_S (v_e_fitting : Int32) (v_e_toldDay : (Nat → Int32)) (v_e_toldCell : (Nat → Int32)) (v_e_toldLevel : (Nat → Int32)) (v_g_cells : Int32) (v_g_passes : Int32) (v_g_rivers : Int32) (v_g_villages : Int32) (v_g_rains : Int32) (v_g_room : (Nat → Int32)) (v_g_water : (Nat → Int32)) (v_g_passFrom : (Nat → Int32)) (v_g_passTo : (Nat → Int32)) (v_g_riverCell : (Nat → Int32)) (v_g_riverLevel : (Nat → Int32)) (v_g_riverSalt : (Nat → Int32)) (v_g_villageCell : (Nat → Int32)) (v_g_need : (Nat → Int32)) (v_g_lawEnd : (Nat → Int32)) (v_g_code : (Nat → Int32)) (v_p_pumpCell : Int32) (v_p_pumpTakes : Int32) (v_p_pumpFrom : Int32) (v_p_pumpTo : Int32) (v_p_wanting : (Nat → Int32)) (v_p_passWidth : (Nat → Int32)) (v_p_riverWidth : (Nat → Int32)) (v_p_rain : (Nat → Int32)) (v_c_pumped : Int32) (v_c_today : Int32) (v_c_lacked : (Nat → Int32)) (v_c_level : (Nat → Int32)) (v_c_water : (Nat → Int32)) (v_c_salt : (Nat → Int64)) (v_c_stack : (Nat → Int32)) (v_d_day : Int32) (v_d_water : (Nat → Int32)) (v_d_salt : (Nat → Int64)) (v_d_seen : (Nat → Int32)) (v_d_took : (Nat → Int32)) (v_d_dryDays : (Nat → Int32)) (v_d_firstDry : (Nat → Int32)) (v_d_total : (Nat → Int32)) (v_pl_0 : (Nat → Int32)) (q1 : Int32) (q2 : Int32) (u0 : rg v_e_fitting 0 121) (u1 : al v_e_toldDay 0 199) (u2 : al v_e_toldCell 0 11) (u3 : rg v_g_cells 0 12) (u4 : rg v_g_passes 0 20) (u5 : rg v_g_rivers 0 3) (u6 : rg v_g_villages 0 6) (u7 : rg v_g_rains 0 14) (u8 : ac v_g_passFrom v_g_passes 0 11) (u9 : ac v_g_passTo v_g_passes 0 11) (u10 : ac v_g_riverCell v_g_rivers 0 11) (u11 : ac v_g_villageCell v_g_villages 0 11) (u12 : al v_g_lawEnd 0 400) (u13 : rg v_p_pumpCell (-1) 11) (u14 : rg v_p_pumpFrom 0 13) (u15 : rg q2 (-1) 199) : ok (f_X2_fits_S v_e_fitting v_e_toldDay v_e_toldCell v_e_toldLevel v_g_cells v_g_passes v_g_rivers v_g_villages v_g_rains v_g_room v_g_water v_g_passFrom v_g_passTo v_g_riverCell v_g_riverLevel v_g_riverSalt v_g_villageCell v_g_need v_g_lawEnd v_g_code v_p_pumpCell v_p_pumpTakes v_p_pumpFrom v_p_pumpTo v_p_wanting v_p_passWidth v_p_riverWidth v_p_rain v_c_pumped v_c_today v_c_lacked v_c_level v_c_water v_c_salt v_c_stack v_d_day v_d_water v_d_salt v_d_seen v_d_took v_d_dryDays v_d_firstDry v_d_total v_pl_0 q1 q2) P_X2_fits_S := by
  unfold f_X2_fits_S
  refine ok_bd (s_X2_lastDay v_e_toldDay q1 u1) (fun o_1 p1 => ?_)
  have g2 : rg o_1 0 199 := p1.1
  refine ok_bd8 (s_X1_begin v_g_water v_d_day v_d_water v_d_salt v_d_seen v_d_took v_d_dryDays v_d_firstDry v_d_total) (fun o_2_0 o_2_1 o_2_2 o_2_3 o_2_4 o_2_5 o_2_6 o_2_7 p3 => ?_)
  exact s_X2_fits_S_b24 v_e_fitting v_e_toldDay v_e_toldCell v_e_toldLevel v_g_cells v_g_passes v_g_rivers v_g_villages v_g_rains v_g_room v_g_passFrom v_g_passTo v_g_riverCell v_g_riverLevel v_g_riverSalt v_g_villageCell v_g_need v_g_lawEnd v_g_code v_p_pumpCell v_p_pumpTakes v_p_pumpFrom v_p_pumpTo v_p_wanting v_p_passWidth v_p_riverWidth v_p_rain u0 u1 u2 u3 u4 u5 u6 u7 u8 u9 u10 u11 u12 u13 u14 _ v_c_pumped v_c_today v_c_lacked v_c_level v_c_water v_c_salt v_c_stack o_2_0 o_2_1 o_2_2 o_2_3 o_2_4 o_2_5 o_2_6 o_2_7 v_pl_0 q1 q2 (if o_1 < q2 then q2 else o_1) (0 : Int32) u15 (rg_max (e := 0) (f := 199) g2 u15 (by decide) (by decide) (by decide)) (rg_w (show rg (0 : Int32) 0 0 from ⟨by decide, by decide⟩) (by decide) (by decide)) (fu_up (a := 0) (h := 200) (rg_w (show rg (0 : Int32) 0 0 from ⟨by decide, by decide⟩) (by decide) (by decide)) (by decide))
