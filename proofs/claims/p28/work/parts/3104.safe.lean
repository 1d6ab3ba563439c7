abbrev P_X5_readRiver (z_v_r_next : Int32) (z_v_r_fault : Int32) (z_v_r_laterFault : Int32) (v_r_kind : (Nat → Int32)) : Int32 × Int32 × Int32 × Int32 × Int32 × Int32 × Int32 × (Nat → Int32) × (Nat → Int32) × (Nat → Int32) × (Nat → Int32) × (Nat → Int32) → Prop := (fun o : Int32 × Int32 × Int32 × Int32 × Int32 × Int32 × Int32 × (Nat → Int32) × (Nat → Int32) × (Nat → Int32) × (Nat → Int32) × (Nat → Int32) => rg o.1 0 402 ∧ rg o.2.2.2.2.2.2.1 0 3 ∧ nx z_v_r_next o.1 ∧ mn z_v_r_fault o.2.2.1 ∧ mn z_v_r_laterFault o.2.2.2.2.1 ∧ sp o.2.1 o.2.2.1 ∧ sn v_r_kind o.1 ∧ ca (o.2.2.1) (o.2.2.2.2.1) (o.2.2.2.2.2.2.2.2.1) (o.2.2.2.2.2.2.1) ∧ True)
set_option maxRecDepth 100000 in
set_option maxHeartbeats 2000000 in
theorem s_X5_readRiver (v_r_kind : (Nat → Int32)) (v_r_start : (Nat → Int32)) (v_r_value : (Nat → Int64)) (v_r_cellName : (Nat → Int64)) (v_g_cells : Int32) (v_r_next : Int32) (v_r_stopped : Int32) (v_r_fault : Int32) (v_r_faultPlace : Int32) (v_r_laterFault : Int32) (v_r_laterPlace : Int32) (v_g_rivers : Int32) (v_g_ways : (Nat → Int32)) (v_g_riverCell : (Nat → Int32)) (v_g_riverLevel : (Nat → Int32)) (v_g_riverWidth : (Nat → Int32)) (v_g_riverSalt : (Nat → Int32)) (u0 : rg v_g_cells 0 12) (u1 : rg v_r_next 0 402) (u2 : rg v_g_rivers 0 3) (u3 : sp v_r_stopped v_r_fault) (u4 : sn v_r_kind v_r_next) (u5 : ca v_r_fault v_r_laterFault v_g_riverCell v_g_rivers) (u6 : rg (v_r_kind v_r_next.toNatClampNeg) 5 2147483647) : ok (f_X5_readRiver v_r_kind v_r_start v_r_value v_r_cellName v_g_cells v_r_next v_r_stopped v_r_fault v_r_faultPlace v_r_laterFault v_r_laterPlace v_g_rivers v_g_ways v_g_riverCell v_g_riverLevel v_g_riverWidth v_g_riverSalt) (P_X5_readRiver v_r_next v_r_fault v_r_laterFault v_r_kind) := by
  unfold f_X5_readRiver
  refine ok_ck (inb_rg u1 (by decide) (by decide)) ?_
  refine ok_bd5 (s_X5_opens v_r_kind v_r_start v_r_next v_r_stopped v_r_fault v_r_faultPlace v_g_rivers (3 : Int32) u1 u3 u4 u6) (fun o_2_0 o_2_1 o_2_2 o_2_3 o_2_4 p1 => ?_)
  have g2 : rg o_2_0 0 1 := p1.1
  have g4 : rg o_2_1 0 402 := p1.2.2.1
  have g5 : nx v_r_next o_2_1 := p1.2.2.2.1
  have g6 : mn v_r_fault o_2_3 := p1.2.2.2.2.1
  have g7 : sp o_2_2 o_2_3 := p1.2.2.2.2.2.1
  have g8 : sn v_r_kind o_2_1 := p1.2.2.2.2.2.2.1
  refine ok_if (fun c9 => ?_) (fun c9 => ?_)
  · have w10 : rg o_2_0 0 0 := rg_lex (ti_eq c9) (rg_ley (ti_eq2 c9) (show rg (0 : Int32) 0 0 from ⟨by decide, by decide⟩) g2) (show rg (0 : Int32) 0 0 from ⟨by decide, by decide⟩)
    exact ok_some ⟨g4, u2, g5, g6, mn_rf, g7, g8, (ca_mn u5 g6 mn_rf), trivial⟩
  · obtain ⟨i11_0, i11_1⟩ := p1.2.1.resolve_left c9
    have w12 : rg v_g_rivers 0 2 := rg_ltx 2 i11_0 u2 (show rg (3 : Int32) 3 3 from ⟨by decide, by decide⟩) (by decide)
    have w13 : rg o_2_0 1 1 := rg_nel 1 c9 g2 (show rg (0 : Int32) 0 0 from ⟨by decide, by decide⟩) (by decide)
    refine ok_bd7 (s_X5_knownCell v_r_kind v_r_start v_r_value v_r_cellName v_g_cells o_2_1 o_2_2 o_2_3 o_2_4 v_r_laterFault v_r_laterPlace u0 (rg_w i11_1 (by decide) (by decide)) g7 g8) (fun o_4_0 o_4_1 o_4_2 o_4_3 o_4_4 o_4_5 o_4_6 p14 => ?_)
    have g15 : rg o_4_0 (-1) 11 := p14.1
    have g16 : rg o_4_1 0 402 := p14.2.1
    have g17 : nx o_2_1 o_4_1 := p14.2.2.1
    have g18 : mn o_2_3 o_4_3 := p14.2.2.2.1
    have g19 : mn v_r_laterFault o_4_5 := p14.2.2.2.2.1
    have g20 : sp o_4_2 o_4_3 := p14.2.2.2.2.2.1
    have g21 : sn v_r_kind o_4_1 := p14.2.2.2.2.2.2.1
    refine ok_if (fun c23 => ?_) (fun c23 => ?_)
    · have w24 : rg o_4_0 (-1) (-1) := rg_lex (ti_eq c23) (rg_ley (ti_eq2 c23) (show rg (-1 : Int32) (-1) (-1) from ⟨by decide, by decide⟩) g15) (show rg (-1 : Int32) (-1) (-1) from ⟨by decide, by decide⟩)
      unfold f_X5_readRiver_b50
      refine ok_ck (inb_rg w12 (by decide) (by decide)) ?_
      refine ok_nm (fun a_2_i50 ea_2_i50 => ?_)
      refine ok_bd7 (s_X5_number v_r_kind v_r_start v_r_value o_4_1 o_4_2 o_4_3 o_4_4 o_4_5 o_4_6 (0 : Int32) (999 : Int32) (rg_w (rg_ley g17 i11_1 g16) (by decide) (by decide)) g20 g21) (fun o_3_0_i50 o_3_1_i50 o_3_2_i50 o_3_3_i50 o_3_4_i50 o_3_5_i50 o_3_6_i50 p25 => ?_)
      have g26 : rg o_3_1_i50 0 402 := p25.1
      have g27 : nx o_4_1 o_3_1_i50 := p25.2.1
      have g28 : mn o_4_3 o_3_3_i50 := p25.2.2.1
      have g29 : mn o_4_5 o_3_5_i50 := p25.2.2.2.1
      have g30 : sp o_3_2_i50 o_3_3_i50 := p25.2.2.2.2.1
      have g31 : sn v_r_kind o_3_1_i50 := p25.2.2.2.2.2.1
      refine ok_ck (inb_rg w12 (by decide) (by decide)) ?_
      refine ok_nm (fun a_5_i50 ea_5_i50 => ?_)
      refine ok_bd7 (s_X5_number v_r_kind v_r_start v_r_value o_3_1_i50 o_3_2_i50 o_3_3_i50 o_3_4_i50 o_3_5_i50 o_3_6_i50 (1 : Int32) (10 : Int32) (rg_w (rg_ley g27 (rg_ley g17 i11_1 g16) g26) (by decide) (by decide)) g30 g31) (fun o_6_0_i50 o_6_1_i50 o_6_2_i50 o_6_3_i50 o_6_4_i50 o_6_5_i50 o_6_6_i50 p32 => ?_)
      have g33 : rg o_6_1_i50 0 402 := p32.1
      have g34 : nx o_3_1_i50 o_6_1_i50 := p32.2.1
      have g35 : mn o_3_3_i50 o_6_3_i50 := p32.2.2.1
      have g36 : mn o_3_5_i50 o_6_5_i50 := p32.2.2.2.1
      have g37 : sp o_6_2_i50 o_6_3_i50 := p32.2.2.2.2.1
      have g38 : sn v_r_kind o_6_1_i50 := p32.2.2.2.2.2.1
      refine ok_ck (inb_rg w12 (by decide) (by decide)) ?_
      refine ok_nm (fun a_8_i50 ea_8_i50 => ?_)
      refine ok_bd7 (s_X5_number v_r_kind v_r_start v_r_value o_6_1_i50 o_6_2_i50 o_6_3_i50 o_6_4_i50 o_6_5_i50 o_6_6_i50 (0 : Int32) (99 : Int32) (rg_w (rg_ley g34 (rg_ley g27 (rg_ley g17 i11_1 g16) g26) g33) (by decide) (by decide)) g37 g38) (fun o_9_0_i50 o_9_1_i50 o_9_2_i50 o_9_3_i50 o_9_4_i50 o_9_5_i50 o_9_6_i50 p39 => ?_)
      have g40 : rg o_9_1_i50 0 402 := p39.1
      have g41 : nx o_6_1_i50 o_9_1_i50 := p39.2.1
      have g42 : mn o_6_3_i50 o_9_3_i50 := p39.2.2.1
      have g43 : mn o_6_5_i50 o_9_5_i50 := p39.2.2.2.1
      have g44 : sp o_9_2_i50 o_9_3_i50 := p39.2.2.2.2.1
      have g45 : sn v_r_kind o_9_1_i50 := p39.2.2.2.2.2.1
      refine ok_ck (inb_rg w12 (by decide) (by decide)) ?_
      refine ok_nm (fun a_11_i50 ea_11_i50 => ?_)
      refine ok_bd5 (s_X5_accept v_r_kind v_r_start o_9_1_i50 o_9_2_i50 o_9_3_i50 o_9_4_i50 (59 : Int32) (rg_w (rg_ley g41 (rg_ley g34 (rg_ley g27 (rg_ley g17 i11_1 g16) g26) g33) g40) (by decide) (by decide)) g44 g45 (n34_rg (show rg (59 : Int32) 59 59 from ⟨by decide, by decide⟩) (by decide))) (fun o_12_0_i50 o_12_1_i50 o_12_2_i50 o_12_3_i50 o_12_4_i50 p46 => ?_)
      have g47 : rg o_12_0_i50 0 1 := p46.1
      have g49 : rg o_12_1_i50 0 402 := p46.2.2.1
      have g50 : nx o_9_1_i50 o_12_1_i50 := p46.2.2.2.1
      have g51 : mn o_9_3_i50 o_12_3_i50 := p46.2.2.2.2.1
      have g52 : sp o_12_2_i50 o_12_3_i50 := p46.2.2.2.2.2.1
      have g53 : sn v_r_kind o_12_1_i50 := p46.2.2.2.2.2.2.1
      exact ok_some ⟨(rg_w (rg_ley g50 (rg_ley g41 (rg_ley g34 (rg_ley g27 (rg_ley g17 i11_1 g16) g26) g33) g40) g49) (by decide) (by decide)), (rg_w (rg_add (e := 1) (f := 3) w12 (show rg (1 : Int32) 1 1 from ⟨by decide, by decide⟩) (by decide) (by decide) (by decide) (by decide)) (by decide) (by decide)), (nx_tr (nx_tr (nx_tr (nx_tr (nx_tr g5 g17) g27) g34) g41) g50), (mn_tr (mn_tr (mn_tr (mn_tr (mn_tr g6 g18) g28) g35) g42) g51), (mn_tr (mn_tr (mn_tr g19 g29) g36) g43), g52, g53, (ca_up ea_2_i50 (ca_mn u5 (mn_tr (mn_tr (mn_tr (mn_tr (mn_tr g6 g18) g28) g35) g42) g51) (mn_tr (mn_tr (mn_tr g19 g29) g36) g43)) (nfo_rg p14.2.2.2.2.2.2.2.1 (mn_tr (mn_tr (mn_tr g28 g35) g42) g51) (mn_tr (mn_tr g29 g36) g43) (rg_w w24 (by decide) (by decide))) w12 (by decide) (by decide)), trivial⟩
    · have w55 : rg o_4_0 0 11 := rg_nel 0 c23 g15 (show rg (-1 : Int32) (-1) (-1) from ⟨by decide, by decide⟩) (by decide)
      refine ok_bd4 (s_X5_addWay o_4_2 o_4_3 o_4_4 v_g_ways o_4_0 (v_r_start v_r_next.toNatClampNeg) g20 w55) (fun o_6_0 o_6_1 o_6_2 o_6_3 p56 => ?_)
      have g57 : mn o_4_3 o_6_1 := p56.1
      have g58 : sp o_6_0 o_6_1 := p56.2.1
      unfold f_X5_readRiver_b50
      refine ok_ck (inb_rg w12 (by decide) (by decide)) ?_
      refine ok_nm (fun a_2_i50 ea_2_i50 => ?_)
      refine ok_bd7 (s_X5_number v_r_kind v_r_start v_r_value o_4_1 o_6_0 o_6_1 o_6_2 o_4_5 o_4_6 (0 : Int32) (999 : Int32) (rg_w (rg_ley g17 i11_1 g16) (by decide) (by decide)) g58 g21) (fun o_3_0_i50 o_3_1_i50 o_3_2_i50 o_3_3_i50 o_3_4_i50 o_3_5_i50 o_3_6_i50 p59 => ?_)
      have g60 : rg o_3_1_i50 0 402 := p59.1
      have g61 : nx o_4_1 o_3_1_i50 := p59.2.1
      have g62 : mn o_6_1 o_3_3_i50 := p59.2.2.1
      have g63 : mn o_4_5 o_3_5_i50 := p59.2.2.2.1
      have g64 : sp o_3_2_i50 o_3_3_i50 := p59.2.2.2.2.1
      have g65 : sn v_r_kind o_3_1_i50 := p59.2.2.2.2.2.1
      refine ok_ck (inb_rg w12 (by decide) (by decide)) ?_
      refine ok_nm (fun a_5_i50 ea_5_i50 => ?_)
      refine ok_bd7 (s_X5_number v_r_kind v_r_start v_r_value o_3_1_i50 o_3_2_i50 o_3_3_i50 o_3_4_i50 o_3_5_i50 o_3_6_i50 (1 : Int32) (10 : Int32) (rg_w (rg_ley g61 (rg_ley g17 i11_1 g16) g60) (by decide) (by decide)) g64 g65) (fun o_6_0_i50 o_6_1_i50 o_6_2_i50 o_6_3_i50 o_6_4_i50 o_6_5_i50 o_6_6_i50 p66 => ?_)
      have g67 : rg o_6_1_i50 0 402 := p66.1
      have g68 : nx o_3_1_i50 o_6_1_i50 := p66.2.1
      have g69 : mn o_3_3_i50 o_6_3_i50 := p66.2.2.1
      have g70 : mn o_3_5_i50 o_6_5_i50 := p66.2.2.2.1
      have g71 : sp o_6_2_i50 o_6_3_i50 := p66.2.2.2.2.1
      have g72 : sn v_r_kind o_6_1_i50 := p66.2.2.2.2.2.1
      refine ok_ck (inb_rg w12 (by decide) (by decide)) ?_
      refine ok_nm (fun a_8_i50 ea_8_i50 => ?_)
      refine ok_bd7 (s_X5_number v_r_kind v_r_start v_r_value o_6_1_i50 o_6_2_i50 o_6_3_i50 o_6_4_i50 o_6_5_i50 o_6_6_i50 (0 : Int32) (99 : Int32) (rg_w (rg_ley g68 (rg_ley g61 (rg_ley g17 i11_1 g16) g60) g67) (by decide) (by decide)) g71 g72) (fun o_9_0_i50 o_9_1_i50 o_9_2_i50 o_9_3_i50 o_9_4_i50 o_9_5_i50 o_9_6_i50 p73 => ?_)
      have g74 : rg o_9_1_i50 0 402 := p73.1
      have g75 : nx o_6_1_i50 o_9_1_i50 := p73.2.1
      have g76 : mn o_6_3_i50 o_9_3_i50 := p73.2.2.1
      have g77 : mn o_6_5_i50 o_9_5_i50 := p73.2.2.2.1
      have g78 : sp o_9_2_i50 o_9_3_i50 := p73.2.2.2.2.1
      have g79 : sn v_r_kind o_9_1_i50 := p73.2.2.2.2.2.1
      refine ok_ck (inb_rg w12 (by decide) (by decide)) ?_
      refine ok_nm (fun a_11_i50 ea_11_i50 => ?_)
      refine ok_bd5 (s_X5_accept v_r_kind v_r_start o_9_1_i50 o_9_2_i50 o_9_3_i50 o_9_4_i50 (59 : Int32) (rg_w (rg_ley g75 (rg_ley g68 (rg_ley g61 (rg_ley g17 i11_1 g16) g60) g67) g74) (by decide) (by decide)) g78 g79 (n34_rg (show rg (59 : Int32) 59 59 from ⟨by decide, by decide⟩) (by decide))) (fun o_12_0_i50 o_12_1_i50 o_12_2_i50 o_12_3_i50 o_12_4_i50 p80 => ?_)
      have g81 : rg o_12_0_i50 0 1 := p80.1
      have g83 : rg o_12_1_i50 0 402 := p80.2.2.1
      have g84 : nx o_9_1_i50 o_12_1_i50 := p80.2.2.2.1
      have g85 : mn o_9_3_i50 o_12_3_i50 := p80.2.2.2.2.1
      have g86 : sp o_12_2_i50 o_12_3_i50 := p80.2.2.2.2.2.1
      have g87 : sn v_r_kind o_12_1_i50 := p80.2.2.2.2.2.2.1
      exact ok_some ⟨(rg_w (rg_ley g84 (rg_ley g75 (rg_ley g68 (rg_ley g61 (rg_ley g17 i11_1 g16) g60) g67) g74) g83) (by decide) (by decide)), (rg_w (rg_add (e := 1) (f := 3) w12 (show rg (1 : Int32) 1 1 from ⟨by decide, by decide⟩) (by decide) (by decide) (by decide) (by decide)) (by decide) (by decide)), (nx_tr (nx_tr (nx_tr (nx_tr (nx_tr g5 g17) g61) g68) g75) g84), (mn_tr (mn_tr (mn_tr (mn_tr (mn_tr (mn_tr g6 g18) g57) g62) g69) g76) g85), (mn_tr (mn_tr (mn_tr g19 g63) g70) g77), g86, g87, (ca_up ea_2_i50 (ca_mn u5 (mn_tr (mn_tr (mn_tr (mn_tr (mn_tr (mn_tr g6 g18) g57) g62) g69) g76) g85) (mn_tr (mn_tr (mn_tr g19 g63) g70) g77)) (fun _ _ => rg_w w55 (by decide) (by decide)) w12 (by decide) (by decide)), trivial⟩

abbrev P_X5_readRain (z_v_r_next : Int32) (z_v_r_fault : Int32) (z_v_r_laterFault : Int32) (v_r_kind : (Nat → Int32)) : Int32 × Int32 × Int32 × Int32 × Int32 × Int32 × Int32 × (Nat → Int32) → Prop := (fun o : Int32 × Int32 × Int32 × Int32 × Int32 × Int32 × Int32 × (Nat → Int32) => rg o.1 0 402 ∧ rg o.2.2.2.2.2.2.1 0 14 ∧ nx z_v_r_next o.1 ∧ mn z_v_r_fault o.2.2.1 ∧ mn z_v_r_laterFault o.2.2.2.2.1 ∧ sp o.2.1 o.2.2.1 ∧ sn v_r_kind o.1 ∧ True)
set_option maxRecDepth 100000 in
set_option maxHeartbeats 2000000 in
theorem s_X5_readRain_b113  (z_v_r_next : Int32) (z_v_r_fault : Int32) (z_v_r_laterFault : Int32) (v_r_kind : (Nat → Int32)) (v_r_start : (Nat → Int32)) (v_r_next : Int32) (v_r_stopped : Int32) (v_r_fault : Int32) (v_r_faultPlace : Int32) (v_r_laterFault : Int32) (v_r_laterPlace : Int32) (v_g_rains : Int32) (v_g_rain : (Nat → Int32))  (u0 : rg v_r_next 0 402) (u1 : rg v_g_rains 0 14) (u2 : nx z_v_r_next v_r_next) (u3 : mn z_v_r_fault v_r_fault) (u4 : mn z_v_r_laterFault v_r_laterFault) (u5 : sp v_r_stopped v_r_fault) (u6 : sn v_r_kind v_r_next)  : ok (f_X5_readRain_b113 v_r_kind v_r_start v_r_next v_r_stopped v_r_fault v_r_faultPlace v_r_laterFault v_r_laterPlace v_g_rains v_g_rain) (P_X5_readRain z_v_r_next z_v_r_fault z_v_r_laterFault v_r_kind) := by
  unfold f_X5_readRain_b113
  refine ok_bd5 (s_X5_accept v_r_kind v_r_start v_r_next v_r_stopped v_r_fault v_r_faultPlace (59 : Int32) u0 u5 u6 (n34_rg (show rg (59 : Int32) 59 59 from ⟨by decide, by decide⟩) (by decide))) (fun o_1_0 o_1_1 o_1_2 o_1_3 o_1_4 p1 => ?_)
  have g2 : rg o_1_0 0 1 := p1.1
  have g4 : rg o_1_1 0 402 := p1.2.2.1
  have g5 : nx v_r_next o_1_1 := p1.2.2.2.1
  have g6 : mn v_r_fault o_1_3 := p1.2.2.2.2.1
  have g7 : sp o_1_2 o_1_3 := p1.2.2.2.2.2.1
  have g8 : sn v_r_kind o_1_1 := p1.2.2.2.2.2.2.1
  exact ok_some ⟨g4, u1, (nx_tr u2 g5), (mn_tr u3 g6), u4, g7, g8, trivial⟩
set_option maxRecDepth 100000 in
set_option maxHeartbeats 2000000 in
theorem s_X5_readRain_b17  (z_v_r_next : Int32) (z_v_r_fault : Int32) (z_v_r_laterFault : Int32) (v_r_kind : (Nat → Int32)) (v_r_start : (Nat → Int32)) (v_r_value : (Nat → Int64))  : ∀ (n : Nat) (v_r_next : Int32) (v_r_stopped : Int32) (v_r_fault : Int32) (v_r_faultPlace : Int32) (v_r_laterFault : Int32) (v_r_laterPlace : Int32) (v_g_rains : Int32) (v_g_rain : (Nat → Int32)) (x1 : Int32) (u0 : rg v_r_next 0 402) (u1 : rg v_g_rains 0 14) (u2 : rg x1 0 15) (u3 : nx z_v_r_next v_r_next) (u4 : mn z_v_r_fault v_r_fault) (u5 : mn z_v_r_laterFault v_r_laterFault) (u6 : sp v_r_stopped v_r_fault) (u7 : sn v_r_kind v_r_next)  (hm : (15 - x1.toInt).toNat < n), ok (f_X5_readRain_b17 v_r_kind v_r_start v_r_value n v_r_next v_r_stopped v_r_fault v_r_faultPlace v_r_laterFault v_r_laterPlace v_g_rains v_g_rain x1) (P_X5_readRain z_v_r_next z_v_r_fault z_v_r_laterFault v_r_kind) := by
  intro n
  induction n with
  | zero =>
    intro v_r_next v_r_stopped v_r_fault v_r_faultPlace v_r_laterFault v_r_laterPlace v_g_rains v_g_rain x1 u0 u1 u2 u3 u4 u5 u6 u7 hm
    exact absurd hm (Nat.not_lt_zero _)
  | succ n ih =>
    intro v_r_next v_r_stopped v_r_fault v_r_faultPlace v_r_laterFault v_r_laterPlace v_g_rains v_g_rain x1 u0 u1 u2 u3 u4 u5 u6 u7 hm
    show ok (f_X5_readRain_b17_st (f_X5_readRain_b17 v_r_kind v_r_start v_r_value n) v_r_kind v_r_start v_r_value v_r_next v_r_stopped v_r_fault v_r_faultPlace v_r_laterFault v_r_laterPlace v_g_rains v_g_rain x1) (P_X5_readRain z_v_r_next z_v_r_fault z_v_r_laterFault v_r_kind)
    unfold f_X5_readRain_b17_st
    refine ok_if (fun c1 => ?_) (fun c1 => ?_)
    · have w2 : rg x1 15 15 := rg_lty 15 (ti_lt c1) (show rg (14 : Int32) 14 14 from ⟨by decide, by decide⟩) u2 (by decide)
      exact s_X5_readRain_b113 z_v_r_next z_v_r_fault z_v_r_laterFault v_r_kind v_r_start v_r_next v_r_stopped v_r_fault v_r_faultPlace v_r_laterFault v_r_laterPlace v_g_rains v_g_rain u0 u1 u3 u4 u5 u6 u7
    · have w3 : rg x1 0 14 := rg_lex (ti_nlt c1) u2 (show rg (14 : Int32) 14 14 from ⟨by decide, by decide⟩)
      refine ok_if (fun c4 => ?_) (fun c4 => ?_)
      · have w5 : rg v_r_stopped 0 0 := rg_lex (ti_eq c4) (rg_ley (ti_eq2 c4) (show rg (0 : Int32) 0 0 from ⟨by decide, by decide⟩) (rg_any v_r_stopped)) (show rg (0 : Int32) 0 0 from ⟨by decide, by decide⟩)
        refine ok_ck (inb_rg u0 (by decide) (by decide)) ?_
        refine ok_if (fun c6 => ?_) (fun c6 => ?_)
        · have w7 : rg (v_r_kind v_r_next.toNatClampNeg) 2 2 := rg_lex (ti_eq c6) (rg_ley (ti_eq2 c6) (show rg (2 : Int32) 2 2 from ⟨by decide, by decide⟩) (rg_any (v_r_kind v_r_next.toNatClampNeg))) (show rg (2 : Int32) 2 2 from ⟨by decide, by decide⟩)
          refine ok_if (fun c8 => ?_) (fun c8 => ?_)
          · have w9 : rg v_g_rains 0 13 := rg_ltx 13 (ti_lt c8) u1 (show rg (14 : Int32) 14 14 from ⟨by decide, by decide⟩) (by decide)
            refine ok_bd7 (s_X5_number v_r_kind v_r_start v_r_value v_r_next v_r_stopped v_r_fault v_r_faultPlace v_r_laterFault v_r_laterPlace (0 : Int32) (99 : Int32) u0 u6 u7) (fun o_6_0 o_6_1 o_6_2 o_6_3 o_6_4 o_6_5 o_6_6 p10 => ?_)
            have g11 : rg o_6_1 0 402 := p10.1
            have g12 : nx v_r_next o_6_1 := p10.2.1
            have g13 : mn v_r_fault o_6_3 := p10.2.2.1
            have g14 : mn v_r_laterFault o_6_5 := p10.2.2.2.1
            have g15 : sp o_6_2 o_6_3 := p10.2.2.2.2.1
            have g16 : sn v_r_kind o_6_1 := p10.2.2.2.2.2.1
            refine ok_ck (inb_rg w9 (by decide) (by decide)) ?_
            refine ok_nm (fun a_8 ea_8 => ?_)
            exact ih o_6_1 o_6_2 o_6_3 o_6_4 o_6_5 o_6_6 (v_g_rains + (1 : Int32)) a_8 (x1 + (1 : Int32)) g11 (rg_w (rg_add (e := 1) (f := 14) w9 (show rg (1 : Int32) 1 1 from ⟨by decide, by decide⟩) (by decide) (by decide) (by decide) (by decide)) (by decide) (by decide)) (rg_w (rg_add (e := 1) (f := 15) w3 (show rg (1 : Int32) 1 1 from ⟨by decide, by decide⟩) (by decide) (by decide) (by decide) (by decide)) (by decide) (by decide)) (nx_tr u3 g12) (mn_tr u4 g13) (mn_tr u5 g14) g15 g16 (ms_up (y := (x1 + (1 : Int32))) (a := 0) hm (lt_ad w3 (show rg (1 : Int32) 1 1 from ⟨by decide, by decide⟩) (by decide) (by decide) (by decide)) (rg_w (rg_add (e := 1) (f := 15) w3 (show rg (1 : Int32) 1 1 from ⟨by decide, by decide⟩) (by decide) (by decide) (by decide) (by decide)) (by decide) (by decide)))
          · have w17 : rg v_g_rains 14 14 := rg_ley (ti_nlt c8) (show rg (14 : Int32) 14 14 from ⟨by decide, by decide⟩) u1
            refine ok_ck (inb_rg u0 (by decide) (by decide)) ?_
            refine ok_bd3 (s_X5_stop v_r_stopped v_r_fault v_r_faultPlace (2 : Int32) (v_r_start v_r_next.toNatClampNeg) u6 (rg_w (show rg (2 : Int32) 2 2 from ⟨by decide, by decide⟩) (by decide) (by decide))) (fun o_10_0 o_10_1 o_10_2 p18 => ?_)
            have g19 : mn v_r_fault o_10_1 := p18.1
            have g20 : sp o_10_0 o_10_1 := p18.2.1
            have g21 : ¬ o_10_1 = 0 := p18.2.2.1
            exact ih v_r_next o_10_0 o_10_1 o_10_2 v_r_laterFault v_r_laterPlace v_g_rains v_g_rain (x1 + (1 : Int32)) u0 (rg_w w17 (by decide) (by decide)) (rg_w (rg_add (e := 1) (f := 15) w3 (show rg (1 : Int32) 1 1 from ⟨by decide, by decide⟩) (by decide) (by decide) (by decide) (by decide)) (by decide) (by decide)) u3 (mn_of g21) u5 g20 u7 (ms_up (y := (x1 + (1 : Int32))) (a := 0) hm (lt_ad w3 (show rg (1 : Int32) 1 1 from ⟨by decide, by decide⟩) (by decide) (by decide) (by decide)) (rg_w (rg_add (e := 1) (f := 15) w3 (show rg (1 : Int32) 1 1 from ⟨by decide, by decide⟩) (by decide) (by decide) (by decide) (by decide)) (by decide) (by decide)))
        · exact s_X5_readRain_b113 z_v_r_next z_v_r_fault z_v_r_laterFault v_r_kind v_r_start v_r_next v_r_stopped v_r_fault v_r_faultPlace v_r_laterFault v_r_laterPlace v_g_rains v_g_rain u0 u1 u3 u4 u5 u6 u7
      · exact s_X5_readRain_b113 z_v_r_next z_v_r_fault z_v_r_laterFault v_r_kind v_r_start v_r_next v_r_stopped v_r_fault v_r_faultPlace v_r_laterFault v_r_laterPlace v_g_rains v_g_rain u0 u1 u3 u4 u5 u6 u7
set_option maxRecDepth 100000 in
set_option maxHeartbeats 2000000 in
theorem s_X5_readRain (v_r_kind : (Nat → Int32)) (v_r_start : (Nat → Int32)) (v_r_value : (Nat → Int64)) (v_r_next : Int32) (v_r_stopped : Int32) (v_r_fault : Int32) (v_r_faultPlace : Int32) (v_r_laterFault : Int32) (v_r_laterPlace : Int32) (v_g_rains : Int32) (v_g_rain : (Nat → Int32)) (u0 : rg v_r_next 0 402) (u1 : rg v_g_rains 0 14) (u2 : sp v_r_stopped v_r_fault) (u3 : sn v_r_kind v_r_next) : ok (f_X5_readRain v_r_kind v_r_start v_r_value v_r_next v_r_stopped v_r_fault v_r_faultPlace v_r_laterFault v_r_laterPlace v_g_rains v_g_rain) (P_X5_readRain v_r_next v_r_fault v_r_laterFault v_r_kind) := by
  unfold f_X5_readRain
  refine ok_bd5 (s_X5_accept v_r_kind v_r_start v_r_next v_r_stopped v_r_fault v_r_faultPlace (8 : Int32) u0 u2 u3 (n34_rg (show rg (8 : Int32) 8 8 from ⟨by decide, by decide⟩) (by decide))) (fun o_1_0 o_1_1 o_1_2 o_1_3 o_1_4 p1 => ?_)
  have g2 : rg o_1_0 0 1 := p1.1
  have g4 : rg o_1_1 0 402 := p1.2.2.1
  have g5 : nx v_r_next o_1_1 := p1.2.2.2.1
  have g6 : mn v_r_fault o_1_3 := p1.2.2.2.2.1
  have g7 : sp o_1_2 o_1_3 := p1.2.2.2.2.2.1
  have g8 : sn v_r_kind o_1_1 := p1.2.2.2.2.2.2.1
  exact s_X5_readRain_b17 v_r_next v_r_fault v_r_laterFault v_r_kind v_r_start v_r_value _ o_1_1 o_1_2 o_1_3 o_1_4 v_r_laterFault v_r_laterPlace (0 : Int32) v_g_rain (0 : Int32) g4 (rg_w (show rg (0 : Int32) 0 0 from ⟨by decide, by decide⟩) (by decide) (by decide)) (rg_w (show rg (0 : Int32) 0 0 from ⟨by decide, by decide⟩) (by decide) (by decide)) g5 g6 mn_rf g7 g8 (fu_up (a := 0) (h := 15) (rg_w (show rg (0 : Int32) 0 0 from ⟨by decide, by decide⟩) (by decide) (by decide)) (by decide))

abbrev P_X5_readVillage (z_v_r_next : Int32) (z_v_r_fault : Int32) (z_v_r_laterFault : Int32) (v_r_kind : (Nat → Int32)) : Int32 × Int32 × Int32 × Int32 × Int32 × Int32 × Int32 × Int32 × (Nat → Int64) × Int32 × (Nat → Int32) × (Nat → Int32) × (Nat → Int32) × (Nat → Int32) → Prop := (fun o : Int32 × Int32 × Int32 × Int32 × Int32 × Int32 × Int32 × Int32 × (Nat → Int64) × Int32 × (Nat → Int32) × (Nat → Int32) × (Nat → Int32) × (Nat → Int32) => rg o.1 0 402 ∧ rg o.2.1 0 400 ∧ rg o.2.2.1 (-1) 11 ∧ rg o.2.2.2.2.2.2.2.2.2.1 0 6 ∧ al o.2.2.2.2.2.2.2.2.2.2.2.2.1 0 400 ∧ nx z_v_r_next o.1 ∧ mn z_v_r_fault o.2.2.2.2.1 ∧ mn z_v_r_laterFault o.2.2.2.2.2.2.1 ∧ sp o.2.2.2.1 o.2.2.2.2.1 ∧ sn v_r_kind o.1 ∧ ca (o.2.2.2.2.1) (o.2.2.2.2.2.2.1) (o.2.2.2.2.2.2.2.2.2.2.1) (o.2.2.2.2.2.2.2.2.2.1) ∧ True)
set_option maxRecDepth 100000 in
set_option maxHeartbeats 2000000 in
theorem s_X5_readVillage (v_r_kind : (Nat → Int32)) (v_r_start : (Nat → Int32)) (v_r_value : (Nat → Int64)) (v_r_cellName : (Nat → Int64)) (v_g_cells : Int32) (v_r_next : Int32) (v_r_codeLength : Int32) (v_r_ownCell : Int32) (v_r_stopped : Int32) (v_r_fault : Int32) (v_r_faultPlace : Int32) (v_r_laterFault : Int32) (v_r_laterPlace : Int32) (v_r_villageName : (Nat → Int64)) (v_g_villages : Int32) (v_g_villageCell : (Nat → Int32)) (v_g_need : (Nat → Int32)) (v_g_lawEnd : (Nat → Int32)) (v_g_code : (Nat → Int32)) (u0 : rg v_g_cells 0 12) (u1 : rg v_r_next 0 402) (u2 : rg v_r_codeLength 0 400) (u3 : rg v_r_ownCell (-1) 11) (u4 : rg v_g_villages 0 6) (u5 : al v_g_lawEnd 0 400) (u6 : sp v_r_stopped v_r_fault) (u7 : sn v_r_kind v_r_next) (u8 : ca v_r_fault v_r_laterFault v_g_villageCell v_g_villages) (u9 : rg (v_r_kind v_r_next.toNatClampNeg) 5 2147483647) : ok (f_X5_readVillage v_r_kind v_r_start v_r_value v_r_cellName v_g_cells v_r_next v_r_codeLength v_r_ownCell v_r_stopped v_r_fault v_r_faultPlace v_r_laterFault v_r_laterPlace v_r_villageName v_g_villages v_g_villageCell v_g_need v_g_lawEnd v_g_code) (P_X5_readVillage v_r_next v_r_fault v_r_laterFault v_r_kind) := by
  unfold f_X5_readVillage
  refine ok_bd5 (s_X5_opens v_r_kind v_r_start v_r_next v_r_stopped v_r_fault v_r_faultPlace v_g_villages (6 : Int32) u1 u6 u7 u9) (fun o_1_0 o_1_1 o_1_2 o_1_3 o_1_4 p1 => ?_)
  have g2 : rg o_1_0 0 1 := p1.1
  have g4 : rg o_1_1 0 402 := p1.2.2.1
  have g5 : nx v_r_next o_1_1 := p1.2.2.2.1
  have g6 : mn v_r_fault o_1_3 := p1.2.2.2.2.1
  have g7 : sp o_1_2 o_1_3 := p1.2.2.2.2.2.1
  have g8 : sn v_r_kind o_1_1 := p1.2.2.2.2.2.2.1
  refine ok_if (fun c9 => ?_) (fun c9 => ?_)
  · have w10 : rg o_1_0 0 0 := rg_lex (ti_eq c9) (rg_ley (ti_eq2 c9) (show rg (0 : Int32) 0 0 from ⟨by decide, by decide⟩) g2) (show rg (0 : Int32) 0 0 from ⟨by decide, by decide⟩)
    exact ok_some ⟨g4, u2, u3, u4, u5, g5, g6, mn_rf, g7, g8, (ca_mn u8 g6 mn_rf), trivial⟩
  · obtain ⟨i11_0, i11_1⟩ := p1.2.1.resolve_left c9
    have w12 : rg v_g_villages 0 5 := rg_ltx 5 i11_0 u4 (show rg (6 : Int32) 6 6 from ⟨by decide, by decide⟩) (by decide)
    have w13 : rg o_1_0 1 1 := rg_nel 1 c9 g2 (show rg (0 : Int32) 0 0 from ⟨by decide, by decide⟩) (by decide)
    refine ok_bd7 (s_X5_newName v_r_kind v_r_start v_r_value v_r_cellName v_r_villageName v_g_cells v_g_villages o_1_1 o_1_2 o_1_3 o_1_4 v_r_laterFault v_r_laterPlace u0 (rg_w w12 (by decide) (by decide)) (rg_w i11_1 (by decide) (by decide)) g7 g8) (fun o_3_0 o_3_1 o_3_2 o_3_3 o_3_4 o_3_5 o_3_6 p14 => ?_)
    have g15 : rg o_3_1 0 402 := p14.1
    have g16 : nx o_1_1 o_3_1 := p14.2.1
    have g17 : mn o_1_3 o_3_3 := p14.2.2.1
    have g18 : mn v_r_laterFault o_3_5 := p14.2.2.2.1
    have g19 : sp o_3_2 o_3_3 := p14.2.2.2.2.1
    have g20 : sn v_r_kind o_3_1 := p14.2.2.2.2.2.1
    refine ok_ck (inb_rg w12 (by decide) (by decide)) ?_
    refine ok_nm (fun a_5 ea_5 => ?_)
    refine ok_bd7 (s_X5_knownCell v_r_kind v_r_start v_r_value v_r_cellName v_g_cells o_3_1 o_3_2 o_3_3 o_3_4 o_3_5 o_3_6 u0 (rg_w (rg_ley g16 i11_1 g15) (by decide) (by decide)) g19 g20) (fun o_6_0 o_6_1 o_6_2 o_6_3 o_6_4 o_6_5 o_6_6 p21 => ?_)
    have g22 : rg o_6_0 (-1) 11 := p21.1
    have g23 : rg o_6_1 0 402 := p21.2.1
    have g24 : nx o_3_1 o_6_1 := p21.2.2.1
    have g25 : mn o_3_3 o_6_3 := p21.2.2.2.1
    have g26 : mn o_3_5 o_6_5 := p21.2.2.2.2.1
    have g27 : sp o_6_2 o_6_3 := p21.2.2.2.2.2.1
    have g28 : sn v_r_kind o_6_1 := p21.2.2.2.2.2.2.1
    refine ok_ck (inb_rg w12 (by decide) (by decide)) ?_
    refine ok_nm (fun a_8 ea_8 => ?_)
    refine ok_bd7 (s_X5_number v_r_kind v_r_start v_r_value o_6_1 o_6_2 o_6_3 o_6_4 o_6_5 o_6_6 (0 : Int32) (99 : Int32) (rg_w (rg_ley g24 (rg_ley g16 i11_1 g15) g23) (by decide) (by decide)) g27 g28) (fun o_9_0 o_9_1 o_9_2 o_9_3 o_9_4 o_9_5 o_9_6 p30 => ?_)
    have g31 : rg o_9_1 0 402 := p30.1
    have g32 : nx o_6_1 o_9_1 := p30.2.1
    have g33 : mn o_6_3 o_9_3 := p30.2.2.1
    have g34 : mn o_6_5 o_9_5 := p30.2.2.2.1
    have g35 : sp o_9_2 o_9_3 := p30.2.2.2.2.1
    have g36 : sn v_r_kind o_9_1 := p30.2.2.2.2.2.1
    refine ok_ck (inb_rg w12 (by decide) (by decide)) ?_
    refine ok_nm (fun a_11 ea_11 => ?_)
    refine ok_bd5 (s_X5_accept v_r_kind v_r_start o_9_1 o_9_2 o_9_3 o_9_4 (61 : Int32) (rg_w (rg_ley g32 (rg_ley g24 (rg_ley g16 i11_1 g15) g23) g31) (by decide) (by decide)) g35 g36 (n34_rg (show rg (61 : Int32) 61 61 from ⟨by decide, by decide⟩) (by decide))) (fun o_12_0 o_12_1 o_12_2 o_12_3 o_12_4 p37 => ?_)
    have g38 : rg o_12_0 0 1 := p37.1
    have g40 : rg o_12_1 0 402 := p37.2.2.1
    have g41 : nx o_9_1 o_12_1 := p37.2.2.2.1
    have g42 : mn o_9_3 o_12_3 := p37.2.2.2.2.1
    have g43 : sp o_12_2 o_12_3 := p37.2.2.2.2.2.1
    have g44 : sn v_r_kind o_12_1 := p37.2.2.2.2.2.2.1
    refine ok_bd8 (s_fLr7 o_6_0 v_r_kind v_r_start v_r_value v_r_cellName v_g_cells o_12_1 v_r_codeLength o_12_2 o_12_3 o_12_4 o_9_5 o_9_6 v_g_code (0 : Int32) g22 u0 (rg_w (rg_ley g41 (rg_ley g32 (rg_ley g24 (rg_ley g16 i11_1 g15) g23) g31) g40) (by decide) (by decide)) u2 g43 g44 (rg_w (show rg (0 : Int32) 0 0 from ⟨by decide, by decide⟩) (by decide) (by decide))) (fun o_13_0 o_13_1 o_13_2 o_13_3 o_13_4 o_13_5 o_13_6 o_13_7 p46 => ?_)
    have g47 : rg o_13_0 0 402 := p46.1
    have g48 : rg o_13_1 0 400 := p46.2.1
    have g49 : nx o_12_1 o_13_0 := p46.2.2.1
    have g50 : mn o_12_3 o_13_3 := p46.2.2.2.1
    have g51 : mn o_9_5 o_13_5 := p46.2.2.2.2.1
    have g52 : sp o_13_2 o_13_3 := p46.2.2.2.2.2.1
    have g53 : sn v_r_kind o_13_0 := p46.2.2.2.2.2.2.1
    refine ok_bd5 (s_X5_accept v_r_kind v_r_start o_13_0 o_13_2 o_13_3 o_13_4 (59 : Int32) (rg_w (rg_ley g49 (rg_ley g41 (rg_ley g32 (rg_ley g24 (rg_ley g16 i11_1 g15) g23) g31) g40) g47) (by decide) (by decide)) g52 g53 (n34_rg (show rg (59 : Int32) 59 59 from ⟨by decide, by decide⟩) (by decide))) (fun o_14_0 o_14_1 o_14_2 o_14_3 o_14_4 p54 => ?_)
    have g55 : rg o_14_0 0 1 := p54.1
    have g57 : rg o_14_1 0 402 := p54.2.2.1
    have g58 : nx o_13_0 o_14_1 := p54.2.2.2.1
    have g59 : mn o_13_3 o_14_3 := p54.2.2.2.2.1
    have g60 : sp o_14_2 o_14_3 := p54.2.2.2.2.2.1
    have g61 : sn v_r_kind o_14_1 := p54.2.2.2.2.2.2.1
    refine ok_ck (inb_rg w12 (by decide) (by decide)) ?_
    refine ok_nm (fun a_16 ea_16 => ?_)
    exact ok_some ⟨(rg_w (rg_ley g58 (rg_ley g49 (rg_ley g41 (rg_ley g32 (rg_ley g24 (rg_ley g16 i11_1 g15) g23) g31) g40) g47) g57) (by decide) (by decide)), g48, g22, (rg_w (rg_add (e := 1) (f := 6) w12 (show rg (1 : Int32) 1 1 from ⟨by decide, by decide⟩) (by decide) (by decide) (by decide) (by decide)) (by decide) (by decide)), (al_upd (c := 0) (d := 400) ea_16 u5 g48), (nx_tr (nx_tr (nx_tr (nx_tr (nx_tr (nx_tr g5 g16) g24) g32) g41) g49) g58), (mn_tr (mn_tr (mn_tr (mn_tr (mn_tr (mn_tr g6 g17) g25) g33) g42) g50) g59), (mn_tr (mn_tr (mn_tr g18 g26) g34) g51), g60, g61, (ca_up ea_8 (ca_mn u8 (mn_tr (mn_tr (mn_tr (mn_tr (mn_tr (mn_tr g6 g17) g25) g33) g42) g50) g59) (mn_tr (mn_tr (mn_tr g18 g26) g34) g51)) (nfo_rg p21.2.2.2.2.2.2.2.1 (mn_tr (mn_tr (mn_tr g33 g42) g50) g59) (mn_tr g34 g51) (rg_w g22 (by decide) (by decide))) w12 (by decide) (by decide)), trivial⟩

abbrev P_X5_begin  : Int32 × Int32 × Int32 × Int32 × Int32 × Int32 × Int32 × Int32 × Int32 × Int32 × Int32 × Int32 × (Nat → Int32) → Prop := (fun o : Int32 × Int32 × Int32 × Int32 × Int32 × Int32 × Int32 × Int32 × Int32 × Int32 × Int32 × Int32 × (Nat → Int32) => rg o.1 0 402 ∧ rg o.2.1 0 400 ∧ rg o.2.2.2.2.2.2.2.1 0 12 ∧ rg o.2.2.2.2.2.2.2.2.1 0 20 ∧ rg o.2.2.2.2.2.2.2.2.2.1 0 3 ∧ rg o.2.2.2.2.2.2.2.2.2.2.1 0 6 ∧ rg o.2.2.2.2.2.2.2.2.2.2.2.1 0 14 ∧ rg o.1 0 0 ∧ rg o.2.2.1 0 0 ∧ rg o.2.2.2.2.2.2.2.2.1 0 0 ∧ rg o.2.2.2.2.2.2.2.2.2.1 0 0 ∧ rg o.2.2.2.2.2.2.2.2.2.2.1 0 0 ∧ True)
set_option maxRecDepth 100000 in
set_option maxHeartbeats 2000000 in
theorem s_X5_begin (v_r_next : Int32) (v_r_codeLength : Int32) (v_r_stopped : Int32) (v_r_fault : Int32) (v_r_faultPlace : Int32) (v_r_laterFault : Int32) (v_r_laterPlace : Int32) (v_g_cells : Int32) (v_g_passes : Int32) (v_g_rivers : Int32) (v_g_villages : Int32) (v_g_rains : Int32) (v_g_ways : (Nat → Int32)) (u0 : rg v_r_next 0 402) (u1 : rg v_r_codeLength 0 400) (u2 : rg v_g_cells 0 12) (u3 : rg v_g_passes 0 20) (u4 : rg v_g_rivers 0 3) (u5 : rg v_g_villages 0 6) (u6 : rg v_g_rains 0 14) : ok (f_X5_begin v_r_next v_r_codeLength v_r_stopped v_r_fault v_r_faultPlace v_r_laterFault v_r_laterPlace v_g_cells v_g_passes v_g_rivers v_g_villages v_g_rains v_g_ways) P_X5_begin := by
  unfold f_X5_begin
  refine ok_bd6 (s_X3_clear v_g_cells v_g_passes v_g_rivers v_g_villages v_g_rains v_g_ways u2 u3 u4 u5 u6) (fun o_1_0 o_1_1 o_1_2 o_1_3 o_1_4 o_1_5 p1 => ?_)
  have g2 : rg o_1_0 0 12 := p1.1
  have g3 : rg o_1_1 0 20 := p1.2.1
  have g4 : rg o_1_2 0 3 := p1.2.2.1
  have g5 : rg o_1_3 0 6 := p1.2.2.2.1
  have g6 : rg o_1_4 0 14 := p1.2.2.2.2.1
  have g7 : rg o_1_1 0 0 := p1.2.2.2.2.2.1
  have g8 : rg o_1_2 0 0 := p1.2.2.2.2.2.2.1
  have g9 : rg o_1_3 0 0 := p1.2.2.2.2.2.2.2.1
  exact ok_some ⟨(rg_w (show rg (0 : Int32) 0 0 from ⟨by decide, by decide⟩) (by decide) (by decide)), (rg_w (show rg (0 : Int32) 0 0 from ⟨by decide, by decide⟩) (by decide) (by decide)), g2, (rg_w g7 (by decide) (by decide)), (rg_w g8 (by decide) (by decide)), (rg_w g9 (by decide) (by decide)), g6, (show rg (0 : Int32) 0 0 from ⟨by decide, by decide⟩), (show rg (0 : Int32) 0 0 from ⟨by decide, by decide⟩), g7, g8, g9, trivial⟩

abbrev P_X5_placeOfFault  : Int32 → Prop := (fun o : Int32 => True)
set_option maxRecDepth 100000 in
set_option maxHeartbeats 2000000 in
theorem s_X5_placeOfFault (v_r_fault : Int32) (v_r_faultPlace : Int32) (v_r_laterPlace : Int32)  : ok (f_X5_placeOfFault v_r_fault v_r_faultPlace v_r_laterPlace) P_X5_placeOfFault := by
  unfold f_X5_placeOfFault
  refine ok_if (fun c1 => ?_) (fun c1 => ?_)
  · have w2 : rg v_r_fault 0 0 := rg_lex (ti_eq c1) (rg_ley (ti_eq2 c1) (show rg (0 : Int32) 0 0 from ⟨by decide, by decide⟩) (rg_any v_r_fault)) (show rg (0 : Int32) 0 0 from ⟨by decide, by decide⟩)
    exact ok_some trivial
  · exact ok_some trivial

abbrev P_X5_readAll  : Int32 × Int32 × Int32 × Int32 × Int32 × Int32 × Int32 × Int32 × Int32 × (Nat → Int32) × (Nat → Int32) × (Nat → Int64) × (Nat → Int64) × (Nat → Int64) × Int32 × Int32 × Int32 × Int32 × Int32 × (Nat → Int32) × (Nat → Int32) × (Nat → Int32) × (Nat → Int32) × (Nat → Int32) × (Nat → Int32) × (Nat → Int32) × (Nat → Int32) × (Nat → Int32) × (Nat → Int32) × (Nat → Int32) × (Nat → Int32) × (Nat → Int32) × (Nat → Int32) × (Nat → Int32) → Prop := (fun o : Int32 × Int32 × Int32 × Int32 × Int32 × Int32 × Int32 × Int32 × Int32 × (Nat → Int32) × (Nat → Int32) × (Nat → Int64) × (Nat → Int64) × (Nat → Int64) × Int32 × Int32 × Int32 × Int32 × Int32 × (Nat → Int32) × (Nat → Int32) × (Nat → Int32) × (Nat → Int32) × (Nat → Int32) × (Nat → Int32) × (Nat → Int32) × (Nat → Int32) × (Nat → Int32) × (Nat → Int32) × (Nat → Int32) × (Nat → Int32) × (Nat → Int32) × (Nat → Int32) × (Nat → Int32) => rg o.2.1 0 402 ∧ rg o.2.2.1 0 400 ∧ rg o.2.2.2.1 (-1) 11 ∧ rg o.2.2.2.2.2.2.2.2.2.2.2.2.2.2.1 0 12 ∧ rg o.2.2.2.2.2.2.2.2.2.2.2.2.2.2.2.1 0 20 ∧ rg o.2.2.2.2.2.2.2.2.2.2.2.2.2.2.2.2.1 0 3 ∧ rg o.2.2.2.2.2.2.2.2.2.2.2.2.2.2.2.2.2.1 0 6 ∧ rg o.2.2.2.2.2.2.2.2.2.2.2.2.2.2.2.2.2.2.1 0 14 ∧ al o.2.2.2.2.2.2.2.2.2.2.2.2.2.2.2.2.2.2.2.2.2.2.2.2.2.2.2.2.2.2.2.1 0 400 ∧ ca (o.2.2.2.2.2.1) (o.2.2.2.2.2.2.2.1) (o.2.2.2.2.2.2.2.2.2.2.2.2.2.2.2.2.2.2.2.2.2.2.1) (o.2.2.2.2.2.2.2.2.2.2.2.2.2.2.2.1) ∧ ca (o.2.2.2.2.2.1) (o.2.2.2.2.2.2.2.1) (o.2.2.2.2.2.2.2.2.2.2.2.2.2.2.2.2.2.2.2.2.2.2.2.1) (o.2.2.2.2.2.2.2.2.2.2.2.2.2.2.2.1) ∧ ca (o.2.2.2.2.2.1) (o.2.2.2.2.2.2.2.1) (o.2.2.2.2.2.2.2.2.2.2.2.2.2.2.2.2.2.2.2.2.2.2.2.2.2.1) (o.2.2.2.2.2.2.2.2.2.2.2.2.2.2.2.2.1) ∧ ca (o.2.2.2.2.2.1) (o.2.2.2.2.2.2.2.1) (o.2.2.2.2.2.2.2.2.2.2.2.2.2.2.2.2.2.2.2.2.2.2.2.2.2.2.2.2.2.1) (o.2.2.2.2.2.2.2.2.2.2.2.2.2.2.2.2.2.1) ∧ (¬ o.1 = 0 ∨ (o.2.2.2.2.2.1 = 0 ∧ o.2.2.2.2.2.2.2.1 = 0)) ∧ True)
set_option maxRecDepth 100000 in
set_option maxHeartbeats 2000000 in
theorem s_X5_readAll_b143   (v_r_next : Int32) (v_r_codeLength : Int32) (v_r_ownCell : Int32) (v_r_stopped : Int32) (v_r_fault : Int32) (v_r_faultPlace : Int32) (v_r_laterFault : Int32) (v_r_laterPlace : Int32) (v_r_kind : (Nat → Int32)) (v_r_start : (Nat → Int32)) (v_r_value : (Nat → Int64)) (v_r_cellName : (Nat → Int64)) (v_r_villageName : (Nat → Int64)) (v_g_cells : Int32) (v_g_passes : Int32) (v_g_rivers : Int32) (v_g_villages : Int32) (v_g_rains : Int32) (v_g_room : (Nat → Int32)) (v_g_water : (Nat → Int32)) (v_g_ways : (Nat → Int32)) (v_g_passFrom : (Nat → Int32)) (v_g_passTo : (Nat → Int32)) (v_g_passWidth : (Nat → Int32)) (v_g_riverCell : (Nat → Int32)) (v_g_riverLevel : (Nat → Int32)) (v_g_riverWidth : (Nat → Int32)) (v_g_riverSalt : (Nat → Int32)) (v_g_villageCell : (Nat → Int32)) (v_g_need : (Nat → Int32)) (v_g_lawEnd : (Nat → Int32)) (v_g_code : (Nat → Int32)) (v_g_rain : (Nat → Int32))  (u0 : rg v_r_next 0 402) (u1 : rg v_r_codeLength 0 400) (u2 : rg v_r_ownCell (-1) 11) (u3 : rg v_g_cells 0 12) (u4 : rg v_g_passes 0 20) (u5 : rg v_g_rivers 0 3) (u6 : rg v_g_villages 0 6) (u7 : rg v_g_rains 0 14) (u8 : al v_g_lawEnd 0 400) (u9 : ca v_r_fault v_r_laterFault v_g_passFrom v_g_passes) (u10 : ca v_r_fault v_r_laterFault v_g_passTo v_g_passes) (u11 : ca v_r_fault v_r_laterFault v_g_riverCell v_g_rivers) (u12 : ca v_r_fault v_r_laterFault v_g_villageCell v_g_villages) (u13 : sp v_r_stopped v_r_fault) (u14 : sn v_r_kind v_r_next)  : ok (f_X5_readAll_b143  v_r_next v_r_codeLength v_r_ownCell v_r_stopped v_r_fault v_r_faultPlace v_r_laterFault v_r_laterPlace v_r_kind v_r_start v_r_value v_r_cellName v_r_villageName v_g_cells v_g_passes v_g_rivers v_g_villages v_g_rains v_g_room v_g_water v_g_ways v_g_passFrom v_g_passTo v_g_passWidth v_g_riverCell v_g_riverLevel v_g_riverWidth v_g_riverSalt v_g_villageCell v_g_need v_g_lawEnd v_g_code v_g_rain) P_X5_readAll := by
  unfold f_X5_readAll_b143
  refine ok_if (fun c1 => ?_) (fun c1 => ?_)
  · have w2 : rg v_r_fault 0 0 := rg_lex (ti_eq c1) (rg_ley (ti_eq2 c1) (show rg (0 : Int32) 0 0 from ⟨by decide, by decide⟩) (rg_any v_r_fault)) (show rg (0 : Int32) 0 0 from ⟨by decide, by decide⟩)
    exact ok_some ⟨u0, u1, u2, u3, u4, u5, u6, u7, u8, u9, u10, u11, u12, (z2_a c1), trivial⟩
  · exact ok_some ⟨u0, u1, u2, u3, u4, u5, u6, u7, u8, u9, u10, u11, u12, (Or.inl c1), trivial⟩
set_option maxRecDepth 100000 in
set_option maxHeartbeats 2000000 in
theorem s_X5_readAll_b17    : ∀ (n : Nat) (v_r_next : Int32) (v_r_codeLength : Int32) (v_r_ownCell : Int32) (v_r_stopped : Int32) (v_r_fault : Int32) (v_r_faultPlace : Int32) (v_r_laterFault : Int32) (v_r_laterPlace : Int32) (v_r_kind : (Nat → Int32)) (v_r_start : (Nat → Int32)) (v_r_value : (Nat → Int64)) (v_r_cellName : (Nat → Int64)) (v_r_villageName : (Nat → Int64)) (v_g_cells : Int32) (v_g_passes : Int32) (v_g_rivers : Int32) (v_g_villages : Int32) (v_g_rains : Int32) (v_g_room : (Nat → Int32)) (v_g_water : (Nat → Int32)) (v_g_ways : (Nat → Int32)) (v_g_passFrom : (Nat → Int32)) (v_g_passTo : (Nat → Int32)) (v_g_passWidth : (Nat → Int32)) (v_g_riverCell : (Nat → Int32)) (v_g_riverLevel : (Nat → Int32)) (v_g_riverWidth : (Nat → Int32)) (v_g_riverSalt : (Nat → Int32)) (v_g_villageCell : (Nat → Int32)) (v_g_need : (Nat → Int32)) (v_g_lawEnd : (Nat → Int32)) (v_g_code : (Nat → Int32)) (v_g_rain : (Nat → Int32)) (x3 : Int32) (u0 : rg v_r_next 0 402) (u1 : rg v_r_codeLength 0 400) (u2 : rg v_r_ownCell (-1) 11) (u3 : rg v_g_cells 0 12) (u4 : rg v_g_passes 0 20) (u5 : rg v_g_rivers 0 3) (u6 : rg v_g_villages 0 6) (u7 : rg v_g_rains 0 14) (u8 : al v_g_lawEnd 0 400) (u9 : rg x3 0 403) (u10 : ca v_r_fault v_r_laterFault v_g_passFrom v_g_passes) (u11 : ca v_r_fault v_r_laterFault v_g_passTo v_g_passes) (u12 : ca v_r_fault v_r_laterFault v_g_riverCell v_g_rivers) (u13 : ca v_r_fault v_r_laterFault v_g_villageCell v_g_villages) (u14 : sp v_r_stopped v_r_fault) (u15 : sn v_r_kind v_r_next)  (hm : (403 - x3.toInt).toNat < n), ok (f_X5_readAll_b17  n v_r_next v_r_codeLength v_r_ownCell v_r_stopped v_r_fault v_r_faultPlace v_r_laterFault v_r_laterPlace v_r_kind v_r_start v_r_value v_r_cellName v_r_villageName v_g_cells v_g_passes v_g_rivers v_g_villages v_g_rains v_g_room v_g_water v_g_ways v_g_passFrom v_g_passTo v_g_passWidth v_g_riverCell v_g_riverLevel v_g_riverWidth v_g_riverSalt v_g_villageCell v_g_need v_g_lawEnd v_g_code v_g_rain x3) P_X5_readAll := by
  intro n
  induction n with
  | zero =>
    intro v_r_next v_r_codeLength v_r_ownCell v_r_stopped v_r_fault v_r_faultPlace v_r_laterFault v_r_laterPlace v_r_kind v_r_start v_r_value v_r_cellName v_r_villageName v_g_cells v_g_passes v_g_rivers v_g_villages v_g_rains v_g_room v_g_water v_g_ways v_g_passFrom v_g_passTo v_g_passWidth v_g_riverCell v_g_riverLevel v_g_riverWidth v_g_riverSalt v_g_villageCell v_g_need v_g_lawEnd v_g_code v_g_rain x3 u0 u1 u2 u3 u4 u5 u6 u7 u8 u9 u10 u11 u12 u13 u14 u15 hm
    exact absurd hm (Nat.not_lt_zero _)
  | succ n ih =>
    intro v_r_next v_r_codeLength v_r_ownCell v_r_stopped v_r_fault v_r_faultPlace v_r_laterFault v_r_laterPlace v_r_kind v_r_start v_r_value v_r_cellName v_r_villageName v_g_cells v_g_passes v_g_rivers v_g_villages v_g_rains v_g_room v_g_water v_g_ways v_g_passFrom v_g_passTo v_g_passWidth v_g_riverCell v_g_riverLevel v_g_riverWidth v_g_riverSalt v_g_villageCell v_g_need v_g_lawEnd v_g_code v_g_rain x3 u0 u1 u2 u3 u4 u5 u6 u7 u8 u9 u10 u11 u12 u13 u14 u15 hm
    show ok (f_X5_readAll_b17_st (f_X5_readAll_b17  n)  v_r_next v_r_codeLength v_r_ownCell v_r_stopped v_r_fault v_r_faultPlace v_r_laterFault v_r_laterPlace v_r_kind v_r_start v_r_value v_r_cellName v_r_villageName v_g_cells v_g_passes v_g_rivers v_g_villages v_g_rains v_g_room v_g_water v_g_ways v_g_passFrom v_g_passTo v_g_passWidth v_g_riverCell v_g_riverLevel v_g_riverWidth v_g_riverSalt v_g_villageCell v_g_need v_g_lawEnd v_g_code v_g_rain x3) P_X5_readAll
    unfold f_X5_readAll_b17_st
    refine ok_if (fun c1 => ?_) (fun c1 => ?_)
    · have w2 : rg x3 403 403 := rg_ley (ti_le c1) (show rg (403 : Int32) 403 403 from ⟨by decide, by decide⟩) u9
      exact s_X5_readAll_b143 v_r_next v_r_codeLength v_r_ownCell v_r_stopped v_r_fault v_r_faultPlace v_r_laterFault v_r_laterPlace v_r_kind v_r_start v_r_value v_r_cellName v_r_villageName v_g_cells v_g_passes v_g_rivers v_g_villages v_g_rains v_g_room v_g_water v_g_ways v_g_passFrom v_g_passTo v_g_passWidth v_g_riverCell v_g_riverLevel v_g_riverWidth v_g_riverSalt v_g_villageCell v_g_need v_g_lawEnd v_g_code v_g_rain u0 u1 u2 u3 u4 u5 u6 u7 u8 u10 u11 u12 u13 u14 u15
    · have w3 : rg x3 0 402 := rg_ltx 402 (ti_nle c1) u9 (show rg (403 : Int32) 403 403 from ⟨by decide, by decide⟩) (by decide)
      refine ok_if (fun c4 => ?_) (fun c4 => ?_)
      · have w5 : rg v_r_stopped 0 0 := rg_lex (ti_eq c4) (rg_ley (ti_eq2 c4) (show rg (0 : Int32) 0 0 from ⟨by decide, by decide⟩) (rg_any v_r_stopped)) (show rg (0 : Int32) 0 0 from ⟨by decide, by decide⟩)
        refine ok_ck (inb_rg u0 (by decide) (by decide)) ?_
        refine ok_if (fun c6 => ?_) (fun c6 => ?_)
        · have w7 : rg (v_r_kind v_r_next.toNatClampNeg) 3 3 := rg_lex (ti_eq c6) (rg_ley (ti_eq2 c6) (show rg (3 : Int32) 3 3 from ⟨by decide, by decide⟩) (rg_any (v_r_kind v_r_next.toNatClampNeg))) (show rg (3 : Int32) 3 3 from ⟨by decide, by decide⟩)
          exact s_X5_readAll_b143 v_r_next v_r_codeLength v_r_ownCell v_r_stopped v_r_fault v_r_faultPlace v_r_laterFault v_r_laterPlace v_r_kind v_r_start v_r_value v_r_cellName v_r_villageName v_g_cells v_g_passes v_g_rivers v_g_villages v_g_rains v_g_room v_g_water v_g_ways v_g_passFrom v_g_passTo v_g_passWidth v_g_riverCell v_g_riverLevel v_g_riverWidth v_g_riverSalt v_g_villageCell v_g_need v_g_lawEnd v_g_code v_g_rain u0 u1 u2 u3 u4 u5 u6 u7 u8 u10 u11 u12 u13 u14 u15
        · refine ok_ck (inb_rg u0 (by decide) (by decide)) ?_
          refine ok_if (fun c8 => ?_) (fun c8 => ?_)
          · have w9 : rg (v_r_kind v_r_next.toNatClampNeg) 5 5 := rg_lex (ti_eq c8) (rg_ley (ti_eq2 c8) (show rg (5 : Int32) 5 5 from ⟨by decide, by decide⟩) (rg_any (v_r_kind v_r_next.toNatClampNeg))) (show rg (5 : Int32) 5 5 from ⟨by decide, by decide⟩)
            refine ok_bd10 (s_X5_readCell v_r_kind v_r_start v_r_value v_r_villageName v_g_villages v_r_next v_r_stopped v_r_fault v_r_faultPlace v_r_laterFault v_r_laterPlace v_r_cellName v_g_cells v_g_room v_g_water u6 u0 u3 u14 u15 (rg_w w9 (by decide) (by decide))) (fun o_7_0 o_7_1 o_7_2 o_7_3 o_7_4 o_7_5 o_7_6 o_7_7 o_7_8 o_7_9 p10 => ?_)
            have g11 : rg o_7_0 0 402 := p10.1
            have g12 : rg o_7_7 0 12 := p10.2.1
            have g13 : nx v_r_next o_7_0 := p10.2.2.1
            have g14 : mn v_r_fault o_7_2 := p10.2.2.2.1
            have g15 : mn v_r_laterFault o_7_4 := p10.2.2.2.2.1
            have g16 : sp o_7_1 o_7_2 := p10.2.2.2.2.2.1
            have g17 : sn v_r_kind o_7_0 := p10.2.2.2.2.2.2.1
            exact ih o_7_0 v_r_codeLength v_r_ownCell o_7_1 o_7_2 o_7_3 o_7_4 o_7_5 v_r_kind v_r_start v_r_value o_7_6 v_r_villageName o_7_7 v_g_passes v_g_rivers v_g_villages v_g_rains o_7_8 o_7_9 v_g_ways v_g_passFrom v_g_passTo v_g_passWidth v_g_riverCell v_g_riverLevel v_g_riverWidth v_g_riverSalt v_g_villageCell v_g_need v_g_lawEnd v_g_code v_g_rain (x3 + (1 : Int32)) g11 u1 u2 g12 u4 u5 u6 u7 u8 (rg_w (rg_add (e := 1) (f := 403) w3 (show rg (1 : Int32) 1 1 from ⟨by decide, by decide⟩) (by decide) (by decide) (by decide) (by decide)) (by decide) (by decide)) (ca_mn u10 g14 g15) (ca_mn u11 g14 g15) (ca_mn u12 g14 g15) (ca_mn u13 g14 g15) g16 g17 (ms_up (y := (x3 + (1 : Int32))) (a := 0) hm (lt_ad w3 (show rg (1 : Int32) 1 1 from ⟨by decide, by decide⟩) (by decide) (by decide) (by decide)) (rg_w (rg_add (e := 1) (f := 403) w3 (show rg (1 : Int32) 1 1 from ⟨by decide, by decide⟩) (by decide) (by decide) (by decide) (by decide)) (by decide) (by decide)))
          · refine ok_if (fun c18 => ?_) (fun c18 => ?_)
            · have w19 : rg (v_r_kind v_r_next.toNatClampNeg) 6 6 := rg_lex (ti_eq c18) (rg_ley (ti_eq2 c18) (show rg (6 : Int32) 6 6 from ⟨by decide, by decide⟩) (rg_any (v_r_kind v_r_next.toNatClampNeg))) (show rg (6 : Int32) 6 6 from ⟨by decide, by decide⟩)
              refine ok_bd11 (s_X5_readPass v_r_kind v_r_start v_r_value v_r_cellName v_g_cells v_r_next v_r_stopped v_r_fault v_r_faultPlace v_r_laterFault v_r_laterPlace v_g_passes v_g_ways v_g_passFrom v_g_passTo v_g_passWidth u3 u0 u4 u14 u15 u10 u11 (rg_w w19 (by decide) (by decide))) (fun o_9_0 o_9_1 o_9_2 o_9_3 o_9_4 o_9_5 o_9_6 o_9_7 o_9_8 o_9_9 o_9_10 p20 => ?_)
              have g21 : rg o_9_0 0 402 := p20.1
              have g22 : rg o_9_6 0 20 := p20.2.1
              have g23 : nx v_r_next o_9_0 := p20.2.2.1
              have g24 : mn v_r_fault o_9_2 := p20.2.2.2.1
              have g25 : mn v_r_laterFault o_9_4 := p20.2.2.2.2.1
              have g26 : sp o_9_1 o_9_2 := p20.2.2.2.2.2.1
              have g27 : sn v_r_kind o_9_0 := p20.2.2.2.2.2.2.1
              have g28 : ca o_9_2 o_9_4 o_9_8 o_9_6 := p20.2.2.2.2.2.2.2.1
              have g29 : ca o_9_2 o_9_4 o_9_9 o_9_6 := p20.2.2.2.2.2.2.2.2.1
              exact ih o_9_0 v_r_codeLength v_r_ownCell o_9_1 o_9_2 o_9_3 o_9_4 o_9_5 v_r_kind v_r_start v_r_value v_r_cellName v_r_villageName v_g_cells o_9_6 v_g_rivers v_g_villages v_g_rains v_g_room v_g_water o_9_7 o_9_8 o_9_9 o_9_10 v_g_riverCell v_g_riverLevel v_g_riverWidth v_g_riverSalt v_g_villageCell v_g_need v_g_lawEnd v_g_code v_g_rain (x3 + (1 : Int32)) g21 u1 u2 u3 g22 u5 u6 u7 u8 (rg_w (rg_add (e := 1) (f := 403) w3 (show rg (1 : Int32) 1 1 from ⟨by decide, by decide⟩) (by decide) (by decide) (by decide) (by decide)) (by decide) (by decide)) g28 g29 (ca_mn u12 g24 g25) (ca_mn u13 g24 g25) g26 g27 (ms_up (y := (x3 + (1 : Int32))) (a := 0) hm (lt_ad w3 (show rg (1 : Int32) 1 1 from ⟨by decide, by decide⟩) (by decide) (by decide) (by decide)) (rg_w (rg_add (e := 1) (f := 403) w3 (show rg (1 : Int32) 1 1 from ⟨by decide, by decide⟩) (by decide) (by decide) (by decide) (by decide)) (by decide) (by decide)))
            · refine ok_if (fun c30 => ?_) (fun c30 => ?_)
              · have w31 : rg (v_r_kind v_r_next.toNatClampNeg) 7 7 := rg_lex (ti_eq c30) (rg_ley (ti_eq2 c30) (show rg (7 : Int32) 7 7 from ⟨by decide, by decide⟩) (rg_any (v_r_kind v_r_next.toNatClampNeg))) (show rg (7 : Int32) 7 7 from ⟨by decide, by decide⟩)
                refine ok_bd12 (s_X5_readRiver v_r_kind v_r_start v_r_value v_r_cellName v_g_cells v_r_next v_r_stopped v_r_fault v_r_faultPlace v_r_laterFault v_r_laterPlace v_g_rivers v_g_ways v_g_riverCell v_g_riverLevel v_g_riverWidth v_g_riverSalt u3 u0 u5 u14 u15 u12 (rg_w w31 (by decide) (by decide))) (fun o_11_0 o_11_1 o_11_2 o_11_3 o_11_4 o_11_5 o_11_6 o_11_7 o_11_8 o_11_9 o_11_10 o_11_11 p32 => ?_)
                have g33 : rg o_11_0 0 402 := p32.1
                have g34 : rg o_11_6 0 3 := p32.2.1
                have g35 : nx v_r_next o_11_0 := p32.2.2.1
                have g36 : mn v_r_fault o_11_2 := p32.2.2.2.1
                have g37 : mn v_r_laterFault o_11_4 := p32.2.2.2.2.1
                have g38 : sp o_11_1 o_11_2 := p32.2.2.2.2.2.1
                have g39 : sn v_r_kind o_11_0 := p32.2.2.2.2.2.2.1
                have g40 : ca o_11_2 o_11_4 o_11_8 o_11_6 := p32.2.2.2.2.2.2.2.1
                exact ih o_11_0 v_r_codeLength v_r_ownCell o_11_1 o_11_2 o_11_3 o_11_4 o_11_5 v_r_kind v_r_start v_r_value v_r_cellName v_r_villageName v_g_cells v_g_passes o_11_6 v_g_villages v_g_rains v_g_room v_g_water o_11_7 v_g_passFrom v_g_passTo v_g_passWidth o_11_8 o_11_9 o_11_10 o_11_11 v_g_villageCell v_g_need v_g_lawEnd v_g_code v_g_rain (x3 + (1 : Int32)) g33 u1 u2 u3 u4 g34 u6 u7 u8 (rg_w (rg_add (e := 1) (f := 403) w3 (show rg (1 : Int32) 1 1 from ⟨by decide, by decide⟩) (by decide) (by decide) (by decide) (by decide)) (by decide) (by decide)) (ca_mn u10 g36 g37) (ca_mn u11 g36 g37) g40 (ca_mn u13 g36 g37) g38 g39 (ms_up (y := (x3 + (1 : Int32))) (a := 0) hm (lt_ad w3 (show rg (1 : Int32) 1 1 from ⟨by decide, by decide⟩) (by decide) (by decide) (by decide)) (rg_w (rg_add (e := 1) (f := 403) w3 (show rg (1 : Int32) 1 1 from ⟨by decide, by decide⟩) (by decide) (by decide) (by decide) (by decide)) (by decide) (by decide)))
              · refine ok_if (fun c41 => ?_) (fun c41 => ?_)
                · have w42 : rg (v_r_kind v_r_next.toNatClampNeg) 8 8 := rg_lex (ti_eq c41) (rg_ley (ti_eq2 c41) (show rg (8 : Int32) 8 8 from ⟨by decide, by decide⟩) (rg_any (v_r_kind v_r_next.toNatClampNeg))) (show rg (8 : Int32) 8 8 from ⟨by decide, by decide⟩)
                  refine ok_bd8 (s_X5_readRain v_r_kind v_r_start v_r_value v_r_next v_r_stopped v_r_fault v_r_faultPlace v_r_laterFault v_r_laterPlace v_g_rains v_g_rain u0 u7 u14 u15) (fun o_13_0 o_13_1 o_13_2 o_13_3 o_13_4 o_13_5 o_13_6 o_13_7 p43 => ?_)
                  have g44 : rg o_13_0 0 402 := p43.1
                  have g45 : rg o_13_6 0 14 := p43.2.1
                  have g46 : nx v_r_next o_13_0 := p43.2.2.1
                  have g47 : mn v_r_fault o_13_2 := p43.2.2.2.1
                  have g48 : mn v_r_laterFault o_13_4 := p43.2.2.2.2.1
                  have g49 : sp o_13_1 o_13_2 := p43.2.2.2.2.2.1
                  have g50 : sn v_r_kind o_13_0 := p43.2.2.2.2.2.2.1
                  exact ih o_13_0 v_r_codeLength v_r_ownCell o_13_1 o_13_2 o_13_3 o_13_4 o_13_5 v_r_kind v_r_start v_r_value v_r_cellName v_r_villageName v_g_cells v_g_passes v_g_rivers v_g_villages o_13_6 v_g_room v_g_water v_g_ways v_g_passFrom v_g_passTo v_g_passWidth v_g_riverCell v_g_riverLevel v_g_riverWidth v_g_riverSalt v_g_villageCell v_g_need v_g_lawEnd v_g_code o_13_7 (x3 + (1 : Int32)) g44 u1 u2 u3 u4 u5 u6 g45 u8 (rg_w (rg_add (e := 1) (f := 403) w3 (show rg (1 : Int32) 1 1 from ⟨by decide, by decide⟩) (by decide) (by decide) (by decide) (by decide)) (by decide) (by decide)) (ca_mn u10 g47 g48) (ca_mn u11 g47 g48) (ca_mn u12 g47 g48) (ca_mn u13 g47 g48) g49 g50 (ms_up (y := (x3 + (1 : Int32))) (a := 0) hm (lt_ad w3 (show rg (1 : Int32) 1 1 from ⟨by decide, by decide⟩) (by decide) (by decide) (by decide)) (rg_w (rg_add (e := 1) (f := 403) w3 (show rg (1 : Int32) 1 1 from ⟨by decide, by decide⟩) (by decide) (by decide) (by decide) (by decide)) (by decide) (by decide)))
                · refine ok_if (fun c51 => ?_) (fun c51 => ?_)
                  · have w52 : rg (v_r_kind v_r_next.toNatClampNeg) 9 9 := rg_lex (ti_eq c51) (rg_ley (ti_eq2 c51) (show rg (9 : Int32) 9 9 from ⟨by decide, by decide⟩) (rg_any (v_r_kind v_r_next.toNatClampNeg))) (show rg (9 : Int32) 9 9 from ⟨by decide, by decide⟩)
                    refine ok_bd14 (s_X5_readVillage v_r_kind v_r_start v_r_value v_r_cellName v_g_cells v_r_next v_r_codeLength v_r_ownCell v_r_stopped v_r_fault v_r_faultPlace v_r_laterFault v_r_laterPlace v_r_villageName v_g_villages v_g_villageCell v_g_need v_g_lawEnd v_g_code u3 u0 u1 u2 u6 u8 u14 u15 u13 (rg_w w52 (by decide) (by decide))) (fun o_15_0 o_15_1 o_15_2 o_15_3 o_15_4 o_15_5 o_15_6 o_15_7 o_15_8 o_15_9 o_15_10 o_15_11 o_15_12 o_15_13 p53 => ?_)
                    have g54 : rg o_15_0 0 402 := p53.1
                    have g55 : rg o_15_1 0 400 := p53.2.1
                    have g56 : rg o_15_2 (-1) 11 := p53.2.2.1
                    have g57 : rg o_15_9 0 6 := p53.2.2.2.1
                    have g58 : al o_15_12 0 400 := p53.2.2.2.2.1
                    have g59 : nx v_r_next o_15_0 := p53.2.2.2.2.2.1
                    have g60 : mn v_r_fault o_15_4 := p53.2.2.2.2.2.2.1
                    have g61 : mn v_r_laterFault o_15_6 := p53.2.2.2.2.2.2.2.1
                    have g62 : sp o_15_3 o_15_4 := p53.2.2.2.2.2.2.2.2.1
                    have g63 : sn v_r_kind o_15_0 := p53.2.2.2.2.2.2.2.2.2.1
                    have g64 : ca o_15_4 o_15_6 o_15_10 o_15_9 := p53.2.2.2.2.2.2.2.2.2.2.1
                    exact ih o_15_0 o_15_1 o_15_2 o_15_3 o_15_4 o_15_5 o_15_6 o_15_7 v_r_kind v_r_start v_r_value v_r_cellName o_15_8 v_g_cells v_g_passes v_g_rivers o_15_9 v_g_rains v_g_room v_g_water v_g_ways v_g_passFrom v_g_passTo v_g_passWidth v_g_riverCell v_g_riverLevel v_g_riverWidth v_g_riverSalt o_15_10 o_15_11 o_15_12 o_15_13 v_g_rain (x3 + (1 : Int32)) g54 g55 g56 u3 u4 u5 g57 u7 g58 (rg_w (rg_add (e := 1) (f := 403) w3 (show rg (1 : Int32) 1 1 from ⟨by decide, by decide⟩) (by decide) (by decide) (by decide) (by decide)) (by decide) (by decide)) (ca_mn u10 g60 g61) (ca_mn u11 g60 g61) (ca_mn u12 g60 g61) g64 g62 g63 (ms_up (y := (x3 + (1 : Int32))) (a := 0) hm (lt_ad w3 (show rg (1 : Int32) 1 1 from ⟨by decide, by decide⟩) (by decide) (by decide) (by decide)) (rg_w (rg_add (e := 1) (f := 403) w3 (show rg (1 : Int32) 1 1 from ⟨by decide, by decide⟩) (by decide) (by decide) (by decide) (by decide)) (by decide) (by decide)))
                  · refine ok_ck (inb_rg u0 (by decide) (by decide)) ?_
                    refine ok_bd3 (s_X5_stop v_r_stopped v_r_fault v_r_faultPlace (1 : Int32) (v_r_start v_r_next.toNatClampNeg) u14 (rg_w (show rg (1 : Int32) 1 1 from ⟨by decide, by decide⟩) (by decide) (by decide))) (fun o_17_0 o_17_1 o_17_2 p65 => ?_)
                    have g66 : mn v_r_fault o_17_1 := p65.1
                    have g67 : sp o_17_0 o_17_1 := p65.2.1
                    have g68 : ¬ o_17_1 = 0 := p65.2.2.1
                    exact ih v_r_next v_r_codeLength v_r_ownCell o_17_0 o_17_1 o_17_2 v_r_laterFault v_r_laterPlace v_r_kind v_r_start v_r_value v_r_cellName v_r_villageName v_g_cells v_g_passes v_g_rivers v_g_villages v_g_rains v_g_room v_g_water v_g_ways v_g_passFrom v_g_passTo v_g_passWidth v_g_riverCell v_g_riverLevel v_g_riverWidth v_g_riverSalt v_g_villageCell v_g_need v_g_lawEnd v_g_code v_g_rain (x3 + (1 : Int32)) u0 u1 u2 u3 u4 u5 u6 u7 u8 (rg_w (rg_add (e := 1) (f := 403) w3 (show rg (1 : Int32) 1 1 from ⟨by decide, by decide⟩) (by decide) (by decide) (by decide) (by decide)) (by decide) (by decide)) (ca_mn u10 g66 mn_rf) (ca_mn u11 g66 mn_rf) (ca_mn u12 g66 mn_rf) (ca_mn u13 g66 mn_rf) g67 u15 (ms_up (y := (x3 + (1 : Int32))) (a := 0) hm (lt_ad w3 (show rg (1 : Int32) 1 1 from ⟨by decide, by decide⟩) (by decide) (by decide) (by decide)) (rg_w (rg_add (e := 1) (f := 403) w3 (show rg (1 : Int32) 1 1 from ⟨by decide, by decide⟩) (by decide) (by decide) (by decide) (by decide)) (by decide) (by decide)))
      · exact s_X5_readAll_b143 v_r_next v_r_codeLength v_r_ownCell v_r_stopped v_r_fault v_r_faultPlace v_r_laterFault v_r_laterPlace v_r_kind v_r_start v_r_value v_r_cellName v_r_villageName v_g_cells v_g_passes v_g_rivers v_g_villages v_g_rains v_g_room v_g_water v_g_ways v_g_passFrom v_g_passTo v_g_passWidth v_g_riverCell v_g_riverLevel v_g_riverWidth v_g_riverSalt v_g_villageCell v_g_need v_g_lawEnd v_g_code v_g_rain u0 u1 u2 u3 u4 u5 u6 u7 u8 u10 u11 u12 u13 u14 u15
set_option maxRecDepth 100000 in
set_option maxHeartbeats 2000000 in
theorem s_X5_readAll (v_tp_0 : (Nat → Int32)) (v_r_next : Int32) (v_r_codeLength : Int32) (v_r_ownCell : Int32) (v_r_stopped : Int32) (v_r_fault : Int32) (v_r_faultPlace : Int32) (v_r_laterFault : Int32) (v_r_laterPlace : Int32) (v_r_kind : (Nat → Int32)) (v_r_start : (Nat → Int32)) (v_r_value : (Nat → Int64)) (v_r_cellName : (Nat → Int64)) (v_r_villageName : (Nat → Int64)) (v_g_cells : Int32) (v_g_passes : Int32) (v_g_rivers : Int32) (v_g_villages : Int32) (v_g_rains : Int32) (v_g_room : (Nat → Int32)) (v_g_water : (Nat → Int32)) (v_g_ways : (Nat → Int32)) (v_g_passFrom : (Nat → Int32)) (v_g_passTo : (Nat → Int32)) (v_g_passWidth : (Nat → Int32)) (v_g_riverCell : (Nat → Int32)) (v_g_riverLevel : (Nat → Int32)) (v_g_riverWidth : (Nat → Int32)) (v_g_riverSalt : (Nat → Int32)) (v_g_villageCell : (Nat → Int32)) (v_g_need : (Nat → Int32)) (v_g_lawEnd : (Nat → Int32)) (v_g_code : (Nat → Int32)) (v_g_rain : (Nat → Int32)) (q2 : Int32) (u0 : al v_tp_0 (-128) 127) (u1 : rg v_r_next 0 402) (u2 : rg v_r_codeLength 0 400) (u3 : rg v_r_ownCell (-1) 11) (u4 : rg v_g_cells 0 12) (u5 : rg v_g_passes 0 20) (u6 : rg v_g_rivers 0 3) (u7 : rg v_g_villages 0 6) (u8 : rg v_g_rains 0 14) (u9 : al v_g_lawEnd 0 400) (u10 : rg q2 0 2000) : ok (f_X5_readAll v_tp_0 v_r_next v_r_codeLength v_r_ownCell v_r_stopped v_r_fault v_r_faultPlace v_r_laterFault v_r_laterPlace v_r_kind v_r_start v_r_value v_r_cellName v_r_villageName v_g_cells v_g_passes v_g_rivers v_g_villages v_g_rains v_g_room v_g_water v_g_ways v_g_passFrom v_g_passTo v_g_passWidth v_g_riverCell v_g_riverLevel v_g_riverWidth v_g_riverSalt v_g_villageCell v_g_need v_g_lawEnd v_g_code v_g_rain q2) P_X5_readAll := by
  unfold f_X5_readAll
  refine ok_bd13 (s_X5_begin v_r_next v_r_codeLength v_r_stopped v_r_fault v_r_faultPlace v_r_laterFault v_r_laterPlace v_g_cells v_g_passes v_g_rivers v_g_villages v_g_rains v_g_ways u1 u2 u4 u5 u6 u7 u8) (fun o_1_0 o_1_1 o_1_2 o_1_3 o_1_4 o_1_5 o_1_6 o_1_7 o_1_8 o_1_9 o_1_10 o_1_11 o_1_12 p1 => ?_)
  have g2 : rg o_1_0 0 402 := p1.1
  have g3 : rg o_1_1 0 400 := p1.2.1
  have g4 : rg o_1_7 0 12 := p1.2.2.1
  have g5 : rg o_1_8 0 20 := p1.2.2.2.1
  have g6 : rg o_1_9 0 3 := p1.2.2.2.2.1
  have g7 : rg o_1_10 0 6 := p1.2.2.2.2.2.1
  have g8 : rg o_1_11 0 14 := p1.2.2.2.2.2.2.1
  have g9 : rg o_1_0 0 0 := p1.2.2.2.2.2.2.2.1
  have g10 : rg o_1_2 0 0 := p1.2.2.2.2.2.2.2.2.1
  have g11 : rg o_1_8 0 0 := p1.2.2.2.2.2.2.2.2.2.1
  have g12 : rg o_1_9 0 0 := p1.2.2.2.2.2.2.2.2.2.2.1
  have g13 : rg o_1_10 0 0 := p1.2.2.2.2.2.2.2.2.2.2.2.1
  refine ok_bd3 (s_X5_scan v_tp_0 v_r_kind v_r_start v_r_value (if (2000 : Int32) < q2 then (2000 : Int32) else q2) u0 (rg_min (e := 0) (f := 2000) u10 (show rg (2000 : Int32) 2000 2000 from ⟨by decide, by decide⟩) (by decide) (by decide) (by decide))) (fun o_2_0 o_2_1 o_2_2 p14 => ?_)
  have g15 : sn o_2_0 0 := p14.1
  exact s_X5_readAll_b17 _ o_1_0 o_1_1 v_r_ownCell o_1_2 o_1_3 o_1_4 o_1_5 o_1_6 o_2_0 o_2_1 o_2_2 v_r_cellName v_r_villageName o_1_7 o_1_8 o_1_9 o_1_10 o_1_11 v_g_room v_g_water o_1_12 v_g_passFrom v_g_passTo v_g_passWidth v_g_riverCell v_g_riverLevel v_g_riverWidth v_g_riverSalt v_g_villageCell v_g_need v_g_lawEnd v_g_code v_g_rain (0 : Int32) (rg_w g9 (by decide) (by decide)) g3 u3 g4 (rg_w g11 (by decide) (by decide)) (rg_w g12 (by decide) (by decide)) (rg_w g13 (by decide) (by decide)) g8 u9 (rg_w (show rg (0 : Int32) 0 0 from ⟨by decide, by decide⟩) (by decide) (by decide)) (ca_0 g11) (ca_0 g11) (ca_0 g12) (ca_0 g13) (sp_z g10) (sn_0 g15 g9) (fu_up (a := 0) (h := 403) (rg_w (show rg (0 : Int32) 0 0 from ⟨by decide, by decide⟩) (by decide) (by decide)) (by decide))

abbrev P_X2_takesFor  : Int32 → Prop := (fun o : Int32 => rg o (-2147483648) 9 ∧ True)
set_option maxRecDepth 100000 in
set_option maxHeartbeats 2000000 in
theorem s_X2_takesFor (q0 : Int32) (q1 : Int32)  : ok (f_X2_takesFor q0 q1) P_X2_takesFor := by
  unfold f_X2_takesFor
  refine ok_if (fun c1 => ?_) (fun c1 => ?_)
  · have w2 : rg q1 (-2147483648) 0 := rg_ltx 0 (ti_lt c1) (rg_any q1) (show rg (1 : Int32) 1 1 from ⟨by decide, by decide⟩) (by decide)
    exact ok_some ⟨(rg_w (show rg (0 : Int32) 0 0 from ⟨by decide, by decide⟩) (by decide) (by decide)), trivial⟩
  · have w3 : rg q1 1 2147483647 := rg_ley (ti_nlt c1) (show rg (1 : Int32) 1 1 from ⟨by decide, by decide⟩) (rg_any q1)
    refine ok_ck (nz_rg w3 (by decide)) ?_
    refine ok_if (fun c4 => ?_) (fun c4 => ?_)
    · have w5 : rg (q0 - ((q0 / q1) * q1)) 0 0 := rg_lex (ti_eq c4) (rg_ley (ti_eq2 c4) (show rg (0 : Int32) 0 0 from ⟨by decide, by decide⟩) (rg_any (q0 - ((q0 / q1) * q1)))) (show rg (0 : Int32) 0 0 from ⟨by decide, by decide⟩)
      refine ok_ck (nz_rg w3 (by decide)) ?_
      refine ok_if (fun c6 => ?_) (fun c6 => ?_)
      · have w7 : rg (q0 / q1) (-2147483648) 9 := rg_lex (ti_le c6) (rg_any (q0 / q1)) (show rg (9 : Int32) 9 9 from ⟨by decide, by decide⟩)
        refine ok_ck (nz_rg w3 (by decide)) ?_
        exact ok_some ⟨w7, trivial⟩
      · have w8 : rg (q0 / q1) 10 2147483647 := rg_lty 10 (ti_nle c6) (show rg (9 : Int32) 9 9 from ⟨by decide, by decide⟩) (rg_any (q0 / q1)) (by decide)
        exact ok_some ⟨(rg_w (show rg (0 : Int32) 0 0 from ⟨by decide, by decide⟩) (by decide) (by decide)), trivial⟩
    · exact ok_some ⟨(rg_w (show rg (0 : Int32) 0 0 from ⟨by decide, by decide⟩) (by decide) (by decide)), trivial⟩
