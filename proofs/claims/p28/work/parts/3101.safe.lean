abbrev P_X0_takeTurns  : (Nat → Int32) × (Nat → Int32) × (Nat → Int32) × (Nat → Int64) × (Nat → Int32) × (Nat → Int32) × (Nat → Int32) × (Nat → Int32) → Prop := (fun o : (Nat → Int32) × (Nat → Int32) × (Nat → Int32) × (Nat → Int64) × (Nat → Int32) × (Nat → Int32) × (Nat → Int32) × (Nat → Int32) => True)
set_option maxRecDepth 100000 in
set_option maxHeartbeats 2000000 in
theorem s_X0_takeTurns_b113 (k2 : (Nat → Int32) → (Nat → Int32) → (Nat → Int32) → (Nat → Int64) → (Nat → Int32) → (Nat → Int32) → (Nat → Int32) → (Nat → Int32) → Int32 → Option ((Nat → Int32) × (Nat → Int32) × (Nat → Int32) × (Nat → Int64) × (Nat → Int32) × (Nat → Int32) × (Nat → Int32) × (Nat → Int32))) (v_c_today : Int32) (v_g_villages : Int32) (v_g_villageCell : (Nat → Int32)) (v_g_need : (Nat → Int32)) (v_g_lawEnd : (Nat → Int32)) (v_g_code : (Nat → Int32)) (v_p_wanting : (Nat → Int32)) (v_d_day : Int32) (v_d_seen : (Nat → Int32)) (v_c_lacked : (Nat → Int32)) (v_c_stack : (Nat → Int32)) (v_d_water : (Nat → Int32)) (v_d_salt : (Nat → Int64)) (v_d_took : (Nat → Int32)) (v_d_dryDays : (Nat → Int32)) (v_d_firstDry : (Nat → Int32)) (v_d_total : (Nat → Int32)) (x2 : Int32) (x3 : Int32) (x4 : Int32) (t1 : Int32) (t2 : Int32) (u0 : rg v_g_villages 0 6) (u1 : ac v_g_villageCell v_g_villages 0 11) (u2 : al v_g_lawEnd 0 400) (u3 : rg x2 0 5) (u4 : rg x3 0 11) (u5 : rg x4 0 1) (u6 : rg t1 0 5) (u7 : t1.toInt ≤ x2.toInt) (u8 : x2.toInt ≤ t1.toInt) (u9 : x4.toInt ≤ v_g_villages.toInt) (u10 : t1.toInt < v_g_villages.toInt) (u11 : x2.toInt < v_g_villages.toInt) (hk2 : ∀ (v_c_lacked' : (Nat → Int32)) (v_c_stack' : (Nat → Int32)) (v_d_water' : (Nat → Int32)) (v_d_salt' : (Nat → Int64)) (v_d_took' : (Nat → Int32)) (v_d_dryDays' : (Nat → Int32)) (v_d_firstDry' : (Nat → Int32)) (v_d_total' : (Nat → Int32)) (x2' : Int32), rg x2' 0 6 → x2.toInt < x2'.toInt → ok (k2 v_c_lacked' v_c_stack' v_d_water' v_d_salt' v_d_took' v_d_dryDays' v_d_firstDry' v_d_total' x2') P_X0_takeTurns) : ok (f_X0_takeTurns_b113 k2 v_c_today v_g_villages v_g_villageCell v_g_need v_g_lawEnd v_g_code v_p_wanting v_d_day v_d_seen v_c_lacked v_c_stack v_d_water v_d_salt v_d_took v_d_dryDays v_d_firstDry v_d_total x2 x3 x4 t1 t2) P_X0_takeTurns := by
  unfold f_X0_takeTurns_b113
  refine ok_ck (inb_rg u6 (by decide) (by decide)) ?_
  refine ok_nm (fun a_2 ea_2 => ?_)
  refine ok_ck (inb_rg u3 (by decide) (by decide)) ?_
  refine ok_ck (inb_rg u3 (by decide) (by decide)) ?_
  refine ok_ck (inb_rg u3 (by decide) (by decide)) ?_
  refine ok_nm (fun a_6 ea_6 => ?_)
  refine ok_ck (inb_rg u3 (by decide) (by decide)) ?_
  refine ok_bd2 (s_X1_draw v_d_water v_d_salt x3 (a_2 x2.toNatClampNeg) u4) (fun o_8_0 o_8_1 p1 => ?_)
  refine ok_if (fun c2 => ?_) (fun c2 => ?_)
  · have w3 : rg x4 0 0 := rg_lex (ti_eq c2) (rg_ley (ti_eq2 c2) (show rg (0 : Int32) 0 0 from ⟨by decide, by decide⟩) u5) (show rg (0 : Int32) 0 0 from ⟨by decide, by decide⟩)
    exact hk2 v_c_lacked v_c_stack o_8_0 o_8_1 a_2 v_d_dryDays v_d_firstDry a_6 (x2 + (1 : Int32)) (rg_w (rg_add (e := 1) (f := 6) u3 (show rg (1 : Int32) 1 1 from ⟨by decide, by decide⟩) (by decide) (by decide) (by decide) (by decide)) (by decide) (by decide)) (lt_ad u3 (show rg (1 : Int32) 1 1 from ⟨by decide, by decide⟩) (by decide) (by decide) (by decide))
  · have w4 : rg x4 1 1 := rg_nel 1 c2 u5 (show rg (0 : Int32) 0 0 from ⟨by decide, by decide⟩) (by decide)
    refine ok_ck (inb_rg u3 (by decide) (by decide)) ?_
    refine ok_if (fun c5 => ?_) (fun c5 => ?_)
    · have w6 : rg (v_c_lacked x2.toNatClampNeg) 0 0 := rg_lex (ti_eq c5) (rg_ley (ti_eq2 c5) (show rg (0 : Int32) 0 0 from ⟨by decide, by decide⟩) (rg_any (v_c_lacked x2.toNatClampNeg))) (show rg (0 : Int32) 0 0 from ⟨by decide, by decide⟩)
      exact hk2 v_c_lacked v_c_stack o_8_0 o_8_1 a_2 v_d_dryDays v_d_firstDry a_6 (x2 + (1 : Int32)) (rg_w (rg_add (e := 1) (f := 6) u3 (show rg (1 : Int32) 1 1 from ⟨by decide, by decide⟩) (by decide) (by decide) (by decide) (by decide)) (by decide) (by decide)) (lt_ad u3 (show rg (1 : Int32) 1 1 from ⟨by decide, by decide⟩) (by decide) (by decide) (by decide))
    · refine ok_bd2 (s_X1_countDry v_d_day v_d_dryDays v_d_firstDry x2 u3) (fun o_12_0 o_12_1 p7 => ?_)
      exact hk2 v_c_lacked v_c_stack o_8_0 o_8_1 a_2 o_12_0 o_12_1 a_6 (x2 + (1 : Int32)) (rg_w (rg_add (e := 1) (f := 6) u3 (show rg (1 : Int32) 1 1 from ⟨by decide, by decide⟩) (by decide) (by decide) (by decide) (by decide)) (by decide) (by decide)) (lt_ad u3 (show rg (1 : Int32) 1 1 from ⟨by decide, by decide⟩) (by decide) (by decide) (by decide))
set_option maxRecDepth 100000 in
set_option maxHeartbeats 2000000 in
theorem s_X0_takeTurns_b96 (k2 : (Nat → Int32) → (Nat → Int32) → (Nat → Int32) → (Nat → Int64) → (Nat → Int32) → (Nat → Int32) → (Nat → Int32) → (Nat → Int32) → Int32 → Option ((Nat → Int32) × (Nat → Int32) × (Nat → Int32) × (Nat → Int64) × (Nat → Int32) × (Nat → Int32) × (Nat → Int32) × (Nat → Int32))) (v_c_today : Int32) (v_g_villages : Int32) (v_g_villageCell : (Nat → Int32)) (v_g_need : (Nat → Int32)) (v_g_lawEnd : (Nat → Int32)) (v_g_code : (Nat → Int32)) (v_p_wanting : (Nat → Int32)) (v_d_day : Int32) (v_d_seen : (Nat → Int32)) (v_c_lacked : (Nat → Int32)) (v_c_stack : (Nat → Int32)) (v_d_water : (Nat → Int32)) (v_d_salt : (Nat → Int64)) (v_d_took : (Nat → Int32)) (v_d_dryDays : (Nat → Int32)) (v_d_firstDry : (Nat → Int32)) (v_d_total : (Nat → Int32)) (x2 : Int32) (x3 : Int32) (x4 : Int32) (x5 : Int32) (t1 : Int32) (t2 : Int32) (u0 : rg v_g_villages 0 6) (u1 : ac v_g_villageCell v_g_villages 0 11) (u2 : al v_g_lawEnd 0 400) (u3 : rg x2 0 5) (u4 : rg x3 0 11) (u5 : rg x4 0 1) (u6 : rg t1 0 5) (u7 : rg t2 0 1) (u8 : t1.toInt ≤ x2.toInt) (u9 : x2.toInt ≤ t1.toInt) (u10 : x4.toInt ≤ v_g_villages.toInt) (u11 : t1.toInt < v_g_villages.toInt) (u12 : x2.toInt < v_g_villages.toInt) (hk2 : ∀ (v_c_lacked' : (Nat → Int32)) (v_c_stack' : (Nat → Int32)) (v_d_water' : (Nat → Int32)) (v_d_salt' : (Nat → Int64)) (v_d_took' : (Nat → Int32)) (v_d_dryDays' : (Nat → Int32)) (v_d_firstDry' : (Nat → Int32)) (v_d_total' : (Nat → Int32)) (x2' : Int32), rg x2' 0 6 → x2.toInt < x2'.toInt → ok (k2 v_c_lacked' v_c_stack' v_d_water' v_d_salt' v_d_took' v_d_dryDays' v_d_firstDry' v_d_total' x2') P_X0_takeTurns) : ok (f_X0_takeTurns_b96 k2 v_c_today v_g_villages v_g_villageCell v_g_need v_g_lawEnd v_g_code v_p_wanting v_d_day v_d_seen v_c_lacked v_c_stack v_d_water v_d_salt v_d_took v_d_dryDays v_d_firstDry v_d_total x2 x3 x4 x5 t1 t2) P_X0_takeTurns := by
  unfold f_X0_takeTurns_b96
  refine ok_ck (inb_rg u6 (by decide) (by decide)) ?_
  refine ok_nm (fun a_2 ea_2 => ?_)
  refine ok_if (fun c1 => ?_) (fun c1 => ?_)
  · have w2 : rg x4 0 0 := rg_lex (ti_eq c1) (rg_ley (ti_eq2 c1) (show rg (0 : Int32) 0 0 from ⟨by decide, by decide⟩) u5) (show rg (0 : Int32) 0 0 from ⟨by decide, by decide⟩)
    exact s_X0_takeTurns_b113 k2 v_c_today v_g_villages v_g_villageCell v_g_need v_g_lawEnd v_g_code v_p_wanting v_d_day v_d_seen a_2 v_c_stack v_d_water v_d_salt v_d_took v_d_dryDays v_d_firstDry v_d_total x2 x3 x4 x2 (0 : Int32) u0 u1 u2 u3 u4 (rg_w w2 (by decide) (by decide)) u3 (Int.le_refl _) (Int.le_refl _) u10 u12 u12 hk2
  · have w3 : rg x4 1 1 := rg_nel 1 c1 u5 (show rg (0 : Int32) 0 0 from ⟨by decide, by decide⟩) (by decide)
    exact s_X0_takeTurns_b113 k2 v_c_today v_g_villages v_g_villageCell v_g_need v_g_lawEnd v_g_code v_p_wanting v_d_day v_d_seen a_2 v_c_stack v_d_water v_d_salt v_d_took v_d_dryDays v_d_firstDry v_d_total x2 x3 x4 x2 x5 u0 u1 u2 u3 u4 (rg_w w3 (by decide) (by decide)) u3 (Int.le_refl _) (Int.le_refl _) u10 u12 u12 hk2
set_option maxRecDepth 100000 in
set_option maxHeartbeats 2000000 in
theorem s_X0_takeTurns_b61 (k2 : (Nat → Int32) → (Nat → Int32) → (Nat → Int32) → (Nat → Int64) → (Nat → Int32) → (Nat → Int32) → (Nat → Int32) → (Nat → Int32) → Int32 → Option ((Nat → Int32) × (Nat → Int32) × (Nat → Int32) × (Nat → Int64) × (Nat → Int32) × (Nat → Int32) × (Nat → Int32) × (Nat → Int32))) (v_c_today : Int32) (v_g_villages : Int32) (v_g_villageCell : (Nat → Int32)) (v_g_need : (Nat → Int32)) (v_g_lawEnd : (Nat → Int32)) (v_g_code : (Nat → Int32)) (v_p_wanting : (Nat → Int32)) (v_d_day : Int32) (v_d_seen : (Nat → Int32)) (v_c_lacked : (Nat → Int32)) (v_c_stack : (Nat → Int32)) (v_d_water : (Nat → Int32)) (v_d_salt : (Nat → Int64)) (v_d_took : (Nat → Int32)) (v_d_dryDays : (Nat → Int32)) (v_d_firstDry : (Nat → Int32)) (v_d_total : (Nat → Int32)) (x2 : Int32) (x3 : Int32) (x4 : Int32) (t0 : Int32) (u0 : rg v_g_villages 0 6) (u1 : ac v_g_villageCell v_g_villages 0 11) (u2 : al v_g_lawEnd 0 400) (u3 : rg x2 0 5) (u4 : rg x3 0 11) (u5 : rg x4 0 1) (u6 : rg t0 0 2147483647) (u7 : x4.toInt ≤ v_g_villages.toInt) (u8 : x2.toInt < v_g_villages.toInt) (hk2 : ∀ (v_c_lacked' : (Nat → Int32)) (v_c_stack' : (Nat → Int32)) (v_d_water' : (Nat → Int32)) (v_d_salt' : (Nat → Int64)) (v_d_took' : (Nat → Int32)) (v_d_dryDays' : (Nat → Int32)) (v_d_firstDry' : (Nat → Int32)) (v_d_total' : (Nat → Int32)) (x2' : Int32), rg x2' 0 6 → x2.toInt < x2'.toInt → ok (k2 v_c_lacked' v_c_stack' v_d_water' v_d_salt' v_d_took' v_d_dryDays' v_d_firstDry' v_d_total' x2') P_X0_takeTurns) : ok (f_X0_takeTurns_b61 k2 v_c_today v_g_villages v_g_villageCell v_g_need v_g_lawEnd v_g_code v_p_wanting v_d_day v_d_seen v_c_lacked v_c_stack v_d_water v_d_salt v_d_took v_d_dryDays v_d_firstDry v_d_total x2 x3 x4 t0) P_X0_takeTurns := by
  unfold f_X0_takeTurns_b61
  refine ok_ck (inb_rg u4 (by decide) (by decide)) ?_
  refine ok_nm (fun e_2 ee_2 => ?_)
  refine ok_ck (inb_rg u3 (by decide) (by decide)) ?_
  refine ok_if (fun c1 => ?_) (fun c1 => ?_)
  · exact s_X0_takeTurns_b96 k2 v_c_today v_g_villages v_g_villageCell v_g_need v_g_lawEnd v_g_code v_p_wanting v_d_day v_d_seen v_c_lacked v_c_stack v_d_water v_d_salt v_d_took v_d_dryDays v_d_firstDry v_d_total x2 x3 x4 e_2 x2 (0 : Int32) u0 u1 u2 u3 u4 u5 u3 (rg_w (show rg (0 : Int32) 0 0 from ⟨by decide, by decide⟩) (by decide) (by decide)) (Int.le_refl _) (Int.le_refl _) u7 u8 u8 hk2
  · have w2 : rg e_2 (-2147483648) 2147483646 := rg_ltx 2147483646 (ti_nle c1) (rg_any e_2) (rg_any (v_g_need x2.toNatClampNeg)) (by decide)
    have w3 : rg (v_g_need x2.toNatClampNeg) (-2147483647) 2147483647 := rg_lty (-2147483647) (ti_nle c1) (rg_any e_2) (rg_any (v_g_need x2.toNatClampNeg)) (by decide)
    exact s_X0_takeTurns_b96 k2 v_c_today v_g_villages v_g_villageCell v_g_need v_g_lawEnd v_g_code v_p_wanting v_d_day v_d_seen v_c_lacked v_c_stack v_d_water v_d_salt v_d_took v_d_dryDays v_d_firstDry v_d_total x2 x3 x4 e_2 x2 (1 : Int32) u0 u1 u2 u3 u4 u5 u3 (rg_w (show rg (1 : Int32) 1 1 from ⟨by decide, by decide⟩) (by decide) (by decide)) (Int.le_refl _) (Int.le_refl _) u7 u8 u8 hk2
set_option maxRecDepth 100000 in
set_option maxHeartbeats 2000000 in
theorem s_X0_takeTurns_b42 (k2 : (Nat → Int32) → (Nat → Int32) → (Nat → Int32) → (Nat → Int64) → (Nat → Int32) → (Nat → Int32) → (Nat → Int32) → (Nat → Int32) → Int32 → Option ((Nat → Int32) × (Nat → Int32) × (Nat → Int32) × (Nat → Int64) × (Nat → Int32) × (Nat → Int32) × (Nat → Int32) × (Nat → Int32))) (v_c_today : Int32) (v_g_villages : Int32) (v_g_villageCell : (Nat → Int32)) (v_g_need : (Nat → Int32)) (v_g_lawEnd : (Nat → Int32)) (v_g_code : (Nat → Int32)) (v_p_wanting : (Nat → Int32)) (v_d_day : Int32) (v_d_seen : (Nat → Int32)) (v_c_lacked : (Nat → Int32)) (v_c_stack : (Nat → Int32)) (v_d_water : (Nat → Int32)) (v_d_salt : (Nat → Int64)) (v_d_took : (Nat → Int32)) (v_d_dryDays : (Nat → Int32)) (v_d_firstDry : (Nat → Int32)) (v_d_total : (Nat → Int32)) (x2 : Int32) (x3 : Int32) (t0 : Int32) (u0 : rg v_g_villages 0 6) (u1 : ac v_g_villageCell v_g_villages 0 11) (u2 : al v_g_lawEnd 0 400) (u3 : rg x2 0 5) (u4 : rg x3 0 11) (u5 : rg t0 0 1) (u6 : t0.toInt ≤ v_g_villages.toInt) (u7 : x2.toInt < v_g_villages.toInt) (hk2 : ∀ (v_c_lacked' : (Nat → Int32)) (v_c_stack' : (Nat → Int32)) (v_d_water' : (Nat → Int32)) (v_d_salt' : (Nat → Int64)) (v_d_took' : (Nat → Int32)) (v_d_dryDays' : (Nat → Int32)) (v_d_firstDry' : (Nat → Int32)) (v_d_total' : (Nat → Int32)) (x2' : Int32), rg x2' 0 6 → x2.toInt < x2'.toInt → ok (k2 v_c_lacked' v_c_stack' v_d_water' v_d_salt' v_d_took' v_d_dryDays' v_d_firstDry' v_d_total' x2') P_X0_takeTurns) : ok (f_X0_takeTurns_b42 k2 v_c_today v_g_villages v_g_villageCell v_g_need v_g_lawEnd v_g_code v_p_wanting v_d_day v_d_seen v_c_lacked v_c_stack v_d_water v_d_salt v_d_took v_d_dryDays v_d_firstDry v_d_total x2 x3 t0) P_X0_takeTurns := by
  unfold f_X0_takeTurns_b42
  refine ok_if (fun c1 => ?_) (fun c1 => ?_)
  · have w2 : rg t0 0 0 := rg_lex (ti_eq c1) (rg_ley (ti_eq2 c1) (show rg (0 : Int32) 0 0 from ⟨by decide, by decide⟩) u5) (show rg (0 : Int32) 0 0 from ⟨by decide, by decide⟩)
    exact s_X0_takeTurns_b61 k2 v_c_today v_g_villages v_g_villageCell v_g_need v_g_lawEnd v_g_code v_p_wanting v_d_day v_d_seen v_c_lacked v_c_stack v_d_water v_d_salt v_d_took v_d_dryDays v_d_firstDry v_d_total x2 x3 t0 (999 : Int32) u0 u1 u2 u3 u4 (rg_w w2 (by decide) (by decide)) (rg_w (show rg (999 : Int32) 999 999 from ⟨by decide, by decide⟩) (by decide) (by decide)) u6 u7 hk2
  · have w3 : rg t0 1 1 := rg_nel 1 c1 u5 (show rg (0 : Int32) 0 0 from ⟨by decide, by decide⟩) (by decide)
    refine ok_bd2 (s_X0_wantOf v_c_today v_g_lawEnd v_g_code v_p_wanting v_d_day v_d_seen v_d_took v_d_dryDays v_c_stack x2 u2 u3) (fun o_2_0 o_2_1 p4 => ?_)
    have g5 : rg o_2_0 0 2147483647 := p4.1
    exact s_X0_takeTurns_b61 k2 v_c_today v_g_villages v_g_villageCell v_g_need v_g_lawEnd v_g_code v_p_wanting v_d_day v_d_seen v_c_lacked o_2_1 v_d_water v_d_salt v_d_took v_d_dryDays v_d_firstDry v_d_total x2 x3 t0 o_2_0 u0 u1 u2 u3 u4 (rg_w w3 (by decide) (by decide)) g5 u6 u7 hk2
set_option maxRecDepth 100000 in
set_option maxHeartbeats 2000000 in
theorem s_X0_takeTurns_b2  (v_c_today : Int32) (v_g_villages : Int32) (v_g_villageCell : (Nat → Int32)) (v_g_need : (Nat → Int32)) (v_g_lawEnd : (Nat → Int32)) (v_g_code : (Nat → Int32)) (v_p_wanting : (Nat → Int32)) (v_d_day : Int32) (v_d_seen : (Nat → Int32)) (u0 : rg v_g_villages 0 6) (u1 : ac v_g_villageCell v_g_villages 0 11) (u2 : al v_g_lawEnd 0 400) : ∀ (n : Nat) (v_c_lacked : (Nat → Int32)) (v_c_stack : (Nat → Int32)) (v_d_water : (Nat → Int32)) (v_d_salt : (Nat → Int64)) (v_d_took : (Nat → Int32)) (v_d_dryDays : (Nat → Int32)) (v_d_firstDry : (Nat → Int32)) (v_d_total : (Nat → Int32)) (x2 : Int32) (u3 : rg x2 0 6)  (hm : (6 - x2.toInt).toNat < n), ok (f_X0_takeTurns_b2 v_c_today v_g_villages v_g_villageCell v_g_need v_g_lawEnd v_g_code v_p_wanting v_d_day v_d_seen n v_c_lacked v_c_stack v_d_water v_d_salt v_d_took v_d_dryDays v_d_firstDry v_d_total x2) P_X0_takeTurns := by
  intro n
  induction n with
  | zero =>
    intro v_c_lacked v_c_stack v_d_water v_d_salt v_d_took v_d_dryDays v_d_firstDry v_d_total x2 u3 hm
    exact absurd hm (Nat.not_lt_zero _)
  | succ n ih =>
    intro v_c_lacked v_c_stack v_d_water v_d_salt v_d_took v_d_dryDays v_d_firstDry v_d_total x2 u3 hm
    show ok (f_X0_takeTurns_b2_st (f_X0_takeTurns_b2 v_c_today v_g_villages v_g_villageCell v_g_need v_g_lawEnd v_g_code v_p_wanting v_d_day v_d_seen n) v_c_today v_g_villages v_g_villageCell v_g_need v_g_lawEnd v_g_code v_p_wanting v_d_day v_d_seen v_c_lacked v_c_stack v_d_water v_d_salt v_d_took v_d_dryDays v_d_firstDry v_d_total x2) P_X0_takeTurns
    unfold f_X0_takeTurns_b2_st
    refine ok_if (fun c1 => ?_) (fun c1 => ?_)
    · exact ok_some trivial
    · have w2 : rg x2 0 5 := rg_ltx 5 (ti_nle c1) u3 u0 (by decide)
      have w3 : rg v_g_villages 1 6 := rg_lty 1 (ti_nle c1) u3 u0 (by decide)
      refine ok_ck (inb_rg w2 (by decide) (by decide)) ?_
      refine ok_ck (inb_rg w2 (by decide) (by decide)) ?_
      refine ok_if (fun c4 => ?_) (fun c4 => ?_)
      · have w5 : rg (v_p_wanting x2.toNatClampNeg) (-2) (-2) := rg_lex (ti_eq c4) (rg_ley (ti_eq2 c4) (show rg (-2 : Int32) (-2) (-2) from ⟨by decide, by decide⟩) (rg_any (v_p_wanting x2.toNatClampNeg))) (show rg (-2 : Int32) (-2) (-2) from ⟨by decide, by decide⟩)
        exact s_X0_takeTurns_b42 _ v_c_today v_g_villages v_g_villageCell v_g_need v_g_lawEnd v_g_code v_p_wanting v_d_day v_d_seen v_c_lacked v_c_stack v_d_water v_d_salt v_d_took v_d_dryDays v_d_firstDry v_d_total x2 (v_g_villageCell x2.toNatClampNeg) (0 : Int32) (rg_w w3 (by decide) (by decide)) u1 u2 w2 (u1 _ (cl_lt w2 (by decide) (ti_nle c1))) (rg_w (show rg (0 : Int32) 0 0 from ⟨by decide, by decide⟩) (by decide) (by decide)) (Int.le_trans (show rg (0 : Int32) 0 0 from ⟨by decide, by decide⟩).2 (Int.le_trans (by decide) w3.1)) (ti_nle c1) (by intro v_c_lacked' v_c_stack' v_d_water' v_d_salt' v_d_took' v_d_dryDays' v_d_firstDry' v_d_total' x2' f0 lt; exact ih _ _ _ _ _ _ _ _ _ f0 (ms_up hm lt f0))
      · exact s_X0_takeTurns_b42 _ v_c_today v_g_villages v_g_villageCell v_g_need v_g_lawEnd v_g_code v_p_wanting v_d_day v_d_seen v_c_lacked v_c_stack v_d_water v_d_salt v_d_took v_d_dryDays v_d_firstDry v_d_total x2 (v_g_villageCell x2.toNatClampNeg) (1 : Int32) (rg_w w3 (by decide) (by decide)) u1 u2 w2 (u1 _ (cl_lt w2 (by decide) (ti_nle c1))) (rg_w (show rg (1 : Int32) 1 1 from ⟨by decide, by decide⟩) (by decide) (by decide)) (Int.le_trans (show rg (1 : Int32) 1 1 from ⟨by decide, by decide⟩).2 (Int.le_trans (by decide) w3.1)) (ti_nle c1) (by intro v_c_lacked' v_c_stack' v_d_water' v_d_salt' v_d_took' v_d_dryDays' v_d_firstDry' v_d_total' x2' f0 lt; exact ih _ _ _ _ _ _ _ _ _ f0 (ms_up hm lt f0))
set_option maxRecDepth 100000 in
set_option maxHeartbeats 2000000 in
theorem s_X0_takeTurns (v_c_today : Int32) (v_g_villages : Int32) (v_g_villageCell : (Nat → Int32)) (v_g_need : (Nat → Int32)) (v_g_lawEnd : (Nat → Int32)) (v_g_code : (Nat → Int32)) (v_p_wanting : (Nat → Int32)) (v_d_day : Int32) (v_d_seen : (Nat → Int32)) (v_c_lacked : (Nat → Int32)) (v_c_stack : (Nat → Int32)) (v_d_water : (Nat → Int32)) (v_d_salt : (Nat → Int64)) (v_d_took : (Nat → Int32)) (v_d_dryDays : (Nat → Int32)) (v_d_firstDry : (Nat → Int32)) (v_d_total : (Nat → Int32)) (u0 : rg v_g_villages 0 6) (u1 : ac v_g_villageCell v_g_villages 0 11) (u2 : al v_g_lawEnd 0 400) : ok (f_X0_takeTurns v_c_today v_g_villages v_g_villageCell v_g_need v_g_lawEnd v_g_code v_p_wanting v_d_day v_d_seen v_c_lacked v_c_stack v_d_water v_d_salt v_d_took v_d_dryDays v_d_firstDry v_d_total) P_X0_takeTurns := by
  unfold f_X0_takeTurns
  exact s_X0_takeTurns_b2 v_c_today v_g_villages v_g_villageCell v_g_need v_g_lawEnd v_g_code v_p_wanting v_d_day v_d_seen u0 u1 u2 _ v_c_lacked v_c_stack v_d_water v_d_salt v_d_took v_d_dryDays v_d_firstDry v_d_total (0 : Int32) (rg_w (show rg (0 : Int32) 0 0 from ⟨by decide, by decide⟩) (by decide) (by decide)) (fu_up (a := 0) (h := 6) (rg_w (show rg (0 : Int32) 0 0 from ⟨by decide, by decide⟩) (by decide) (by decide)) (by decide))

abbrev P_X0_takeByPump  : Int32 × (Nat → Int32) × (Nat → Int64) → Prop := (fun o : Int32 × (Nat → Int32) × (Nat → Int64) => True)
set_option maxRecDepth 100000 in
set_option maxHeartbeats 2000000 in
theorem s_X0_takeByPump (v_p_pumpCell : Int32) (v_p_pumpTakes : Int32) (v_p_pumpFrom : Int32) (v_p_pumpTo : Int32) (v_d_day : Int32) (v_c_pumped : Int32) (v_d_water : (Nat → Int32)) (v_d_salt : (Nat → Int64)) (u0 : rg v_p_pumpCell (-1) 11) (u1 : rg v_p_pumpFrom 0 13) : ok (f_X0_takeByPump v_p_pumpCell v_p_pumpTakes v_p_pumpFrom v_p_pumpTo v_d_day v_c_pumped v_d_water v_d_salt) P_X0_takeByPump := by
  unfold f_X0_takeByPump
  refine ok_bd (s_X4_pumpsOn v_p_pumpCell v_p_pumpFrom v_p_pumpTo v_d_day u0 u1) (fun o_1 p1 => ?_)
  have g2 : rg o_1 0 1 := p1.1
  refine ok_if (fun c4 => ?_) (fun c4 => ?_)
  · have w5 : rg o_1 0 0 := rg_lex (ti_eq c4) (rg_ley (ti_eq2 c4) (show rg (0 : Int32) 0 0 from ⟨by decide, by decide⟩) g2) (show rg (0 : Int32) 0 0 from ⟨by decide, by decide⟩)
    exact ok_some trivial
  · obtain i6_0 := p1.2.1.resolve_left c4
    have w7 : rg o_1 1 1 := rg_nel 1 c4 g2 (show rg (0 : Int32) 0 0 from ⟨by decide, by decide⟩) (by decide)
    refine ok_ck (inb_rg (⟨i6_0.1, u0.2⟩ : rg v_p_pumpCell 0 11) (by decide) (by decide)) ?_
    refine ok_nm (fun e_4 ee_4 => ?_)
    refine ok_bd2 (s_X1_draw v_d_water v_d_salt v_p_pumpCell e_4 (⟨i6_0.1, u0.2⟩ : rg v_p_pumpCell 0 11)) (fun o_5_0 o_5_1 p8 => ?_)
    exact ok_some trivial

abbrev P_X0_lookAtLevels  : (Nat → Int32) × (Nat → Int32) × (Nat → Int64) → Prop := (fun o : (Nat → Int32) × (Nat → Int32) × (Nat → Int64) => True)
set_option maxRecDepth 100000 in
set_option maxHeartbeats 2000000 in
theorem s_X0_lookAtLevels_b2  (v_g_cells : Int32) (v_g_room : (Nat → Int32)) (v_d_water : (Nat → Int32)) (v_d_salt : (Nat → Int64)) (u0 : rg v_g_cells 0 12) : ∀ (n : Nat) (v_c_level : (Nat → Int32)) (v_c_water : (Nat → Int32)) (v_c_salt : (Nat → Int64)) (x2 : Int32) (u1 : rg x2 0 12)  (hm : (12 - x2.toInt).toNat < n), ok (f_X0_lookAtLevels_b2 v_g_cells v_g_room v_d_water v_d_salt n v_c_level v_c_water v_c_salt x2) P_X0_lookAtLevels := by
  intro n
  induction n with
  | zero =>
    intro v_c_level v_c_water v_c_salt x2 u1 hm
    exact absurd hm (Nat.not_lt_zero _)
  | succ n ih =>
    intro v_c_level v_c_water v_c_salt x2 u1 hm
    show ok (f_X0_lookAtLevels_b2_st (f_X0_lookAtLevels_b2 v_g_cells v_g_room v_d_water v_d_salt n) v_g_cells v_g_room v_d_water v_d_salt v_c_level v_c_water v_c_salt x2) P_X0_lookAtLevels
    unfold f_X0_lookAtLevels_b2_st
    refine ok_if (fun c1 => ?_) (fun c1 => ?_)
    · exact ok_some trivial
    · have w2 : rg x2 0 11 := rg_ltx 11 (ti_nle c1) u1 u0 (by decide)
      have w3 : rg v_g_cells 1 12 := rg_lty 1 (ti_nle c1) u1 u0 (by decide)
      refine ok_ck (inb_rg w2 (by decide) (by decide)) ?_
      refine ok_bd (s_X3_levelOf v_g_room x2 (v_d_water x2.toNatClampNeg) w2) (fun o_3 p4 => ?_)
      refine ok_ck (inb_rg w2 (by decide) (by decide)) ?_
      refine ok_nm (fun a_5 ea_5 => ?_)
      refine ok_ck (inb_rg w2 (by decide) (by decide)) ?_
      refine ok_ck (inb_rg w2 (by decide) (by decide)) ?_
      refine ok_nm (fun a_8 ea_8 => ?_)
      refine ok_ck (inb_rg w2 (by decide) (by decide)) ?_
      refine ok_ck (inb_rg w2 (by decide) (by decide)) ?_
      refine ok_nm (fun a_11 ea_11 => ?_)
      exact ih a_5 a_8 a_11 (x2 + (1 : Int32)) (rg_w (rg_add (e := 1) (f := 12) w2 (show rg (1 : Int32) 1 1 from ⟨by decide, by decide⟩) (by decide) (by decide) (by decide) (by decide)) (by decide) (by decide)) (ms_up (y := (x2 + (1 : Int32))) (a := 0) hm (lt_ad w2 (show rg (1 : Int32) 1 1 from ⟨by decide, by decide⟩) (by decide) (by decide) (by decide)) (rg_w (rg_add (e := 1) (f := 12) w2 (show rg (1 : Int32) 1 1 from ⟨by decide, by decide⟩) (by decide) (by decide) (by decide) (by decide)) (by decide) (by decide)))
set_option maxRecDepth 100000 in
set_option maxHeartbeats 2000000 in
theorem s_X0_lookAtLevels (v_g_cells : Int32) (v_g_room : (Nat → Int32)) (v_d_water : (Nat → Int32)) (v_d_salt : (Nat → Int64)) (v_c_level : (Nat → Int32)) (v_c_water : (Nat → Int32)) (v_c_salt : (Nat → Int64)) (u0 : rg v_g_cells 0 12) : ok (f_X0_lookAtLevels v_g_cells v_g_room v_d_water v_d_salt v_c_level v_c_water v_c_salt) P_X0_lookAtLevels := by
  unfold f_X0_lookAtLevels
  exact s_X0_lookAtLevels_b2 v_g_cells v_g_room v_d_water v_d_salt u0 _ v_c_level v_c_water v_c_salt (0 : Int32) (rg_w (show rg (0 : Int32) 0 0 from ⟨by decide, by decide⟩) (by decide) (by decide)) (fu_up (a := 0) (h := 12) (rg_w (show rg (0 : Int32) 0 0 from ⟨by decide, by decide⟩) (by decide) (by decide)) (by decide))

abbrev P_X0_passFlow  : Int32 → Prop := (fun o : Int32 => True)
set_option maxRecDepth 100000 in
set_option maxHeartbeats 2000000 in
theorem s_X0_passFlow (v_c_level : (Nat → Int32)) (v_g_passFrom : (Nat → Int32)) (v_g_passTo : (Nat → Int32)) (v_p_passWidth : (Nat → Int32)) (q1 : Int32) (u0 : rg q1 0 19) (u1 : rg (v_g_passFrom q1.toNatClampNeg) 0 11) (u2 : rg (v_g_passTo q1.toNatClampNeg) 0 11) : ok (f_X0_passFlow v_c_level v_g_passFrom v_g_passTo v_p_passWidth q1) P_X0_passFlow := by
  unfold f_X0_passFlow
  refine ok_ck (inb_rg u0 (by decide) (by decide)) ?_
  refine ok_ck (inb_rg u1 (by decide) (by decide)) ?_
  refine ok_ck (inb_rg u0 (by decide) (by decide)) ?_
  refine ok_ck (inb_rg u2 (by decide) (by decide)) ?_
  refine ok_nm (fun e_5 ee_5 => ?_)
  refine ok_ck (inb_rg u0 (by decide) (by decide)) ?_
  exact ok_some trivial

abbrev P_X0_riverFlow  : Int32 → Prop := (fun o : Int32 => True)
set_option maxRecDepth 100000 in
set_option maxHeartbeats 2000000 in
theorem s_X0_riverFlow (v_c_level : (Nat → Int32)) (v_g_riverCell : (Nat → Int32)) (v_g_riverLevel : (Nat → Int32)) (v_p_riverWidth : (Nat → Int32)) (q1 : Int32) (u0 : rg q1 0 2) (u1 : rg (v_g_riverCell q1.toNatClampNeg) 0 11) : ok (f_X0_riverFlow v_c_level v_g_riverCell v_g_riverLevel v_p_riverWidth q1) P_X0_riverFlow := by
  unfold f_X0_riverFlow
  refine ok_ck (inb_rg u0 (by decide) (by decide)) ?_
  refine ok_ck (inb_rg u0 (by decide) (by decide)) ?_
  refine ok_ck (inb_rg u1 (by decide) (by decide)) ?_
  refine ok_nm (fun e_4 ee_4 => ?_)
  refine ok_ck (inb_rg u0 (by decide) (by decide)) ?_
  exact ok_some trivial

abbrev P_X0_move  : (Nat → Int32) × (Nat → Int64) → Prop := (fun o : (Nat → Int32) × (Nat → Int64) => True)
set_option maxRecDepth 100000 in
set_option maxHeartbeats 2000000 in
theorem s_X0_move (v_c_water : (Nat → Int32)) (v_c_salt : (Nat → Int64)) (v_d_water : (Nat → Int32)) (v_d_salt : (Nat → Int64)) (q2 : Int32) (q3 : Int32) (q4 : Int32) (u0 : rg q2 0 11) (u1 : rg q3 0 11) : ok (f_X0_move v_c_water v_c_salt v_d_water v_d_salt q2 q3 q4) P_X0_move := by
  unfold f_X0_move
  refine ok_bd (s_X0_saltAlong v_c_water v_c_salt q2 q4 u0) (fun o_1 p1 => ?_)
  refine ok_ck (inb_rg u0 (by decide) (by decide)) ?_
  refine ok_ck (inb_rg u0 (by decide) (by decide)) ?_
  refine ok_nm (fun a_4 ea_4 => ?_)
  refine ok_ck (inb_rg u0 (by decide) (by decide)) ?_
  refine ok_ck (inb_rg u0 (by decide) (by decide)) ?_
  refine ok_nm (fun a_7 ea_7 => ?_)
  refine ok_ck (inb_rg u1 (by decide) (by decide)) ?_
  refine ok_ck (inb_rg u1 (by decide) (by decide)) ?_
  refine ok_nm (fun a_10 ea_10 => ?_)
  refine ok_ck (inb_rg u1 (by decide) (by decide)) ?_
  refine ok_ck (inb_rg u1 (by decide) (by decide)) ?_
  refine ok_nm (fun a_13 ea_13 => ?_)
  exact ok_some trivial

abbrev P_X0_flowByRiver  : (Nat → Int32) × (Nat → Int64) → Prop := (fun o : (Nat → Int32) × (Nat → Int64) => True)
set_option maxRecDepth 100000 in
set_option maxHeartbeats 2000000 in
theorem s_X0_flowByRiver_b70   (v_d_water : (Nat → Int32)) (v_d_salt : (Nat → Int64)) (x3 : Int32) (x4 : Int32)  (u0 : rg x3 0 11)  : ok (f_X0_flowByRiver_b70  v_d_water v_d_salt x3 x4) P_X0_flowByRiver := by
  unfold f_X0_flowByRiver_b70
  refine ok_ck (inb_rg u0 (by decide) (by decide)) ?_
  refine ok_ck (inb_rg u0 (by decide) (by decide)) ?_
  refine ok_nm (fun a_3 ea_3 => ?_)
  exact ok_some trivial
set_option maxRecDepth 100000 in
set_option maxHeartbeats 2000000 in
theorem s_X0_flowByRiver (v_c_level : (Nat → Int32)) (v_c_water : (Nat → Int32)) (v_c_salt : (Nat → Int64)) (v_g_riverCell : (Nat → Int32)) (v_g_riverLevel : (Nat → Int32)) (v_g_riverSalt : (Nat → Int32)) (v_p_riverWidth : (Nat → Int32)) (v_d_water : (Nat → Int32)) (v_d_salt : (Nat → Int64)) (q2 : Int32) (u0 : rg q2 0 2) (u1 : rg (v_g_riverCell q2.toNatClampNeg) 0 11) : ok (f_X0_flowByRiver v_c_level v_c_water v_c_salt v_g_riverCell v_g_riverLevel v_g_riverSalt v_p_riverWidth v_d_water v_d_salt q2) P_X0_flowByRiver := by
  unfold f_X0_flowByRiver
  refine ok_ck (inb_rg u0 (by decide) (by decide)) ?_
  refine ok_bd (s_X0_riverFlow v_c_level v_g_riverCell v_g_riverLevel v_p_riverWidth q2 u0 u1) (fun o_2 p1 => ?_)
  refine ok_if (fun c2 => ?_) (fun c2 => ?_)
  · have w3 : rg o_2 (-2147483648) 0 := rg_lex (ti_le c2) (rg_any o_2) (show rg (0 : Int32) 0 0 from ⟨by decide, by decide⟩)
    refine ok_if (fun c4 => ?_) (fun c4 => ?_)
    · have w5 : rg o_2 0 0 := rg_ley (ti_le c4) (show rg (0 : Int32) 0 0 from ⟨by decide, by decide⟩) w3
      exact s_X0_flowByRiver_b70 v_d_water v_d_salt (v_g_riverCell q2.toNatClampNeg) o_2 u1
    · have w6 : rg o_2 (-2147483648) (-1) := rg_ltx (-1) (ti_nle c4) w3 (show rg (0 : Int32) 0 0 from ⟨by decide, by decide⟩) (by decide)
      refine ok_ck (inb_rg u1 (by decide) (by decide)) ?_
      refine ok_bd (s_X0_saltAlong v_c_water v_c_salt (v_g_riverCell q2.toNatClampNeg) (-o_2) u1) (fun o_6 p7 => ?_)
      refine ok_ck (inb_rg u1 (by decide) (by decide)) ?_
      refine ok_nm (fun a_8 ea_8 => ?_)
      exact s_X0_flowByRiver_b70 v_d_water a_8 (v_g_riverCell q2.toNatClampNeg) o_2 u1
  · have w8 : rg o_2 1 2147483647 := rg_lty 1 (ti_nle c2) (show rg (0 : Int32) 0 0 from ⟨by decide, by decide⟩) (rg_any o_2) (by decide)
    refine ok_ck (inb_rg u1 (by decide) (by decide)) ?_
    refine ok_ck (inb_rg u0 (by decide) (by decide)) ?_
    refine ok_ck (inb_rg u1 (by decide) (by decide)) ?_
    refine ok_nm (fun a_12 ea_12 => ?_)
    exact s_X0_flowByRiver_b70 v_d_water a_12 (v_g_riverCell q2.toNatClampNeg) o_2 u1

abbrev P_X0_morning  : Int32 × (Nat → Int32) × (Nat → Int32) → Prop := (fun o : Int32 × (Nat → Int32) × (Nat → Int32) => True)
set_option maxRecDepth 100000 in
set_option maxHeartbeats 2000000 in
theorem s_X0_morning_b65 (k30 : Int32 → (Nat → Int32) → (Nat → Int32) → Int32 → Int32 → Option (Int32 × (Nat → Int32) × (Nat → Int32))) (v_g_cells : Int32) (v_g_room : (Nat → Int32)) (v_c_today : Int32) (v_d_water : (Nat → Int32)) (v_d_seen : (Nat → Int32)) (x2 : Int32) (x3 : Int32) (u0 : rg v_g_cells 0 12) (u1 : rg x2 0 1) (u2 : rg x3 0 11) (u3 : x2.toInt ≤ v_g_cells.toInt) (u4 : x3.toInt < v_g_cells.toInt) (hk30 : ∀ (v_c_today' : Int32) (v_d_water' : (Nat → Int32)) (v_d_seen' : (Nat → Int32)) (x2' : Int32) (x3' : Int32), rg x2' 0 1 → rg x3' 0 12 → x3.toInt < x3'.toInt → ok (k30 v_c_today' v_d_water' v_d_seen' x2' x3') P_X0_morning) : ok (f_X0_morning_b65 k30 v_g_cells v_g_room v_c_today v_d_water v_d_seen x2 x3) P_X0_morning := by
  unfold f_X0_morning_b65
  refine ok_ck (inb_rg u2 (by decide) (by decide)) ?_
  refine ok_ck (inb_rg u2 (by decide) (by decide)) ?_
  refine ok_nm (fun a_3 ea_3 => ?_)
  exact hk30 v_c_today a_3 v_d_seen x2 (x3 + (1 : Int32)) u1 (rg_w (rg_add (e := 1) (f := 12) u2 (show rg (1 : Int32) 1 1 from ⟨by decide, by decide⟩) (by decide) (by decide) (by decide) (by decide)) (by decide) (by decide)) (lt_ad u2 (show rg (1 : Int32) 1 1 from ⟨by decide, by decide⟩) (by decide) (by decide) (by decide))
set_option maxRecDepth 100000 in
set_option maxHeartbeats 2000000 in
theorem s_X0_morning_b30  (v_g_cells : Int32) (v_g_room : (Nat → Int32)) (u0 : rg v_g_cells 0 12) : ∀ (n : Nat) (v_c_today : Int32) (v_d_water : (Nat → Int32)) (v_d_seen : (Nat → Int32)) (x2 : Int32) (x3 : Int32) (u1 : rg x2 0 1) (u2 : rg x3 0 12)  (hm : (12 - x3.toInt).toNat < n), ok (f_X0_morning_b30 v_g_cells v_g_room n v_c_today v_d_water v_d_seen x2 x3) P_X0_morning := by
  intro n
  induction n with
  | zero =>
    intro v_c_today v_d_water v_d_seen x2 x3 u1 u2 hm
    exact absurd hm (Nat.not_lt_zero _)
  | succ n ih =>
    intro v_c_today v_d_water v_d_seen x2 x3 u1 u2 hm
    show ok (f_X0_morning_b30_st (f_X0_morning_b30 v_g_cells v_g_room n) v_g_cells v_g_room v_c_today v_d_water v_d_seen x2 x3) P_X0_morning
    unfold f_X0_morning_b30_st
    refine ok_if (fun c1 => ?_) (fun c1 => ?_)
    · exact ok_some trivial
    · have w2 : rg x3 0 11 := rg_ltx 11 (ti_nle c1) u2 u0 (by decide)
      have w3 : rg v_g_cells 1 12 := rg_lty 1 (ti_nle c1) u2 u0 (by decide)
      refine ok_if (fun c4 => ?_) (fun c4 => ?_)
      · have w5 : rg x2 0 0 := rg_lex (ti_eq c4) (rg_ley (ti_eq2 c4) (show rg (0 : Int32) 0 0 from ⟨by decide, by decide⟩) u1) (show rg (0 : Int32) 0 0 from ⟨by decide, by decide⟩)
        exact s_X0_morning_b65 _ v_g_cells v_g_room v_c_today v_d_water v_d_seen x2 x3 (rg_w w3 (by decide) (by decide)) (rg_w w5 (by decide) (by decide)) w2 (Int.le_trans w5.2 (Int.le_trans (by decide) w3.1)) (ti_nle c1) (by intro v_c_today' v_d_water' v_d_seen' x2' x3' f0 f1 lt; exact ih _ _ _ _ _ f0 f1 (ms_up hm lt f1))
      · have w6 : rg x2 1 1 := rg_nel 1 c4 u1 (show rg (0 : Int32) 0 0 from ⟨by decide, by decide⟩) (by decide)
        refine ok_ck (inb_rg w2 (by decide) (by decide)) ?_
        refine ok_bd (s_X3_levelOf v_g_room x3 (v_d_water x3.toNatClampNeg) w2) (fun o_4 p7 => ?_)
        refine ok_ck (inb_rg w2 (by decide) (by decide)) ?_
        refine ok_nm (fun a_6 ea_6 => ?_)
        exact s_X0_morning_b65 _ v_g_cells v_g_room v_c_today v_d_water a_6 x2 x3 (rg_w w3 (by decide) (by decide)) (rg_w w6 (by decide) (by decide)) w2 (Int.le_trans w6.2 (Int.le_trans (by decide) w3.1)) (ti_nle c1) (by intro v_c_today' v_d_water' v_d_seen' x2' x3' f0 f1 lt; exact ih _ _ _ _ _ f0 f1 (ms_up hm lt f1))
set_option maxRecDepth 100000 in
set_option maxHeartbeats 2000000 in
theorem s_X0_morning_b15  (v_g_cells : Int32) (v_g_rains : Int32) (v_g_room : (Nat → Int32)) (v_p_rain : (Nat → Int32)) (v_d_day : Int32) (v_c_today : Int32) (v_d_water : (Nat → Int32)) (v_d_seen : (Nat → Int32)) (t0 : Int32) (u0 : rg v_g_cells 0 12) (u1 : rg v_g_rains 0 14) (u2 : rg t0 0 1)  : ok (f_X0_morning_b15 v_g_cells v_g_rains v_g_room v_p_rain v_d_day v_c_today v_d_water v_d_seen t0) P_X0_morning := by
  unfold f_X0_morning_b15
  refine ok_bd (s_X0_rainOf v_g_rains v_p_rain v_d_day u1) (fun o_1 p1 => ?_)
  exact s_X0_morning_b30 v_g_cells v_g_room u0 _ o_1 v_d_water v_d_seen t0 (0 : Int32) u2 (rg_w (show rg (0 : Int32) 0 0 from ⟨by decide, by decide⟩) (by decide) (by decide)) (fu_up (a := 0) (h := 12) (rg_w (show rg (0 : Int32) 0 0 from ⟨by decide, by decide⟩) (by decide) (by decide)) (by decide))
set_option maxRecDepth 100000 in
set_option maxHeartbeats 2000000 in
theorem s_X0_morning (v_g_cells : Int32) (v_g_rains : Int32) (v_g_room : (Nat → Int32)) (v_p_rain : (Nat → Int32)) (v_d_day : Int32) (v_c_today : Int32) (v_d_water : (Nat → Int32)) (v_d_seen : (Nat → Int32)) (u0 : rg v_g_cells 0 12) (u1 : rg v_g_rains 0 14) : ok (f_X0_morning v_g_cells v_g_rains v_g_room v_p_rain v_d_day v_c_today v_d_water v_d_seen) P_X0_morning := by
  unfold f_X0_morning
  refine ok_if (fun c1 => ?_) (fun c1 => ?_)
  · have w2 : rg (v_d_day - ((v_d_day / (7 : Int32)) * (7 : Int32))) 0 0 := rg_lex (ti_eq c1) (rg_ley (ti_eq2 c1) (show rg (0 : Int32) 0 0 from ⟨by decide, by decide⟩) (rg_any (v_d_day - ((v_d_day / (7 : Int32)) * (7 : Int32))))) (show rg (0 : Int32) 0 0 from ⟨by decide, by decide⟩)
    exact s_X0_morning_b15 v_g_cells v_g_rains v_g_room v_p_rain v_d_day v_c_today v_d_water v_d_seen (1 : Int32) u0 u1 (rg_w (show rg (1 : Int32) 1 1 from ⟨by decide, by decide⟩) (by decide) (by decide))
  · exact s_X0_morning_b15 v_g_cells v_g_rains v_g_room v_p_rain v_d_day v_c_today v_d_water v_d_seen (0 : Int32) u0 u1 (rg_w (show rg (0 : Int32) 0 0 from ⟨by decide, by decide⟩) (by decide) (by decide))

abbrev P_X0_oneDay  : Int32 × Int32 × (Nat → Int32) × (Nat → Int32) × (Nat → Int32) × (Nat → Int64) × (Nat → Int32) × Int32 × (Nat → Int32) × (Nat → Int64) × (Nat → Int32) × (Nat → Int32) × (Nat → Int32) × (Nat → Int32) × (Nat → Int32) → Prop := (fun o : Int32 × Int32 × (Nat → Int32) × (Nat → Int32) × (Nat → Int32) × (Nat → Int64) × (Nat → Int32) × Int32 × (Nat → Int32) × (Nat → Int64) × (Nat → Int32) × (Nat → Int32) × (Nat → Int32) × (Nat → Int32) × (Nat → Int32) => True)
set_option maxRecDepth 100000 in
set_option maxHeartbeats 2000000 in
theorem s_X0_oneDay_b107  (v_g_rivers : Int32) (v_g_riverCell : (Nat → Int32)) (v_g_riverLevel : (Nat → Int32)) (v_g_riverSalt : (Nat → Int32)) (v_p_riverWidth : (Nat → Int32)) (u0 : rg v_g_rivers 0 3) (u1 : ac v_g_riverCell v_g_rivers 0 11) : ∀ (n : Nat) (v_c_pumped : Int32) (v_c_today : Int32) (v_c_lacked : (Nat → Int32)) (v_c_level : (Nat → Int32)) (v_c_water : (Nat → Int32)) (v_c_salt : (Nat → Int64)) (v_c_stack : (Nat → Int32)) (v_d_day : Int32) (v_d_water : (Nat → Int32)) (v_d_salt : (Nat → Int64)) (v_d_seen : (Nat → Int32)) (v_d_took : (Nat → Int32)) (v_d_dryDays : (Nat → Int32)) (v_d_firstDry : (Nat → Int32)) (v_d_total : (Nat → Int32)) (x2 : Int32) (u2 : rg x2 0 3)  (hm : (3 - x2.toInt).toNat < n), ok (f_X0_oneDay_b107 v_g_rivers v_g_riverCell v_g_riverLevel v_g_riverSalt v_p_riverWidth n v_c_pumped v_c_today v_c_lacked v_c_level v_c_water v_c_salt v_c_stack v_d_day v_d_water v_d_salt v_d_seen v_d_took v_d_dryDays v_d_firstDry v_d_total x2) P_X0_oneDay := by
  intro n
  induction n with
  | zero =>
    intro v_c_pumped v_c_today v_c_lacked v_c_level v_c_water v_c_salt v_c_stack v_d_day v_d_water v_d_salt v_d_seen v_d_took v_d_dryDays v_d_firstDry v_d_total x2 u2 hm
    exact absurd hm (Nat.not_lt_zero _)
  | succ n ih =>
    intro v_c_pumped v_c_today v_c_lacked v_c_level v_c_water v_c_salt v_c_stack v_d_day v_d_water v_d_salt v_d_seen v_d_took v_d_dryDays v_d_firstDry v_d_total x2 u2 hm
    show ok (f_X0_oneDay_b107_st (f_X0_oneDay_b107 v_g_rivers v_g_riverCell v_g_riverLevel v_g_riverSalt v_p_riverWidth n) v_g_rivers v_g_riverCell v_g_riverLevel v_g_riverSalt v_p_riverWidth v_c_pumped v_c_today v_c_lacked v_c_level v_c_water v_c_salt v_c_stack v_d_day v_d_water v_d_salt v_d_seen v_d_took v_d_dryDays v_d_firstDry v_d_total x2) P_X0_oneDay
    unfold f_X0_oneDay_b107_st
    refine ok_if (fun c1 => ?_) (fun c1 => ?_)
    · exact ok_some trivial
    · have w2 : rg x2 0 2 := rg_ltx 2 (ti_nle c1) u2 u0 (by decide)
      have w3 : rg v_g_rivers 1 3 := rg_lty 1 (ti_nle c1) u2 u0 (by decide)
      refine ok_bd2 (s_X0_flowByRiver v_c_level v_c_water v_c_salt v_g_riverCell v_g_riverLevel v_g_riverSalt v_p_riverWidth v_d_water v_d_salt x2 w2 (u1 _ (cl_lt w2 (by decide) (ti_nle c1)))) (fun o_2_0 o_2_1 p4 => ?_)
      exact ih v_c_pumped v_c_today v_c_lacked v_c_level v_c_water v_c_salt v_c_stack v_d_day o_2_0 o_2_1 v_d_seen v_d_took v_d_dryDays v_d_firstDry v_d_total (x2 + (1 : Int32)) (rg_w (rg_add (e := 1) (f := 3) w2 (show rg (1 : Int32) 1 1 from ⟨by decide, by decide⟩) (by decide) (by decide) (by decide) (by decide)) (by decide) (by decide)) (ms_up (y := (x2 + (1 : Int32))) (a := 0) hm (lt_ad w2 (show rg (1 : Int32) 1 1 from ⟨by decide, by decide⟩) (by decide) (by decide) (by decide)) (rg_w (rg_add (e := 1) (f := 3) w2 (show rg (1 : Int32) 1 1 from ⟨by decide, by decide⟩) (by decide) (by decide) (by decide) (by decide)) (by decide) (by decide)))
set_option maxRecDepth 100000 in
set_option maxHeartbeats 2000000 in
theorem s_X0_oneDay_b22  (v_g_passes : Int32) (v_g_rivers : Int32) (v_g_passFrom : (Nat → Int32)) (v_g_passTo : (Nat → Int32)) (v_g_riverCell : (Nat → Int32)) (v_g_riverLevel : (Nat → Int32)) (v_g_riverSalt : (Nat → Int32)) (v_p_passWidth : (Nat → Int32)) (v_p_riverWidth : (Nat → Int32)) (u0 : rg v_g_passes 0 20) (u1 : rg v_g_rivers 0 3) (u2 : ac v_g_passFrom v_g_passes 0 11) (u3 : ac v_g_passTo v_g_passes 0 11) (u4 : ac v_g_riverCell v_g_rivers 0 11) : ∀ (n : Nat) (v_c_pumped : Int32) (v_c_today : Int32) (v_c_lacked : (Nat → Int32)) (v_c_level : (Nat → Int32)) (v_c_water : (Nat → Int32)) (v_c_salt : (Nat → Int64)) (v_c_stack : (Nat → Int32)) (v_d_day : Int32) (v_d_water : (Nat → Int32)) (v_d_salt : (Nat → Int64)) (v_d_seen : (Nat → Int32)) (v_d_took : (Nat → Int32)) (v_d_dryDays : (Nat → Int32)) (v_d_firstDry : (Nat → Int32)) (v_d_total : (Nat → Int32)) (x2 : Int32) (u5 : rg x2 0 20)  (hm : (20 - x2.toInt).toNat < n), ok (f_X0_oneDay_b22 v_g_passes v_g_rivers v_g_passFrom v_g_passTo v_g_riverCell v_g_riverLevel v_g_riverSalt v_p_passWidth v_p_riverWidth n v_c_pumped v_c_today v_c_lacked v_c_level v_c_water v_c_salt v_c_stack v_d_day v_d_water v_d_salt v_d_seen v_d_took v_d_dryDays v_d_firstDry v_d_total x2) P_X0_oneDay := by
  intro n
  induction n with
  | zero =>
    intro v_c_pumped v_c_today v_c_lacked v_c_level v_c_water v_c_salt v_c_stack v_d_day v_d_water v_d_salt v_d_seen v_d_took v_d_dryDays v_d_firstDry v_d_total x2 u5 hm
    exact absurd hm (Nat.not_lt_zero _)
  | succ n ih =>
    intro v_c_pumped v_c_today v_c_lacked v_c_level v_c_water v_c_salt v_c_stack v_d_day v_d_water v_d_salt v_d_seen v_d_took v_d_dryDays v_d_firstDry v_d_total x2 u5 hm
    show ok (f_X0_oneDay_b22_st (f_X0_oneDay_b22 v_g_passes v_g_rivers v_g_passFrom v_g_passTo v_g_riverCell v_g_riverLevel v_g_riverSalt v_p_passWidth v_p_riverWidth n) v_g_passes v_g_rivers v_g_passFrom v_g_passTo v_g_riverCell v_g_riverLevel v_g_riverSalt v_p_passWidth v_p_riverWidth v_c_pumped v_c_today v_c_lacked v_c_level v_c_water v_c_salt v_c_stack v_d_day v_d_water v_d_salt v_d_seen v_d_took v_d_dryDays v_d_firstDry v_d_total x2) P_X0_oneDay
    unfold f_X0_oneDay_b22_st
    refine ok_if (fun c1 => ?_) (fun c1 => ?_)
    · exact s_X0_oneDay_b107 v_g_rivers v_g_riverCell v_g_riverLevel v_g_riverSalt v_p_riverWidth u1 u4 _ v_c_pumped v_c_today v_c_lacked v_c_level v_c_water v_c_salt v_c_stack v_d_day v_d_water v_d_salt v_d_seen v_d_took v_d_dryDays v_d_firstDry v_d_total (0 : Int32) (rg_w (show rg (0 : Int32) 0 0 from ⟨by decide, by decide⟩) (by decide) (by decide)) (fu_up (a := 0) (h := 3) (rg_w (show rg (0 : Int32) 0 0 from ⟨by decide, by decide⟩) (by decide) (by decide)) (by decide))
    · have w2 : rg x2 0 19 := rg_ltx 19 (ti_nle c1) u5 u0 (by decide)
      have w3 : rg v_g_passes 1 20 := rg_lty 1 (ti_nle c1) u5 u0 (by decide)
      refine ok_bd (s_X0_passFlow v_c_level v_g_passFrom v_g_passTo v_p_passWidth x2 w2 (u2 _ (cl_lt w2 (by decide) (ti_nle c1))) (u3 _ (cl_lt w2 (by decide) (ti_nle c1)))) (fun o_2 p4 => ?_)
      refine ok_if (fun c5 => ?_) (fun c5 => ?_)
      · have w6 : rg o_2 (-2147483648) 0 := rg_lex (ti_le c5) (rg_any o_2) (show rg (0 : Int32) 0 0 from ⟨by decide, by decide⟩)
        refine ok_if (fun c7 => ?_) (fun c7 => ?_)
        · have w8 : rg o_2 0 0 := rg_ley (ti_le c7) (show rg (0 : Int32) 0 0 from ⟨by decide, by decide⟩) w6
          exact ih v_c_pumped v_c_today v_c_lacked v_c_level v_c_water v_c_salt v_c_stack v_d_day v_d_water v_d_salt v_d_seen v_d_took v_d_dryDays v_d_firstDry v_d_total (x2 + (1 : Int32)) (rg_w (rg_add (e := 1) (f := 20) w2 (show rg (1 : Int32) 1 1 from ⟨by decide, by decide⟩) (by decide) (by decide) (by decide) (by decide)) (by decide) (by decide)) (ms_up (y := (x2 + (1 : Int32))) (a := 0) hm (lt_ad w2 (show rg (1 : Int32) 1 1 from ⟨by decide, by decide⟩) (by decide) (by decide) (by decide)) (rg_w (rg_add (e := 1) (f := 20) w2 (show rg (1 : Int32) 1 1 from ⟨by decide, by decide⟩) (by decide) (by decide) (by decide) (by decide)) (by decide) (by decide)))
        · have w9 : rg o_2 (-2147483648) (-1) := rg_ltx (-1) (ti_nle c7) w6 (show rg (0 : Int32) 0 0 from ⟨by decide, by decide⟩) (by decide)
          refine ok_ck (inb_rg w2 (by decide) (by decide)) ?_
          refine ok_ck (inb_rg w2 (by decide) (by decide)) ?_
          refine ok_bd2 (s_X0_move v_c_water v_c_salt v_d_water v_d_salt (v_g_passTo x2.toNatClampNeg) (v_g_passFrom x2.toNatClampNeg) (-o_2) (u3 _ (cl_lt w2 (by decide) (ti_nle c1))) (u2 _ (cl_lt w2 (by decide) (ti_nle c1)))) (fun o_7_0 o_7_1 p10 => ?_)
          exact ih v_c_pumped v_c_today v_c_lacked v_c_level v_c_water v_c_salt v_c_stack v_d_day o_7_0 o_7_1 v_d_seen v_d_took v_d_dryDays v_d_firstDry v_d_total (x2 + (1 : Int32)) (rg_w (rg_add (e := 1) (f := 20) w2 (show rg (1 : Int32) 1 1 from ⟨by decide, by decide⟩) (by decide) (by decide) (by decide) (by decide)) (by decide) (by decide)) (ms_up (y := (x2 + (1 : Int32))) (a := 0) hm (lt_ad w2 (show rg (1 : Int32) 1 1 from ⟨by decide, by decide⟩) (by decide) (by decide) (by decide)) (rg_w (rg_add (e := 1) (f := 20) w2 (show rg (1 : Int32) 1 1 from ⟨by decide, by decide⟩) (by decide) (by decide) (by decide) (by decide)) (by decide) (by decide)))
      · have w11 : rg o_2 1 2147483647 := rg_lty 1 (ti_nle c5) (show rg (0 : Int32) 0 0 from ⟨by decide, by decide⟩) (rg_any o_2) (by decide)
        refine ok_ck (inb_rg w2 (by decide) (by decide)) ?_
        refine ok_ck (inb_rg w2 (by decide) (by decide)) ?_
        refine ok_bd2 (s_X0_move v_c_water v_c_salt v_d_water v_d_salt (v_g_passFrom x2.toNatClampNeg) (v_g_passTo x2.toNatClampNeg) o_2 (u2 _ (cl_lt w2 (by decide) (ti_nle c1))) (u3 _ (cl_lt w2 (by decide) (ti_nle c1)))) (fun o_10_0 o_10_1 p12 => ?_)
        exact ih v_c_pumped v_c_today v_c_lacked v_c_level v_c_water v_c_salt v_c_stack v_d_day o_10_0 o_10_1 v_d_seen v_d_took v_d_dryDays v_d_firstDry v_d_total (x2 + (1 : Int32)) (rg_w (rg_add (e := 1) (f := 20) w2 (show rg (1 : Int32) 1 1 from ⟨by decide, by decide⟩) (by decide) (by decide) (by decide) (by decide)) (by decide) (by decide)) (ms_up (y := (x2 + (1 : Int32))) (a := 0) hm (lt_ad w2 (show rg (1 : Int32) 1 1 from ⟨by decide, by decide⟩) (by decide) (by decide) (by decide)) (rg_w (rg_add (e := 1) (f := 20) w2 (show rg (1 : Int32) 1 1 from ⟨by decide, by decide⟩) (by decide) (by decide) (by decide) (by decide)) (by decide) (by decide)))
set_option maxRecDepth 100000 in
set_option maxHeartbeats 2000000 in
theorem s_X0_oneDay (v_g_cells : Int32) (v_g_passes : Int32) (v_g_rivers : Int32) (v_g_villages : Int32) (v_g_rains : Int32) (v_g_room : (Nat → Int32)) (v_g_passFrom : (Nat → Int32)) (v_g_passTo : (Nat → Int32)) (v_g_riverCell : (Nat → Int32)) (v_g_riverLevel : (Nat → Int32)) (v_g_riverSalt : (Nat → Int32)) (v_g_villageCell : (Nat → Int32)) (v_g_need : (Nat → Int32)) (v_g_lawEnd : (Nat → Int32)) (v_g_code : (Nat → Int32)) (v_p_pumpCell : Int32) (v_p_pumpTakes : Int32) (v_p_pumpFrom : Int32) (v_p_pumpTo : Int32) (v_p_wanting : (Nat → Int32)) (v_p_passWidth : (Nat → Int32)) (v_p_riverWidth : (Nat → Int32)) (v_p_rain : (Nat → Int32)) (v_c_pumped : Int32) (v_c_today : Int32) (v_c_lacked : (Nat → Int32)) (v_c_level : (Nat → Int32)) (v_c_water : (Nat → Int32)) (v_c_salt : (Nat → Int64)) (v_c_stack : (Nat → Int32)) (v_d_day : Int32) (v_d_water : (Nat → Int32)) (v_d_salt : (Nat → Int64)) (v_d_seen : (Nat → Int32)) (v_d_took : (Nat → Int32)) (v_d_dryDays : (Nat → Int32)) (v_d_firstDry : (Nat → Int32)) (v_d_total : (Nat → Int32)) (u0 : rg v_g_cells 0 12) (u1 : rg v_g_passes 0 20) (u2 : rg v_g_rivers 0 3) (u3 : rg v_g_villages 0 6) (u4 : rg v_g_rains 0 14) (u5 : ac v_g_passFrom v_g_passes 0 11) (u6 : ac v_g_passTo v_g_passes 0 11) (u7 : ac v_g_riverCell v_g_rivers 0 11) (u8 : ac v_g_villageCell v_g_villages 0 11) (u9 : al v_g_lawEnd 0 400) (u10 : rg v_p_pumpCell (-1) 11) (u11 : rg v_p_pumpFrom 0 13) : ok (f_X0_oneDay v_g_cells v_g_passes v_g_rivers v_g_villages v_g_rains v_g_room v_g_passFrom v_g_passTo v_g_riverCell v_g_riverLevel v_g_riverSalt v_g_villageCell v_g_need v_g_lawEnd v_g_code v_p_pumpCell v_p_pumpTakes v_p_pumpFrom v_p_pumpTo v_p_wanting v_p_passWidth v_p_riverWidth v_p_rain v_c_pumped v_c_today v_c_lacked v_c_level v_c_water v_c_salt v_c_stack v_d_day v_d_water v_d_salt v_d_seen v_d_took v_d_dryDays v_d_firstDry v_d_total) P_X0_oneDay := by
  unfold f_X0_oneDay
  refine ok_bd3 (s_X0_morning v_g_cells v_g_rains v_g_room v_p_rain v_d_day v_c_today v_d_water v_d_seen u0 u4) (fun o_1_0 o_1_1 o_1_2 p1 => ?_)
  refine ok_bd8 (s_X0_takeTurns o_1_0 v_g_villages v_g_villageCell v_g_need v_g_lawEnd v_g_code v_p_wanting v_d_day o_1_2 v_c_lacked v_c_stack o_1_1 v_d_salt v_d_took v_d_dryDays v_d_firstDry v_d_total u3 u8 u9) (fun o_2_0 o_2_1 o_2_2 o_2_3 o_2_4 o_2_5 o_2_6 o_2_7 p2 => ?_)
  refine ok_bd3 (s_X0_takeByPump v_p_pumpCell v_p_pumpTakes v_p_pumpFrom v_p_pumpTo v_d_day v_c_pumped o_2_2 o_2_3 u10 u11) (fun o_3_0 o_3_1 o_3_2 p3 => ?_)
  refine ok_bd3 (s_X0_lookAtLevels v_g_cells v_g_room o_3_1 o_3_2 v_c_level v_c_water v_c_salt u0) (fun o_4_0 o_4_1 o_4_2 p4 => ?_)
  exact s_X0_oneDay_b22 v_g_passes v_g_rivers v_g_passFrom v_g_passTo v_g_riverCell v_g_riverLevel v_g_riverSalt v_p_passWidth v_p_riverWidth u1 u2 u5 u6 u7 _ o_3_0 o_1_0 o_2_0 o_4_0 o_4_1 o_4_2 o_2_1 v_d_day o_3_1 o_3_2 o_1_2 o_2_4 o_2_5 o_2_6 o_2_7 (0 : Int32) (rg_w (show rg (0 : Int32) 0 0 from ⟨by decide, by decide⟩) (by decide) (by decide)) (fu_up (a := 0) (h := 20) (rg_w (show rg (0 : Int32) 0 0 from ⟨by decide, by decide⟩) (by decide) (by decide)) (by decide))

abbrev P_X5_isBlank  : Int32 → Prop := (fun o : Int32 => rg o 0 1 ∧ True)
set_option maxRecDepth 100000 in
set_option maxHeartbeats 2000000 in
theorem s_X5_isBlank (q0 : Int32)  : ok (f_X5_isBlank q0) P_X5_isBlank := by
  unfold f_X5_isBlank
  refine ok_if (fun c1 => ?_) (fun c1 => ?_)
  · have w2 : rg q0 9 9 := rg_lex (ti_eq c1) (rg_ley (ti_eq2 c1) (show rg (9 : Int32) 9 9 from ⟨by decide, by decide⟩) (rg_any q0)) (show rg (9 : Int32) 9 9 from ⟨by decide, by decide⟩)
    exact ok_some ⟨(rg_w (show rg (1 : Int32) 1 1 from ⟨by decide, by decide⟩) (by decide) (by decide)), trivial⟩
  · refine ok_if (fun c3 => ?_) (fun c3 => ?_)
    · have w4 : rg q0 10 10 := rg_lex (ti_eq c3) (rg_ley (ti_eq2 c3) (show rg (10 : Int32) 10 10 from ⟨by decide, by decide⟩) (rg_any q0)) (show rg (10 : Int32) 10 10 from ⟨by decide, by decide⟩)
      exact ok_some ⟨(rg_w (show rg (1 : Int32) 1 1 from ⟨by decide, by decide⟩) (by decide) (by decide)), trivial⟩
    · refine ok_if (fun c5 => ?_) (fun c5 => ?_)
      · have w6 : rg q0 13 13 := rg_lex (ti_eq c5) (rg_ley (ti_eq2 c5) (show rg (13 : Int32) 13 13 from ⟨by decide, by decide⟩) (rg_any q0)) (show rg (13 : Int32) 13 13 from ⟨by decide, by decide⟩)
        exact ok_some ⟨(rg_w (show rg (1 : Int32) 1 1 from ⟨by decide, by decide⟩) (by decide) (by decide)), trivial⟩
      · refine ok_if (fun c7 => ?_) (fun c7 => ?_)
        · have w8 : rg q0 32 32 := rg_lex (ti_eq c7) (rg_ley (ti_eq2 c7) (show rg (32 : Int32) 32 32 from ⟨by decide, by decide⟩) (rg_any q0)) (show rg (32 : Int32) 32 32 from ⟨by decide, by decide⟩)
          exact ok_some ⟨(rg_w (show rg (1 : Int32) 1 1 from ⟨by decide, by decide⟩) (by decide) (by decide)), trivial⟩
        · exact ok_some ⟨(rg_w (show rg (0 : Int32) 0 0 from ⟨by decide, by decide⟩) (by decide) (by decide)), trivial⟩

abbrev P_X5_isLetter  : Int32 → Prop := (fun o : Int32 => rg o 0 1 ∧ True)
set_option maxRecDepth 100000 in
set_option maxHeartbeats 2000000 in
theorem s_X5_isLetter (q0 : Int32)  : ok (f_X5_isLetter q0) P_X5_isLetter := by
  unfold f_X5_isLetter
  refine ok_if (fun c1 => ?_) (fun c1 => ?_)
  · have w2 : rg q0 (-2147483648) 96 := rg_ltx 96 (ti_lt c1) (rg_any q0) (show rg (97 : Int32) 97 97 from ⟨by decide, by decide⟩) (by decide)
    exact ok_some ⟨(rg_w (show rg (0 : Int32) 0 0 from ⟨by decide, by decide⟩) (by decide) (by decide)), trivial⟩
  · have w3 : rg q0 97 2147483647 := rg_ley (ti_nlt c1) (show rg (97 : Int32) 97 97 from ⟨by decide, by decide⟩) (rg_any q0)
    refine ok_if (fun c4 => ?_) (fun c4 => ?_)
    · have w5 : rg q0 123 2147483647 := rg_lty 123 (ti_lt c4) (show rg (122 : Int32) 122 122 from ⟨by decide, by decide⟩) w3 (by decide)
      exact ok_some ⟨(rg_w (show rg (0 : Int32) 0 0 from ⟨by decide, by decide⟩) (by decide) (by decide)), trivial⟩
    · have w6 : rg q0 97 122 := rg_lex (ti_nlt c4) w3 (show rg (122 : Int32) 122 122 from ⟨by decide, by decide⟩)
      exact ok_some ⟨(rg_w (show rg (1 : Int32) 1 1 from ⟨by decide, by decide⟩) (by decide) (by decide)), trivial⟩

abbrev P_X5_isDigit  : Int32 → Prop := (fun o : Int32 => rg o 0 1 ∧ True)
set_option maxRecDepth 100000 in
set_option maxHeartbeats 2000000 in
theorem s_X5_isDigit (q0 : Int32)  : ok (f_X5_isDigit q0) P_X5_isDigit := by
  unfold f_X5_isDigit
  refine ok_if (fun c1 => ?_) (fun c1 => ?_)
  · have w2 : rg q0 (-2147483648) 47 := rg_ltx 47 (ti_lt c1) (rg_any q0) (show rg (48 : Int32) 48 48 from ⟨by decide, by decide⟩) (by decide)
    exact ok_some ⟨(rg_w (show rg (0 : Int32) 0 0 from ⟨by decide, by decide⟩) (by decide) (by decide)), trivial⟩
  · have w3 : rg q0 48 2147483647 := rg_ley (ti_nlt c1) (show rg (48 : Int32) 48 48 from ⟨by decide, by decide⟩) (rg_any q0)
    refine ok_if (fun c4 => ?_) (fun c4 => ?_)
    · have w5 : rg q0 58 2147483647 := rg_lty 58 (ti_lt c4) (show rg (57 : Int32) 57 57 from ⟨by decide, by decide⟩) w3 (by decide)
      exact ok_some ⟨(rg_w (show rg (0 : Int32) 0 0 from ⟨by decide, by decide⟩) (by decide) (by decide)), trivial⟩
    · have w6 : rg q0 48 57 := rg_lex (ti_nlt c4) w3 (show rg (57 : Int32) 57 57 from ⟨by decide, by decide⟩)
      exact ok_some ⟨(rg_w (show rg (1 : Int32) 1 1 from ⟨by decide, by decide⟩) (by decide) (by decide)), trivial⟩

abbrev P_X5_wordOrName  : Int32 → Prop := (fun o : Int32 => rg o 1 15 ∧ True)
set_option maxRecDepth 100000 in
set_option maxHeartbeats 2000000 in
theorem s_X5_wordOrName (q0 : Int64)  : ok (f_X5_wordOrName q0) P_X5_wordOrName := by
  unfold f_X5_wordOrName
  refine ok_bd (s_X5_pack 1) (fun o_1 p1 => ?_)
  refine ok_if (fun c2 => ?_) (fun c2 => ?_)
  · have w3 : rg (lg_cmp q0 o_1) 0 0 := rg_lex (ti_eq c2) (rg_ley (ti_eq2 c2) (show rg (0 : Int32) 0 0 from ⟨by decide, by decide⟩) (rg_any (lg_cmp q0 o_1))) (show rg (0 : Int32) 0 0 from ⟨by decide, by decide⟩)
    exact ok_some ⟨(rg_w (show rg (5 : Int32) 5 5 from ⟨by decide, by decide⟩) (by decide) (by decide)), trivial⟩
  · refine ok_bd (s_X5_pack 2) (fun o_3 p4 => ?_)
    refine ok_if (fun c5 => ?_) (fun c5 => ?_)
    · have w6 : rg (lg_cmp q0 o_3) 0 0 := rg_lex (ti_eq c5) (rg_ley (ti_eq2 c5) (show rg (0 : Int32) 0 0 from ⟨by decide, by decide⟩) (rg_any (lg_cmp q0 o_3))) (show rg (0 : Int32) 0 0 from ⟨by decide, by decide⟩)
      exact ok_some ⟨(rg_w (show rg (6 : Int32) 6 6 from ⟨by decide, by decide⟩) (by decide) (by decide)), trivial⟩
    · refine ok_bd (s_X5_pack 3) (fun o_5 p7 => ?_)
      refine ok_if (fun c8 => ?_) (fun c8 => ?_)
      · have w9 : rg (lg_cmp q0 o_5) 0 0 := rg_lex (ti_eq c8) (rg_ley (ti_eq2 c8) (show rg (0 : Int32) 0 0 from ⟨by decide, by decide⟩) (rg_any (lg_cmp q0 o_5))) (show rg (0 : Int32) 0 0 from ⟨by decide, by decide⟩)
        exact ok_some ⟨(rg_w (show rg (7 : Int32) 7 7 from ⟨by decide, by decide⟩) (by decide) (by decide)), trivial⟩
      · refine ok_bd (s_X5_pack 4) (fun o_7 p10 => ?_)
        refine ok_if (fun c11 => ?_) (fun c11 => ?_)
        · have w12 : rg (lg_cmp q0 o_7) 0 0 := rg_lex (ti_eq c11) (rg_ley (ti_eq2 c11) (show rg (0 : Int32) 0 0 from ⟨by decide, by decide⟩) (rg_any (lg_cmp q0 o_7))) (show rg (0 : Int32) 0 0 from ⟨by decide, by decide⟩)
          exact ok_some ⟨(rg_w (show rg (8 : Int32) 8 8 from ⟨by decide, by decide⟩) (by decide) (by decide)), trivial⟩
        · refine ok_bd (s_X5_pack 5) (fun o_9 p13 => ?_)
          refine ok_if (fun c14 => ?_) (fun c14 => ?_)
          · have w15 : rg (lg_cmp q0 o_9) 0 0 := rg_lex (ti_eq c14) (rg_ley (ti_eq2 c14) (show rg (0 : Int32) 0 0 from ⟨by decide, by decide⟩) (rg_any (lg_cmp q0 o_9))) (show rg (0 : Int32) 0 0 from ⟨by decide, by decide⟩)
            exact ok_some ⟨(rg_w (show rg (9 : Int32) 9 9 from ⟨by decide, by decide⟩) (by decide) (by decide)), trivial⟩
          · refine ok_bd (s_X5_pack 6) (fun o_11 p16 => ?_)
            refine ok_if (fun c17 => ?_) (fun c17 => ?_)
            · have w18 : rg (lg_cmp q0 o_11) 0 0 := rg_lex (ti_eq c17) (rg_ley (ti_eq2 c17) (show rg (0 : Int32) 0 0 from ⟨by decide, by decide⟩) (rg_any (lg_cmp q0 o_11))) (show rg (0 : Int32) 0 0 from ⟨by decide, by decide⟩)
              exact ok_some ⟨(rg_w (show rg (10 : Int32) 10 10 from ⟨by decide, by decide⟩) (by decide) (by decide)), trivial⟩
            · refine ok_bd (s_X5_pack 7) (fun o_13 p19 => ?_)
              refine ok_if (fun c20 => ?_) (fun c20 => ?_)
              · have w21 : rg (lg_cmp q0 o_13) 0 0 := rg_lex (ti_eq c20) (rg_ley (ti_eq2 c20) (show rg (0 : Int32) 0 0 from ⟨by decide, by decide⟩) (rg_any (lg_cmp q0 o_13))) (show rg (0 : Int32) 0 0 from ⟨by decide, by decide⟩)
                exact ok_some ⟨(rg_w (show rg (11 : Int32) 11 11 from ⟨by decide, by decide⟩) (by decide) (by decide)), trivial⟩
              · refine ok_bd (s_X5_pack 8) (fun o_15 p22 => ?_)
                refine ok_if (fun c23 => ?_) (fun c23 => ?_)
                · have w24 : rg (lg_cmp q0 o_15) 0 0 := rg_lex (ti_eq c23) (rg_ley (ti_eq2 c23) (show rg (0 : Int32) 0 0 from ⟨by decide, by decide⟩) (rg_any (lg_cmp q0 o_15))) (show rg (0 : Int32) 0 0 from ⟨by decide, by decide⟩)
                  exact ok_some ⟨(rg_w (show rg (12 : Int32) 12 12 from ⟨by decide, by decide⟩) (by decide) (by decide)), trivial⟩
                · refine ok_bd (s_X5_pack 9) (fun o_17 p25 => ?_)
                  refine ok_if (fun c26 => ?_) (fun c26 => ?_)
                  · have w27 : rg (lg_cmp q0 o_17) 0 0 := rg_lex (ti_eq c26) (rg_ley (ti_eq2 c26) (show rg (0 : Int32) 0 0 from ⟨by decide, by decide⟩) (rg_any (lg_cmp q0 o_17))) (show rg (0 : Int32) 0 0 from ⟨by decide, by decide⟩)
                    exact ok_some ⟨(rg_w (show rg (13 : Int32) 13 13 from ⟨by decide, by decide⟩) (by decide) (by decide)), trivial⟩
                  · refine ok_bd (s_X5_pack 10) (fun o_19 p28 => ?_)
                    refine ok_if (fun c29 => ?_) (fun c29 => ?_)
                    · have w30 : rg (lg_cmp q0 o_19) 0 0 := rg_lex (ti_eq c29) (rg_ley (ti_eq2 c29) (show rg (0 : Int32) 0 0 from ⟨by decide, by decide⟩) (rg_any (lg_cmp q0 o_19))) (show rg (0 : Int32) 0 0 from ⟨by decide, by decide⟩)
                      exact ok_some ⟨(rg_w (show rg (14 : Int32) 14 14 from ⟨by decide, by decide⟩) (by decide) (by decide)), trivial⟩
                    · refine ok_bd (s_X5_pack 11) (fun o_21 p31 => ?_)
                      refine ok_if (fun c32 => ?_) (fun c32 => ?_)
                      · have w33 : rg (lg_cmp q0 o_21) 0 0 := rg_lex (ti_eq c32) (rg_ley (ti_eq2 c32) (show rg (0 : Int32) 0 0 from ⟨by decide, by decide⟩) (rg_any (lg_cmp q0 o_21))) (show rg (0 : Int32) 0 0 from ⟨by decide, by decide⟩)
                        exact ok_some ⟨(rg_w (show rg (15 : Int32) 15 15 from ⟨by decide, by decide⟩) (by decide) (by decide)), trivial⟩
                      · exact ok_some ⟨(rg_w (show rg (1 : Int32) 1 1 from ⟨by decide, by decide⟩) (by decide) (by decide)), trivial⟩

abbrev P_X5_scanToken  : Int32 × (Nat → Int32) × (Nat → Int64) → Prop := (fun o : Int32 × (Nat → Int32) × (Nat → Int64) => rg o.1 0 2000 ∧ True)
set_option maxRecDepth 100000 in
set_option maxHeartbeats 2000000 in
theorem s_X5_scanToken_b193   (v_r_kind : (Nat → Int32)) (v_r_value : (Nat → Int64)) (x1 : Int32) (x5 : Int32) (x6 : Int64)  (u0 : rg x1 0 401) (u1 : rg x5 0 2000)  : ok (f_X5_scanToken_b193  v_r_kind v_r_value x1 x5 x6) P_X5_scanToken := by
  unfold f_X5_scanToken_b193
  refine ok_ck (inb_rg u0 (by decide) (by decide)) ?_
  refine ok_nm (fun a_2 ea_2 => ?_)
  exact ok_some ⟨u1, trivial⟩
set_option maxRecDepth 100000 in
set_option maxHeartbeats 2000000 in
theorem s_X5_scanToken_b143   (v_r_kind : (Nat → Int32)) (v_r_value : (Nat → Int64)) (x1 : Int32) (x4 : Int32) (x5 : Int32) (x6 : Int64)  (u0 : rg x1 0 401) (u1 : rg x4 0 1999) (u2 : rg x5 0 2000)  : ok (f_X5_scanToken_b143  v_r_kind v_r_value x1 x4 x5 x6) P_X5_scanToken := by
  unfold f_X5_scanToken_b143
  refine ok_if (fun c1 => ?_) (fun c1 => ?_)
  · have w2 : rg (x5 - x4) (-1999) 4 := rg_lex (ti_le c1) (rg_sub (e := (-1999)) (f := 2000) u2 u1 (by decide) (by decide) (by decide) (by decide)) (show rg (4 : Int32) 4 4 from ⟨by decide, by decide⟩)
    refine ok_ck (inb_rg u0 (by decide) (by decide)) ?_
    refine ok_nm (fun a_3 ea_3 => ?_)
    exact s_X5_scanToken_b193 a_3 v_r_value x1 x5 x6 u0 u2
  · have w3 : rg (x5 - x4) 5 2000 := rg_lty 5 (ti_nle c1) (show rg (4 : Int32) 4 4 from ⟨by decide, by decide⟩) (rg_sub (e := (-1999)) (f := 2000) u2 u1 (by decide) (by decide) (by decide) (by decide)) (by decide)
    refine ok_ck (inb_rg u0 (by decide) (by decide)) ?_
    refine ok_nm (fun a_5 ea_5 => ?_)
    exact s_X5_scanToken_b193 a_5 v_r_value x1 x5 x6 u0 u2
set_option maxRecDepth 100000 in
set_option maxHeartbeats 2000000 in
theorem s_X5_scanToken_b104  (v_tp_0 : (Nat → Int32)) (u0 : al v_tp_0 (-128) 127) : ∀ (n : Nat) (v_r_kind : (Nat → Int32)) (v_r_value : (Nat → Int64)) (x1 : Int32) (x3 : Int32) (x4 : Int32) (x5 : Int32) (x6 : Int64) (u1 : rg x1 0 401) (u2 : rg x3 0 2000) (u3 : rg x4 0 1999) (u4 : rg x5 0 2000)  (hm : (2000 - x5.toInt).toNat < n), ok (f_X5_scanToken_b104 v_tp_0 n v_r_kind v_r_value x1 x3 x4 x5 x6) P_X5_scanToken := by
  intro n
  induction n with
  | zero =>
    intro v_r_kind v_r_value x1 x3 x4 x5 x6 u1 u2 u3 u4 hm
    exact absurd hm (Nat.not_lt_zero _)
  | succ n ih =>
    intro v_r_kind v_r_value x1 x3 x4 x5 x6 u1 u2 u3 u4 hm
    show ok (f_X5_scanToken_b104_st (f_X5_scanToken_b104 v_tp_0 n) v_tp_0 v_r_kind v_r_value x1 x3 x4 x5 x6) P_X5_scanToken
    unfold f_X5_scanToken_b104_st
    refine ok_if (fun c1 => ?_) (fun c1 => ?_)
    · exact s_X5_scanToken_b143 v_r_kind v_r_value x1 x4 x5 x6 u1 u3 u4
    · have w2 : rg x5 0 1999 := rg_ltx 1999 (ti_nle c1) u4 u2 (by decide)
      have w3 : rg x3 1 2000 := rg_lty 1 (ti_nle c1) u4 u2 (by decide)
      refine ok_ck (inb_rg w2 (by decide) (by decide)) ?_
      refine ok_bd (s_X5_isDigit (v_tp_0 x5.toNatClampNeg)) (fun o_3 p4 => ?_)
      have g5 : rg o_3 0 1 := p4.1
      refine ok_if (fun c6 => ?_) (fun c6 => ?_)
      · have w7 : rg o_3 0 0 := rg_lex (ti_eq c6) (rg_ley (ti_eq2 c6) (show rg (0 : Int32) 0 0 from ⟨by decide, by decide⟩) g5) (show rg (0 : Int32) 0 0 from ⟨by decide, by decide⟩)
        exact s_X5_scanToken_b143 v_r_kind v_r_value x1 x4 x5 x6 u1 u3 (rg_w w2 (by decide) (by decide))
      · have w8 : rg o_3 1 1 := rg_nel 1 c6 g5 (show rg (0 : Int32) 0 0 from ⟨by decide, by decide⟩) (by decide)
        refine ok_ck (inb_rg w2 (by decide) (by decide)) ?_
        refine ok_nm (fun e_6 ee_6 => ?_)
        exact ih v_r_kind v_r_value x1 x3 x4 (x5 + (1 : Int32)) e_6 u1 (rg_w w3 (by decide) (by decide)) u3 (rg_w (rg_add (e := 1) (f := 2000) w2 (show rg (1 : Int32) 1 1 from ⟨by decide, by decide⟩) (by decide) (by decide) (by decide) (by decide)) (by decide) (by decide)) (ms_up (y := (x5 + (1 : Int32))) (a := 0) hm (lt_ad w2 (show rg (1 : Int32) 1 1 from ⟨by decide, by decide⟩) (by decide) (by decide) (by decide)) (rg_w (rg_add (e := 1) (f := 2000) w2 (show rg (1 : Int32) 1 1 from ⟨by decide, by decide⟩) (by decide) (by decide) (by decide) (by decide)) (by decide) (by decide)))
set_option maxRecDepth 100000 in
set_option maxHeartbeats 2000000 in
theorem s_X5_scanToken_b66   (v_r_kind : (Nat → Int32)) (v_r_value : (Nat → Int64)) (x1 : Int32) (x4 : Int32) (x5 : Int32) (x6 : Int64)  (u0 : rg x1 0 401) (u1 : rg x4 0 1999) (u2 : rg x5 0 2000)  : ok (f_X5_scanToken_b66  v_r_kind v_r_value x1 x4 x5 x6) P_X5_scanToken := by
  unfold f_X5_scanToken_b66
  refine ok_if (fun c1 => ?_) (fun c1 => ?_)
  · have w2 : rg (x5 - x4) (-1999) 8 := rg_lex (ti_le c1) (rg_sub (e := (-1999)) (f := 2000) u2 u1 (by decide) (by decide) (by decide) (by decide)) (show rg (8 : Int32) 8 8 from ⟨by decide, by decide⟩)
    refine ok_bd (s_X5_wordOrName x6) (fun o_2 p3 => ?_)
    have g4 : rg o_2 1 15 := p3.1
    refine ok_ck (inb_rg u0 (by decide) (by decide)) ?_
    refine ok_nm (fun a_4 ea_4 => ?_)
    exact s_X5_scanToken_b193 a_4 v_r_value x1 x5 x6 u0 u2
  · have w5 : rg (x5 - x4) 9 2000 := rg_lty 9 (ti_nle c1) (show rg (8 : Int32) 8 8 from ⟨by decide, by decide⟩) (rg_sub (e := (-1999)) (f := 2000) u2 u1 (by decide) (by decide) (by decide) (by decide)) (by decide)
    refine ok_ck (inb_rg u0 (by decide) (by decide)) ?_
    refine ok_nm (fun a_6 ea_6 => ?_)
    exact s_X5_scanToken_b193 a_6 v_r_value x1 x5 x6 u0 u2
set_option maxRecDepth 100000 in
set_option maxHeartbeats 2000000 in
theorem s_X5_scanToken_b25  (v_tp_0 : (Nat → Int32)) (u0 : al v_tp_0 (-128) 127) : ∀ (n : Nat) (v_r_kind : (Nat → Int32)) (v_r_value : (Nat → Int64)) (x1 : Int32) (x3 : Int32) (x4 : Int32) (x5 : Int32) (x6 : Int64) (u1 : rg x1 0 401) (u2 : rg x3 0 2000) (u3 : rg x4 0 1999) (u4 : rg x5 0 2000)  (hm : (2000 - x5.toInt).toNat < n), ok (f_X5_scanToken_b25 v_tp_0 n v_r_kind v_r_value x1 x3 x4 x5 x6) P_X5_scanToken := by
  intro n
  induction n with
  | zero =>
    intro v_r_kind v_r_value x1 x3 x4 x5 x6 u1 u2 u3 u4 hm
    exact absurd hm (Nat.not_lt_zero _)
  | succ n ih =>
    intro v_r_kind v_r_value x1 x3 x4 x5 x6 u1 u2 u3 u4 hm
    show ok (f_X5_scanToken_b25_st (f_X5_scanToken_b25 v_tp_0 n) v_tp_0 v_r_kind v_r_value x1 x3 x4 x5 x6) P_X5_scanToken
    unfold f_X5_scanToken_b25_st
    refine ok_if (fun c1 => ?_) (fun c1 => ?_)
    · exact s_X5_scanToken_b66 v_r_kind v_r_value x1 x4 x5 x6 u1 u3 u4
    · have w2 : rg x5 0 1999 := rg_ltx 1999 (ti_nle c1) u4 u2 (by decide)
      have w3 : rg x3 1 2000 := rg_lty 1 (ti_nle c1) u4 u2 (by decide)
      refine ok_ck (inb_rg w2 (by decide) (by decide)) ?_
      refine ok_bd (s_X5_isLetter (v_tp_0 x5.toNatClampNeg)) (fun o_3 p4 => ?_)
      have g5 : rg o_3 0 1 := p4.1
      refine ok_if (fun c6 => ?_) (fun c6 => ?_)
      · have w7 : rg o_3 0 0 := rg_lex (ti_eq c6) (rg_ley (ti_eq2 c6) (show rg (0 : Int32) 0 0 from ⟨by decide, by decide⟩) g5) (show rg (0 : Int32) 0 0 from ⟨by decide, by decide⟩)
        exact s_X5_scanToken_b66 v_r_kind v_r_value x1 x4 x5 x6 u1 u3 (rg_w w2 (by decide) (by decide))
      · have w8 : rg o_3 1 1 := rg_nel 1 c6 g5 (show rg (0 : Int32) 0 0 from ⟨by decide, by decide⟩) (by decide)
        refine ok_ck (inb_rg w2 (by decide) (by decide)) ?_
        refine ok_nm (fun e_6 ee_6 => ?_)
        exact ih v_r_kind v_r_value x1 x3 x4 (x5 + (1 : Int32)) e_6 u1 (rg_w w3 (by decide) (by decide)) u3 (rg_w (rg_add (e := 1) (f := 2000) w2 (show rg (1 : Int32) 1 1 from ⟨by decide, by decide⟩) (by decide) (by decide) (by decide) (by decide)) (by decide) (by decide)) (ms_up (y := (x5 + (1 : Int32))) (a := 0) hm (lt_ad w2 (show rg (1 : Int32) 1 1 from ⟨by decide, by decide⟩) (by decide) (by decide) (by decide)) (rg_w (rg_add (e := 1) (f := 2000) w2 (show rg (1 : Int32) 1 1 from ⟨by decide, by decide⟩) (by decide) (by decide) (by decide) (by decide)) (by decide) (by decide)))
set_option maxRecDepth 100000 in
set_option maxHeartbeats 2000000 in
theorem s_X5_scanToken (v_r_start : (Nat → Int32)) (v_tp_0 : (Nat → Int32)) (v_r_kind : (Nat → Int32)) (v_r_value : (Nat → Int64)) (q1 : Int32) (q3 : Int32) (u0 : al v_tp_0 (-128) 127) (u1 : rg q1 0 401) (u2 : rg q3 0 2000) (u3 : rg (v_r_start q1.toNatClampNeg) 0 1999) : ok (f_X5_scanToken v_r_start v_tp_0 v_r_kind v_r_value q1 q3) P_X5_scanToken := by
  unfold f_X5_scanToken
  refine ok_ck (inb_rg u1 (by decide) (by decide)) ?_
  refine ok_ck (inb_rg u3 (by decide) (by decide)) ?_
  refine ok_bd (s_X5_isLetter (v_tp_0 (v_r_start q1.toNatClampNeg).toNatClampNeg)) (fun o_3 p1 => ?_)
  have g2 : rg o_3 0 1 := p1.1
  refine ok_if (fun c3 => ?_) (fun c3 => ?_)
  · have w4 : rg o_3 0 0 := rg_lex (ti_eq c3) (rg_ley (ti_eq2 c3) (show rg (0 : Int32) 0 0 from ⟨by decide, by decide⟩) g2) (show rg (0 : Int32) 0 0 from ⟨by decide, by decide⟩)
    refine ok_ck (inb_rg u3 (by decide) (by decide)) ?_
    refine ok_bd (s_X5_isDigit (v_tp_0 (v_r_start q1.toNatClampNeg).toNatClampNeg)) (fun o_6 p5 => ?_)
    have g6 : rg o_6 0 1 := p5.1
    refine ok_if (fun c7 => ?_) (fun c7 => ?_)
    · have w8 : rg o_6 0 0 := rg_lex (ti_eq c7) (rg_ley (ti_eq2 c7) (show rg (0 : Int32) 0 0 from ⟨by decide, by decide⟩) g6) (show rg (0 : Int32) 0 0 from ⟨by decide, by decide⟩)
      refine ok_ck (inb_rg u3 (by decide) (by decide)) ?_
      refine ok_bd (s_X5_isSign (v_tp_0 (v_r_start q1.toNatClampNeg).toNatClampNeg) (u0 _)) (fun o_9 p9 => ?_)
      have g10 : rg o_9 0 1 := p9.1
      refine ok_if (fun c11 => ?_) (fun c11 => ?_)
      · have w12 : rg o_9 0 0 := rg_lex (ti_eq c11) (rg_ley (ti_eq2 c11) (show rg (0 : Int32) 0 0 from ⟨by decide, by decide⟩) g10) (show rg (0 : Int32) 0 0 from ⟨by decide, by decide⟩)
        refine ok_ck (inb_rg u1 (by decide) (by decide)) ?_
        refine ok_nm (fun a_12 ea_12 => ?_)
        exact s_X5_scanToken_b193 a_12 v_r_value q1 ((v_r_start q1.toNatClampNeg) + (1 : Int32)) (0 : Int64) u1 (rg_w (rg_add (e := 1) (f := 2000) u3 (show rg (1 : Int32) 1 1 from ⟨by decide, by decide⟩) (by decide) (by decide) (by decide) (by decide)) (by decide) (by decide))
      · have w13 : rg o_9 1 1 := rg_nel 1 c11 g10 (show rg (0 : Int32) 0 0 from ⟨by decide, by decide⟩) (by decide)
        refine ok_ck (inb_rg u3 (by decide) (by decide)) ?_
        refine ok_ck (inb_rg u1 (by decide) (by decide)) ?_
        refine ok_nm (fun a_15 ea_15 => ?_)
        exact s_X5_scanToken_b193 a_15 v_r_value q1 ((v_r_start q1.toNatClampNeg) + (1 : Int32)) (0 : Int64) u1 (rg_w (rg_add (e := 1) (f := 2000) u3 (show rg (1 : Int32) 1 1 from ⟨by decide, by decide⟩) (by decide) (by decide) (by decide) (by decide)) (by decide) (by decide))
    · have w14 : rg o_6 1 1 := rg_nel 1 c7 g6 (show rg (0 : Int32) 0 0 from ⟨by decide, by decide⟩) (by decide)
      exact s_X5_scanToken_b104 v_tp_0 u0 _ v_r_kind v_r_value q1 q3 (v_r_start q1.toNatClampNeg) (v_r_start q1.toNatClampNeg) (0 : Int64) u1 u2 u3 (rg_w u3 (by decide) (by decide)) (fu_up (a := 0) (h := 2000) (rg_w u3 (by decide) (by decide)) (by decide))
  · have w15 : rg o_3 1 1 := rg_nel 1 c3 g2 (show rg (0 : Int32) 0 0 from ⟨by decide, by decide⟩) (by decide)
    exact s_X5_scanToken_b25 v_tp_0 u0 _ v_r_kind v_r_value q1 q3 (v_r_start q1.toNatClampNeg) (v_r_start q1.toNatClampNeg) (0 : Int64) u1 u2 u3 (rg_w u3 (by decide) (by decide)) (fu_up (a := 0) (h := 2000) (rg_w u3 (by decide) (by decide)) (by decide))
