abbrev P_J7_fill_53178_6  : (Nat → Int32) → Prop := (fun o : (Nat → Int32) => True)
set_option maxRecDepth 100000 in
set_option maxHeartbeats 2000000 in
theorem s_J7_fill_53178_6_b5    : ∀ (n : Nat) (v_tp_0 : (Nat → Int32)) (x1 : Int32) (x2 : Int32) (x3 : Int32) (u0 : rg x2 0 6) (u1 : rg x3 6 6) (u2 : x2.toInt ≤ x3.toInt)  (hm : (6 - x2.toInt).toNat < n), ok (f_J7_fill_53178_6_b5  n v_tp_0 x1 x2 x3) P_J7_fill_53178_6 := by
  intro n
  induction n with
  | zero =>
    intro v_tp_0 x1 x2 x3 u0 u1 u2 hm
    exact absurd hm (Nat.not_lt_zero _)
  | succ n ih =>
    intro v_tp_0 x1 x2 x3 u0 u1 u2 hm
    show ok (f_J7_fill_53178_6_b5_st (f_J7_fill_53178_6_b5  n)  v_tp_0 x1 x2 x3) P_J7_fill_53178_6
    unfold f_J7_fill_53178_6_b5_st
    refine ok_if (fun c1 => ?_) (fun c1 => ?_)
    · have w2 : rg x2 6 6 := rg_ley (ti_le c1) u1 u0
      exact ok_some trivial
    · have w3 : rg x2 0 5 := rg_ltx 5 (ti_nle c1) u0 u1 (by decide)
      refine ok_ck (inb_rg w3 (by decide) (by decide)) ?_
      refine ok_nm (fun a_3 ea_3 => ?_)
      exact ih a_3 x1 (x2 + (1 : Int32)) x3 (rg_w (rg_add (e := 1) (f := 6) w3 (show rg (1 : Int32) 1 1 from ⟨by decide, by decide⟩) (by decide) (by decide) (by decide) (by decide)) (by decide) (by decide)) u1 (Int.le_trans (rg_add (e := 1) (f := 6) w3 (show rg (1 : Int32) 1 1 from ⟨by decide, by decide⟩) (by decide) (by decide) (by decide) (by decide)).2 (Int.le_trans (by decide) u1.1)) (ms_up (y := (x2 + (1 : Int32))) (a := 0) hm (lt_ad w3 (show rg (1 : Int32) 1 1 from ⟨by decide, by decide⟩) (by decide) (by decide) (by decide)) (rg_w (rg_add (e := 1) (f := 6) w3 (show rg (1 : Int32) 1 1 from ⟨by decide, by decide⟩) (by decide) (by decide) (by decide) (by decide)) (by decide) (by decide)))
set_option maxRecDepth 100000 in
set_option maxHeartbeats 2000000 in
theorem s_J7_fill_53178_6 (v_tp_0 : (Nat → Int32)) (q1 : Int32)  : ok (f_J7_fill_53178_6 v_tp_0 q1) P_J7_fill_53178_6 := by
  unfold f_J7_fill_53178_6
  exact s_J7_fill_53178_6_b5 _ v_tp_0 q1 (0 : Int32) (6 : Int32) (rg_w (show rg (0 : Int32) 0 0 from ⟨by decide, by decide⟩) (by decide) (by decide)) (show rg (6 : Int32) 6 6 from ⟨by decide, by decide⟩) (Int.le_trans (show rg (0 : Int32) 0 0 from ⟨by decide, by decide⟩).2 (Int.le_trans (by decide) (show rg (6 : Int32) 6 6 from ⟨by decide, by decide⟩).1)) (fu_up (a := 0) (h := 6) (rg_w (show rg (0 : Int32) 0 0 from ⟨by decide, by decide⟩) (by decide) (by decide)) (by decide))

abbrev P_J7_fill_53178_12  : (Nat → Int32) → Prop := (fun o : (Nat → Int32) => True)
set_option maxRecDepth 100000 in
set_option maxHeartbeats 2000000 in
theorem s_J7_fill_53178_12_b5    : ∀ (n : Nat) (v_tp_0 : (Nat → Int32)) (x1 : Int32) (x2 : Int32) (x3 : Int32) (u0 : rg x2 0 12) (u1 : rg x3 12 12) (u2 : x2.toInt ≤ x3.toInt)  (hm : (12 - x2.toInt).toNat < n), ok (f_J7_fill_53178_12_b5  n v_tp_0 x1 x2 x3) P_J7_fill_53178_12 := by
  intro n
  induction n with
  | zero =>
    intro v_tp_0 x1 x2 x3 u0 u1 u2 hm
    exact absurd hm (Nat.not_lt_zero _)
  | succ n ih =>
    intro v_tp_0 x1 x2 x3 u0 u1 u2 hm
    show ok (f_J7_fill_53178_12_b5_st (f_J7_fill_53178_12_b5  n)  v_tp_0 x1 x2 x3) P_J7_fill_53178_12
    unfold f_J7_fill_53178_12_b5_st
    refine ok_if (fun c1 => ?_) (fun c1 => ?_)
    · have w2 : rg x2 12 12 := rg_ley (ti_le c1) u1 u0
      exact ok_some trivial
    · have w3 : rg x2 0 11 := rg_ltx 11 (ti_nle c1) u0 u1 (by decide)
      refine ok_ck (inb_rg w3 (by decide) (by decide)) ?_
      refine ok_nm (fun a_3 ea_3 => ?_)
      exact ih a_3 x1 (x2 + (1 : Int32)) x3 (rg_w (rg_add (e := 1) (f := 12) w3 (show rg (1 : Int32) 1 1 from ⟨by decide, by decide⟩) (by decide) (by decide) (by decide) (by decide)) (by decide) (by decide)) u1 (Int.le_trans (rg_add (e := 1) (f := 12) w3 (show rg (1 : Int32) 1 1 from ⟨by decide, by decide⟩) (by decide) (by decide) (by decide) (by decide)).2 (Int.le_trans (by decide) u1.1)) (ms_up (y := (x2 + (1 : Int32))) (a := 0) hm (lt_ad w3 (show rg (1 : Int32) 1 1 from ⟨by decide, by decide⟩) (by decide) (by decide) (by decide)) (rg_w (rg_add (e := 1) (f := 12) w3 (show rg (1 : Int32) 1 1 from ⟨by decide, by decide⟩) (by decide) (by decide) (by decide) (by decide)) (by decide) (by decide)))
set_option maxRecDepth 100000 in
set_option maxHeartbeats 2000000 in
theorem s_J7_fill_53178_12 (v_tp_0 : (Nat → Int32)) (q1 : Int32)  : ok (f_J7_fill_53178_12 v_tp_0 q1) P_J7_fill_53178_12 := by
  unfold f_J7_fill_53178_12
  exact s_J7_fill_53178_12_b5 _ v_tp_0 q1 (0 : Int32) (12 : Int32) (rg_w (show rg (0 : Int32) 0 0 from ⟨by decide, by decide⟩) (by decide) (by decide)) (show rg (12 : Int32) 12 12 from ⟨by decide, by decide⟩) (Int.le_trans (show rg (0 : Int32) 0 0 from ⟨by decide, by decide⟩).2 (Int.le_trans (by decide) (show rg (12 : Int32) 12 12 from ⟨by decide, by decide⟩).1)) (fu_up (a := 0) (h := 12) (rg_w (show rg (0 : Int32) 0 0 from ⟨by decide, by decide⟩) (by decide) (by decide)) (by decide))

abbrev P_J7_fill_d0a16_12  : (Nat → Int64) → Prop := (fun o : (Nat → Int64) => True)
set_option maxRecDepth 100000 in
set_option maxHeartbeats 2000000 in
theorem s_J7_fill_d0a16_12_b6    : ∀ (n : Nat) (v_tp_0 : (Nat → Int64)) (x1 : Int64) (x3 : Int32) (x4 : Int32) (u0 : rg x3 0 12) (u1 : rg x4 12 12) (u2 : x3.toInt ≤ x4.toInt)  (hm : (12 - x3.toInt).toNat < n), ok (f_J7_fill_d0a16_12_b6  n v_tp_0 x1 x3 x4) P_J7_fill_d0a16_12 := by
  intro n
  induction n with
  | zero =>
    intro v_tp_0 x1 x3 x4 u0 u1 u2 hm
    exact absurd hm (Nat.not_lt_zero _)
  | succ n ih =>
    intro v_tp_0 x1 x3 x4 u0 u1 u2 hm
    show ok (f_J7_fill_d0a16_12_b6_st (f_J7_fill_d0a16_12_b6  n)  v_tp_0 x1 x3 x4) P_J7_fill_d0a16_12
    unfold f_J7_fill_d0a16_12_b6_st
    refine ok_if (fun c1 => ?_) (fun c1 => ?_)
    · have w2 : rg x3 12 12 := rg_ley (ti_le c1) u1 u0
      exact ok_some trivial
    · have w3 : rg x3 0 11 := rg_ltx 11 (ti_nle c1) u0 u1 (by decide)
      refine ok_ck (inb_rg w3 (by decide) (by decide)) ?_
      refine ok_nm (fun a_3 ea_3 => ?_)
      exact ih a_3 x1 (x3 + (1 : Int32)) x4 (rg_w (rg_add (e := 1) (f := 12) w3 (show rg (1 : Int32) 1 1 from ⟨by decide, by decide⟩) (by decide) (by decide) (by decide) (by decide)) (by decide) (by decide)) u1 (Int.le_trans (rg_add (e := 1) (f := 12) w3 (show rg (1 : Int32) 1 1 from ⟨by decide, by decide⟩) (by decide) (by decide) (by decide) (by decide)).2 (Int.le_trans (by decide) u1.1)) (ms_up (y := (x3 + (1 : Int32))) (a := 0) hm (lt_ad w3 (show rg (1 : Int32) 1 1 from ⟨by decide, by decide⟩) (by decide) (by decide) (by decide)) (rg_w (rg_add (e := 1) (f := 12) w3 (show rg (1 : Int32) 1 1 from ⟨by decide, by decide⟩) (by decide) (by decide) (by decide) (by decide)) (by decide) (by decide)))
set_option maxRecDepth 100000 in
set_option maxHeartbeats 2000000 in
theorem s_J7_fill_d0a16_12 (v_tp_0 : (Nat → Int64)) (q1 : Int64)  : ok (f_J7_fill_d0a16_12 v_tp_0 q1) P_J7_fill_d0a16_12 := by
  unfold f_J7_fill_d0a16_12
  exact s_J7_fill_d0a16_12_b6 _ v_tp_0 q1 (0 : Int32) (12 : Int32) (rg_w (show rg (0 : Int32) 0 0 from ⟨by decide, by decide⟩) (by decide) (by decide)) (show rg (12 : Int32) 12 12 from ⟨by decide, by decide⟩) (Int.le_trans (show rg (0 : Int32) 0 0 from ⟨by decide, by decide⟩).2 (Int.le_trans (by decide) (show rg (12 : Int32) 12 12 from ⟨by decide, by decide⟩).1)) (fu_up (a := 0) (h := 12) (rg_w (show rg (0 : Int32) 0 0 from ⟨by decide, by decide⟩) (by decide) (by decide)) (by decide))

abbrev P_J6_bitCount_0f7a4  : Int32 → Prop := (fun o : Int32 => True)
set_option maxRecDepth 100000 in
set_option maxHeartbeats 2000000 in
theorem s_J6_bitCount_0f7a4 (q0 : Int32)  : ok (f_J6_bitCount_0f7a4 q0) P_J6_bitCount_0f7a4 := by
  unfold f_J6_bitCount_0f7a4
  refine ok_nm (fun e_1 ee_1 => ?_)
  refine ok_nm (fun e_2 ee_2 => ?_)
  refine ok_nm (fun e_3 ee_3 => ?_)
  refine ok_nm (fun e_4 ee_4 => ?_)
  refine ok_nm (fun e_5 ee_5 => ?_)
  exact ok_some trivial

abbrev P_X1_draw  : (Nat → Int32) × (Nat → Int64) → Prop := (fun o : (Nat → Int32) × (Nat → Int64) => True)
set_option maxRecDepth 100000 in
set_option maxHeartbeats 2000000 in
theorem s_X1_draw (v_d_water : (Nat → Int32)) (v_d_salt : (Nat → Int64)) (q1 : Int32) (q2 : Int32) (u0 : rg q1 0 11) : ok (f_X1_draw v_d_water v_d_salt q1 q2) P_X1_draw := by
  unfold f_X1_draw
  refine ok_if (fun c1 => ?_) (fun c1 => ?_)
  · have w2 : rg q2 (-2147483648) 0 := rg_ltx 0 (ti_lt c1) (rg_any q2) (show rg (1 : Int32) 1 1 from ⟨by decide, by decide⟩) (by decide)
    exact ok_some trivial
  · have w3 : rg q2 1 2147483647 := rg_ley (ti_nlt c1) (show rg (1 : Int32) 1 1 from ⟨by decide, by decide⟩) (rg_any q2)
    refine ok_ck (inb_rg u0 (by decide) (by decide)) ?_
    refine ok_if (fun c4 => ?_) (fun c4 => ?_)
    · have w5 : rg (v_d_water q1.toNatClampNeg) 1 2147483647 := rg_ley (ti_le c4) (show rg (1 : Int32) 1 1 from ⟨by decide, by decide⟩) (rg_any (v_d_water q1.toNatClampNeg))
      refine ok_ck (inb_rg u0 (by decide) (by decide)) ?_
      refine ok_ck (inb_rg u0 (by decide) (by decide)) ?_
      refine ok_ck (inb_rg u0 (by decide) (by decide)) ?_
      refine ok_ck (nzl_rg w5 (by decide)) ?_
      refine ok_ck (inb_rg u0 (by decide) (by decide)) ?_
      refine ok_nm (fun a_9 ea_9 => ?_)
      refine ok_ck (inb_rg u0 (by decide) (by decide)) ?_
      refine ok_ck (inb_rg u0 (by decide) (by decide)) ?_
      refine ok_nm (fun a_12 ea_12 => ?_)
      exact ok_some trivial
    · have w6 : rg (v_d_water q1.toNatClampNeg) (-2147483648) 0 := rg_ltx 0 (ti_nle c4) (rg_any (v_d_water q1.toNatClampNeg)) (show rg (1 : Int32) 1 1 from ⟨by decide, by decide⟩) (by decide)
      exact ok_some trivial

abbrev P_X1_countDry  : (Nat → Int32) × (Nat → Int32) → Prop := (fun o : (Nat → Int32) × (Nat → Int32) => True)
set_option maxRecDepth 100000 in
set_option maxHeartbeats 2000000 in
theorem s_X1_countDry_b19   (v_d_dryDays : (Nat → Int32)) (v_d_firstDry : (Nat → Int32)) (x1 : Int32)  (u0 : rg x1 0 5)  : ok (f_X1_countDry_b19  v_d_dryDays v_d_firstDry x1) P_X1_countDry := by
  unfold f_X1_countDry_b19
  refine ok_ck (inb_rg u0 (by decide) (by decide)) ?_
  refine ok_ck (inb_rg u0 (by decide) (by decide)) ?_
  refine ok_nm (fun a_3 ea_3 => ?_)
  exact ok_some trivial
set_option maxRecDepth 100000 in
set_option maxHeartbeats 2000000 in
theorem s_X1_countDry (v_d_day : Int32) (v_d_dryDays : (Nat → Int32)) (v_d_firstDry : (Nat → Int32)) (q1 : Int32) (u0 : rg q1 0 5) : ok (f_X1_countDry v_d_day v_d_dryDays v_d_firstDry q1) P_X1_countDry := by
  unfold f_X1_countDry
  refine ok_ck (inb_rg u0 (by decide) (by decide)) ?_
  refine ok_if (fun c1 => ?_) (fun c1 => ?_)
  · have w2 : rg (v_d_dryDays q1.toNatClampNeg) 0 0 := rg_lex (ti_eq c1) (rg_ley (ti_eq2 c1) (show rg (0 : Int32) 0 0 from ⟨by decide, by decide⟩) (rg_any (v_d_dryDays q1.toNatClampNeg))) (show rg (0 : Int32) 0 0 from ⟨by decide, by decide⟩)
    refine ok_ck (inb_rg u0 (by decide) (by decide)) ?_
    refine ok_nm (fun a_4 ea_4 => ?_)
    exact s_X1_countDry_b19 v_d_dryDays a_4 q1 u0
  · exact s_X1_countDry_b19 v_d_dryDays v_d_firstDry q1 u0

abbrev P_X1_allWater  : Int32 → Prop := (fun o : Int32 => True)
set_option maxRecDepth 100000 in
set_option maxHeartbeats 2000000 in
theorem s_X1_allWater_b4  (v_d_water : (Nat → Int32))  : ∀ (n : Nat) (x1 : Int32) (x2 : Int32) (x3 : Int32) (u0 : rg x1 0 12) (u1 : rg x3 0 12)  (hm : (12 - x3.toInt).toNat < n), ok (f_X1_allWater_b4 v_d_water n x1 x2 x3) P_X1_allWater := by
  intro n
  induction n with
  | zero =>
    intro x1 x2 x3 u0 u1 hm
    exact absurd hm (Nat.not_lt_zero _)
  | succ n ih =>
    intro x1 x2 x3 u0 u1 hm
    show ok (f_X1_allWater_b4_st (f_X1_allWater_b4 v_d_water n) v_d_water x1 x2 x3) P_X1_allWater
    unfold f_X1_allWater_b4_st
    refine ok_if (fun c1 => ?_) (fun c1 => ?_)
    · exact ok_some trivial
    · have w2 : rg x3 0 11 := rg_ltx 11 (ti_nle c1) u1 u0 (by decide)
      have w3 : rg x1 1 12 := rg_lty 1 (ti_nle c1) u1 u0 (by decide)
      refine ok_ck (inb_rg w2 (by decide) (by decide)) ?_
      exact ih x1 (x2 + (v_d_water x3.toNatClampNeg)) (x3 + (1 : Int32)) (rg_w w3 (by decide) (by decide)) (rg_w (rg_add (e := 1) (f := 12) w2 (show rg (1 : Int32) 1 1 from ⟨by decide, by decide⟩) (by decide) (by decide) (by decide) (by decide)) (by decide) (by decide)) (ms_up (y := (x3 + (1 : Int32))) (a := 0) hm (lt_ad w2 (show rg (1 : Int32) 1 1 from ⟨by decide, by decide⟩) (by decide) (by decide) (by decide)) (rg_w (rg_add (e := 1) (f := 12) w2 (show rg (1 : Int32) 1 1 from ⟨by decide, by decide⟩) (by decide) (by decide) (by decide) (by decide)) (by decide) (by decide)))
set_option maxRecDepth 100000 in
set_option maxHeartbeats 2000000 in
theorem s_X1_allWater (v_d_water : (Nat → Int32)) (q1 : Int32) (u0 : rg q1 0 12) : ok (f_X1_allWater v_d_water q1) P_X1_allWater := by
  unfold f_X1_allWater
  exact s_X1_allWater_b4 v_d_water _ q1 (0 : Int32) (0 : Int32) u0 (rg_w (show rg (0 : Int32) 0 0 from ⟨by decide, by decide⟩) (by decide) (by decide)) (fu_up (a := 0) (h := 12) (rg_w (show rg (0 : Int32) 0 0 from ⟨by decide, by decide⟩) (by decide) (by decide)) (by decide))

abbrev P_X1_saltyOf  : Int32 → Prop := (fun o : Int32 => True)
set_option maxRecDepth 100000 in
set_option maxHeartbeats 2000000 in
theorem s_X1_saltyOf (v_d_water : (Nat → Int32)) (v_d_salt : (Nat → Int64)) (q1 : Int32) (u0 : rg q1 0 11) : ok (f_X1_saltyOf v_d_water v_d_salt q1) P_X1_saltyOf := by
  unfold f_X1_saltyOf
  refine ok_ck (inb_rg u0 (by decide) (by decide)) ?_
  refine ok_if (fun c1 => ?_) (fun c1 => ?_)
  · have w2 : rg (v_d_water q1.toNatClampNeg) 1 2147483647 := rg_ley (ti_le c1) (show rg (1 : Int32) 1 1 from ⟨by decide, by decide⟩) (rg_any (v_d_water q1.toNatClampNeg))
    refine ok_ck (inb_rg u0 (by decide) (by decide)) ?_
    refine ok_ck (inb_rg u0 (by decide) (by decide)) ?_
    refine ok_ck (nzl_rg w2 (by decide)) ?_
    exact ok_some trivial
  · have w3 : rg (v_d_water q1.toNatClampNeg) (-2147483648) 0 := rg_ltx 0 (ti_nle c1) (rg_any (v_d_water q1.toNatClampNeg)) (show rg (1 : Int32) 1 1 from ⟨by decide, by decide⟩) (by decide)
    exact ok_some trivial

abbrev P_X1_begin  : Int32 × (Nat → Int32) × (Nat → Int64) × (Nat → Int32) × (Nat → Int32) × (Nat → Int32) × (Nat → Int32) × (Nat → Int32) → Prop := (fun o : Int32 × (Nat → Int32) × (Nat → Int64) × (Nat → Int32) × (Nat → Int32) × (Nat → Int32) × (Nat → Int32) × (Nat → Int32) => True)
set_option maxRecDepth 100000 in
set_option maxHeartbeats 2000000 in
theorem s_X1_begin (v_g_water : (Nat → Int32)) (v_d_day : Int32) (v_d_water : (Nat → Int32)) (v_d_salt : (Nat → Int64)) (v_d_seen : (Nat → Int32)) (v_d_took : (Nat → Int32)) (v_d_dryDays : (Nat → Int32)) (v_d_firstDry : (Nat → Int32)) (v_d_total : (Nat → Int32))  : ok (f_X1_begin v_g_water v_d_day v_d_water v_d_salt v_d_seen v_d_took v_d_dryDays v_d_firstDry v_d_total) P_X1_begin := by
  unfold f_X1_begin
  refine ok_nm (fun a_1 ea_1 => ?_)
  refine ok_bd (s_J7_fill_d0a16_12 v_d_salt (0 : Int64)) (fun o_2 p1 => ?_)
  refine ok_bd (s_J7_fill_53178_12 v_d_seen (0 : Int32)) (fun o_3 p2 => ?_)
  refine ok_bd (s_J7_fill_53178_6 v_d_took (0 : Int32)) (fun o_4 p3 => ?_)
  refine ok_bd (s_J7_fill_53178_6 v_d_dryDays (0 : Int32)) (fun o_5 p4 => ?_)
  refine ok_bd (s_J7_fill_53178_6 v_d_firstDry (-2 : Int32)) (fun o_6 p5 => ?_)
  refine ok_bd (s_J7_fill_53178_6 v_d_total (0 : Int32)) (fun o_7 p6 => ?_)
  exact ok_some trivial

abbrev P_X1_become  : Int32 × (Nat → Int32) × (Nat → Int64) × (Nat → Int32) × (Nat → Int32) × (Nat → Int32) × (Nat → Int32) × (Nat → Int32) → Prop := (fun o : Int32 × (Nat → Int32) × (Nat → Int64) × (Nat → Int32) × (Nat → Int32) × (Nat → Int32) × (Nat → Int32) × (Nat → Int32) => True)
set_option maxRecDepth 100000 in
set_option maxHeartbeats 2000000 in
theorem s_X1_become (v_o_day : Int32) (v_o_water : (Nat → Int32)) (v_o_salt : (Nat → Int64)) (v_o_seen : (Nat → Int32)) (v_o_took : (Nat → Int32)) (v_o_dryDays : (Nat → Int32)) (v_o_firstDry : (Nat → Int32)) (v_o_total : (Nat → Int32)) (v_d_day : Int32) (v_d_water : (Nat → Int32)) (v_d_salt : (Nat → Int64)) (v_d_seen : (Nat → Int32)) (v_d_took : (Nat → Int32)) (v_d_dryDays : (Nat → Int32)) (v_d_firstDry : (Nat → Int32)) (v_d_total : (Nat → Int32))  : ok (f_X1_become v_o_day v_o_water v_o_salt v_o_seen v_o_took v_o_dryDays v_o_firstDry v_o_total v_d_day v_d_water v_d_salt v_d_seen v_d_took v_d_dryDays v_d_firstDry v_d_total) P_X1_become := by
  unfold f_X1_become
  refine ok_nm (fun a_1 ea_1 => ?_)
  refine ok_nm (fun a_2 ea_2 => ?_)
  refine ok_nm (fun a_3 ea_3 => ?_)
  refine ok_nm (fun a_4 ea_4 => ?_)
  refine ok_nm (fun a_5 ea_5 => ?_)
  refine ok_nm (fun a_6 ea_6 => ?_)
  refine ok_nm (fun a_7 ea_7 => ?_)
  exact ok_some trivial

abbrev P_X6_has  : Int32 → Prop := (fun o : Int32 => rg o 0 1 ∧ True)
set_option maxRecDepth 100000 in
set_option maxHeartbeats 2000000 in
theorem s_X6_has (q0 : Int32) (q1 : Int32)  : ok (f_X6_has q0 q1) P_X6_has := by
  unfold f_X6_has
  refine ok_if (fun c1 => ?_) (fun c1 => ?_)
  · have w2 : rg ((q0 >>> (q1 &&& 31)) &&& (1 : Int32)) 0 0 := rg_lex (ti_eq c1) (rg_ley (ti_eq2 c1) (show rg (0 : Int32) 0 0 from ⟨by decide, by decide⟩) (rg_and1 (q0 >>> (q1 &&& 31)))) (show rg (0 : Int32) 0 0 from ⟨by decide, by decide⟩)
    exact ok_some ⟨(rg_w (show rg (0 : Int32) 0 0 from ⟨by decide, by decide⟩) (by decide) (by decide)), trivial⟩
  · have w3 : rg ((q0 >>> (q1 &&& 31)) &&& (1 : Int32)) 1 1 := rg_nel 1 c1 (rg_and1 (q0 >>> (q1 &&& 31))) (show rg (0 : Int32) 0 0 from ⟨by decide, by decide⟩) (by decide)
    exact ok_some ⟨(rg_w (show rg (1 : Int32) 1 1 from ⟨by decide, by decide⟩) (by decide) (by decide)), trivial⟩

abbrev P_X3_clear  : Int32 × Int32 × Int32 × Int32 × Int32 × (Nat → Int32) → Prop := (fun o : Int32 × Int32 × Int32 × Int32 × Int32 × (Nat → Int32) => rg o.1 0 12 ∧ rg o.2.1 0 20 ∧ rg o.2.2.1 0 3 ∧ rg o.2.2.2.1 0 6 ∧ rg o.2.2.2.2.1 0 14 ∧ rg o.2.1 0 0 ∧ rg o.2.2.1 0 0 ∧ rg o.2.2.2.1 0 0 ∧ True)
set_option maxRecDepth 100000 in
set_option maxHeartbeats 2000000 in
theorem s_X3_clear (v_g_cells : Int32) (v_g_passes : Int32) (v_g_rivers : Int32) (v_g_villages : Int32) (v_g_rains : Int32) (v_g_ways : (Nat → Int32)) (u0 : rg v_g_cells 0 12) (u1 : rg v_g_passes 0 20) (u2 : rg v_g_rivers 0 3) (u3 : rg v_g_villages 0 6) (u4 : rg v_g_rains 0 14) : ok (f_X3_clear v_g_cells v_g_passes v_g_rivers v_g_villages v_g_rains v_g_ways) P_X3_clear := by
  unfold f_X3_clear
  refine ok_bd (s_J7_fill_53178_12 v_g_ways (0 : Int32)) (fun o_1 p1 => ?_)
  exact ok_some ⟨(rg_w (show rg (0 : Int32) 0 0 from ⟨by decide, by decide⟩) (by decide) (by decide)), (rg_w (show rg (0 : Int32) 0 0 from ⟨by decide, by decide⟩) (by decide) (by decide)), (rg_w (show rg (0 : Int32) 0 0 from ⟨by decide, by decide⟩) (by decide) (by decide)), (rg_w (show rg (0 : Int32) 0 0 from ⟨by decide, by decide⟩) (by decide) (by decide)), (rg_w (show rg (0 : Int32) 0 0 from ⟨by decide, by decide⟩) (by decide) (by decide)), (show rg (0 : Int32) 0 0 from ⟨by decide, by decide⟩), (show rg (0 : Int32) 0 0 from ⟨by decide, by decide⟩), (show rg (0 : Int32) 0 0 from ⟨by decide, by decide⟩), trivial⟩

abbrev P_X3_levelOf  : Int32 → Prop := (fun o : Int32 => True)
set_option maxRecDepth 100000 in
set_option maxHeartbeats 2000000 in
theorem s_X3_levelOf (v_g_room : (Nat → Int32)) (q1 : Int32) (q2 : Int32) (u0 : rg q1 0 11) : ok (f_X3_levelOf v_g_room q1 q2) P_X3_levelOf := by
  unfold f_X3_levelOf
  refine ok_ck (inb_rg u0 (by decide) (by decide)) ?_
  refine ok_if (fun c1 => ?_) (fun c1 => ?_)
  · have w2 : rg (v_g_room q1.toNatClampNeg) 1 2147483647 := rg_ley (ti_le c1) (show rg (1 : Int32) 1 1 from ⟨by decide, by decide⟩) (rg_any (v_g_room q1.toNatClampNeg))
    refine ok_ck (inb_rg u0 (by decide) (by decide)) ?_
    refine ok_ck (nz_rg w2 (by decide)) ?_
    exact ok_some trivial
  · have w3 : rg (v_g_room q1.toNatClampNeg) (-2147483648) 0 := rg_ltx 0 (ti_nle c1) (rg_any (v_g_room q1.toNatClampNeg)) (show rg (1 : Int32) 1 1 from ⟨by decide, by decide⟩) (by decide)
    exact ok_some trivial

abbrev P_X3_lawBegin  : Int32 → Prop := (fun o : Int32 => rg o 0 400 ∧ True)
set_option maxRecDepth 100000 in
set_option maxHeartbeats 2000000 in
theorem s_X3_lawBegin (v_g_lawEnd : (Nat → Int32)) (q1 : Int32) (u0 : al v_g_lawEnd 0 400) (u1 : rg q1 0 5) : ok (f_X3_lawBegin v_g_lawEnd q1) P_X3_lawBegin := by
  unfold f_X3_lawBegin
  refine ok_if (fun c1 => ?_) (fun c1 => ?_)
  · have w2 : rg q1 1 5 := rg_ley (ti_le c1) (show rg (1 : Int32) 1 1 from ⟨by decide, by decide⟩) u1
    refine ok_ck (inb_rg (rg_sub (e := 0) (f := 4) w2 (show rg (1 : Int32) 1 1 from ⟨by decide, by decide⟩) (by decide) (by decide) (by decide) (by decide)) (by decide) (by decide)) ?_
    exact ok_some ⟨(u0 _), trivial⟩
  · have w3 : rg q1 0 0 := rg_ltx 0 (ti_nle c1) u1 (show rg (1 : Int32) 1 1 from ⟨by decide, by decide⟩) (by decide)
    exact ok_some ⟨(rg_w (show rg (0 : Int32) 0 0 from ⟨by decide, by decide⟩) (by decide) (by decide)), trivial⟩

abbrev P_X3_bodyOf  : Int32 → Prop := (fun o : Int32 => True)
set_option maxRecDepth 100000 in
set_option maxHeartbeats 2000000 in
theorem s_X3_bodyOf_b19 (k7 : Int32 → Int32 → Int32 → Option (Int32)) (v_g_cells : Int32) (v_g_passes : Int32) (v_g_passFrom : (Nat → Int32)) (v_g_passTo : (Nat → Int32)) (u0 : rg v_g_cells 0 12) (u1 : rg v_g_passes 0 20) (u2 : ac v_g_passFrom v_g_passes 0 11) (u3 : ac v_g_passTo v_g_passes 0 11) : ∀ (n : Nat) (x2 : Int32) (x3 : Int32) (x4 : Int32) (x5 : Int32) (u4 : rg x4 0 11) (u5 : rg x5 0 20) (u6 : x4.toInt < v_g_cells.toInt) (hk7 : ∀ (x2' : Int32) (x3' : Int32) (x4' : Int32), rg x4' 0 12 → x4.toInt < x4'.toInt → ok (k7 x2' x3' x4') P_X3_bodyOf) (hm : (20 - x5.toInt).toNat < n), ok (f_X3_bodyOf_b19 k7 v_g_cells v_g_passes v_g_passFrom v_g_passTo n x2 x3 x4 x5) P_X3_bodyOf := by
  intro n
  induction n with
  | zero =>
    intro x2 x3 x4 x5 u4 u5 u6 hk7 hm
    exact absurd hm (Nat.not_lt_zero _)
  | succ n ih =>
    intro x2 x3 x4 x5 u4 u5 u6 hk7 hm
    show ok (f_X3_bodyOf_b19_st (f_X3_bodyOf_b19 k7 v_g_cells v_g_passes v_g_passFrom v_g_passTo n) k7 v_g_cells v_g_passes v_g_passFrom v_g_passTo x2 x3 x4 x5) P_X3_bodyOf
    unfold f_X3_bodyOf_b19_st
    refine ok_if (fun c1 => ?_) (fun c1 => ?_)
    · exact hk7 x2 x3 (x4 + (1 : Int32)) (rg_w (rg_add (e := 1) (f := 12) u4 (show rg (1 : Int32) 1 1 from ⟨by decide, by decide⟩) (by decide) (by decide) (by decide) (by decide)) (by decide) (by decide)) (lt_ad u4 (show rg (1 : Int32) 1 1 from ⟨by decide, by decide⟩) (by decide) (by decide) (by decide))
    · have w2 : rg x5 0 19 := rg_ltx 19 (ti_nle c1) u5 u1 (by decide)
      have w3 : rg v_g_passes 1 20 := rg_lty 1 (ti_nle c1) u5 u1 (by decide)
      refine ok_ck (inb_rg w2 (by decide) (by decide)) ?_
      refine ok_ck (inb_rg w2 (by decide) (by decide)) ?_
      refine ok_nm (fun e_4 ee_4 => ?_)
      refine ok_if (fun c4 => ?_) (fun c4 => ?_)
      · have w5 : rg x2 0 19 := rg_lex (ti_eq2 c4) (rg_ley (ti_eq c4) w2 (rg_any x2)) w2
        exact ih x2 x3 x4 (x5 + (1 : Int32)) u4 (rg_w (rg_add (e := 1) (f := 20) w2 (show rg (1 : Int32) 1 1 from ⟨by decide, by decide⟩) (by decide) (by decide) (by decide) (by decide)) (by decide) (by decide)) u6 hk7 (ms_up (y := (x5 + (1 : Int32))) (a := 0) hm (lt_ad w2 (show rg (1 : Int32) 1 1 from ⟨by decide, by decide⟩) (by decide) (by decide) (by decide)) (rg_w (rg_add (e := 1) (f := 20) w2 (show rg (1 : Int32) 1 1 from ⟨by decide, by decide⟩) (by decide) (by decide) (by decide) (by decide)) (by decide) (by decide)))
      · refine ok_if (fun c6 => ?_) (fun c6 => ?_)
        · have w7 : rg (x3 &&& e_4) 0 0 := rg_lex (ti_eq c6) (rg_ley (ti_eq2 c6) (show rg (0 : Int32) 0 0 from ⟨by decide, by decide⟩) (rg_any (x3 &&& e_4))) (show rg (0 : Int32) 0 0 from ⟨by decide, by decide⟩)
          exact ih x2 x3 x4 (x5 + (1 : Int32)) u4 (rg_w (rg_add (e := 1) (f := 20) w2 (show rg (1 : Int32) 1 1 from ⟨by decide, by decide⟩) (by decide) (by decide) (by decide) (by decide)) (by decide) (by decide)) u6 hk7 (ms_up (y := (x5 + (1 : Int32))) (a := 0) hm (lt_ad w2 (show rg (1 : Int32) 1 1 from ⟨by decide, by decide⟩) (by decide) (by decide) (by decide)) (rg_w (rg_add (e := 1) (f := 20) w2 (show rg (1 : Int32) 1 1 from ⟨by decide, by decide⟩) (by decide) (by decide) (by decide) (by decide)) (by decide) (by decide)))
        · exact ih x2 (x3 ||| e_4) x4 (x5 + (1 : Int32)) u4 (rg_w (rg_add (e := 1) (f := 20) w2 (show rg (1 : Int32) 1 1 from ⟨by decide, by decide⟩) (by decide) (by decide) (by decide) (by decide)) (by decide) (by decide)) u6 hk7 (ms_up (y := (x5 + (1 : Int32))) (a := 0) hm (lt_ad w2 (show rg (1 : Int32) 1 1 from ⟨by decide, by decide⟩) (by decide) (by decide) (by decide)) (rg_w (rg_add (e := 1) (f := 20) w2 (show rg (1 : Int32) 1 1 from ⟨by decide, by decide⟩) (by decide) (by decide) (by decide) (by decide)) (by decide) (by decide)))
set_option maxRecDepth 100000 in
set_option maxHeartbeats 2000000 in
theorem s_X3_bodyOf_b7  (v_g_cells : Int32) (v_g_passes : Int32) (v_g_passFrom : (Nat → Int32)) (v_g_passTo : (Nat → Int32)) (u0 : rg v_g_cells 0 12) (u1 : rg v_g_passes 0 20) (u2 : ac v_g_passFrom v_g_passes 0 11) (u3 : ac v_g_passTo v_g_passes 0 11) : ∀ (n : Nat) (x2 : Int32) (x3 : Int32) (x4 : Int32) (u4 : rg x4 0 12)  (hm : (12 - x4.toInt).toNat < n), ok (f_X3_bodyOf_b7 v_g_cells v_g_passes v_g_passFrom v_g_passTo n x2 x3 x4) P_X3_bodyOf := by
  intro n
  induction n with
  | zero =>
    intro x2 x3 x4 u4 hm
    exact absurd hm (Nat.not_lt_zero _)
  | succ n ih =>
    intro x2 x3 x4 u4 hm
    show ok (f_X3_bodyOf_b7_st (f_X3_bodyOf_b7 v_g_cells v_g_passes v_g_passFrom v_g_passTo n) v_g_cells v_g_passes v_g_passFrom v_g_passTo x2 x3 x4) P_X3_bodyOf
    unfold f_X3_bodyOf_b7_st
    refine ok_if (fun c1 => ?_) (fun c1 => ?_)
    · exact ok_some trivial
    · have w2 : rg x4 0 11 := rg_ltx 11 (ti_nle c1) u4 u0 (by decide)
      have w3 : rg v_g_cells 1 12 := rg_lty 1 (ti_nle c1) u4 u0 (by decide)
      exact s_X3_bodyOf_b19 _ v_g_cells v_g_passes v_g_passFrom v_g_passTo (rg_w w3 (by decide) (by decide)) u1 u2 u3 _ x2 x3 x4 (0 : Int32) w2 (rg_w (show rg (0 : Int32) 0 0 from ⟨by decide, by decide⟩) (by decide) (by decide)) (ti_nle c1) (by intro x2' x3' x4' f0 lt; exact ih _ _ _ f0 (ms_up hm lt f0)) (fu_up (a := 0) (h := 20) (rg_w (show rg (0 : Int32) 0 0 from ⟨by decide, by decide⟩) (by decide) (by decide)) (by decide))
set_option maxRecDepth 100000 in
set_option maxHeartbeats 2000000 in
theorem s_X3_bodyOf (v_g_cells : Int32) (v_g_passes : Int32) (v_g_passFrom : (Nat → Int32)) (v_g_passTo : (Nat → Int32)) (q1 : Int32) (q2 : Int32) (u0 : rg v_g_cells 0 12) (u1 : rg v_g_passes 0 20) (u2 : ac v_g_passFrom v_g_passes 0 11) (u3 : ac v_g_passTo v_g_passes 0 11) : ok (f_X3_bodyOf v_g_cells v_g_passes v_g_passFrom v_g_passTo q1 q2) P_X3_bodyOf := by
  unfold f_X3_bodyOf
  exact s_X3_bodyOf_b7 v_g_cells v_g_passes v_g_passFrom v_g_passTo u0 u1 u2 u3 _ q2 ((1 : Int32) <<< (q1 &&& 31)) (0 : Int32) (rg_w (show rg (0 : Int32) 0 0 from ⟨by decide, by decide⟩) (by decide) (by decide)) (fu_up (a := 0) (h := 12) (rg_w (show rg (0 : Int32) 0 0 from ⟨by decide, by decide⟩) (by decide) (by decide)) (by decide))

abbrev P_X3_bodiesWithout  : Int32 → Prop := (fun o : Int32 => True)
set_option maxRecDepth 100000 in
set_option maxHeartbeats 2000000 in
theorem s_X3_bodiesWithout_b7  (v_g_cells : Int32) (v_g_passes : Int32) (v_g_passFrom : (Nat → Int32)) (v_g_passTo : (Nat → Int32)) (u0 : rg v_g_cells 0 12) (u1 : rg v_g_passes 0 20) (u2 : ac v_g_passFrom v_g_passes 0 11) (u3 : ac v_g_passTo v_g_passes 0 11) : ∀ (n : Nat) (x1 : Int32) (x2 : Int32) (x3 : Int32) (x4 : Int32) (u4 : rg x4 0 12)  (hm : (12 - x4.toInt).toNat < n), ok (f_X3_bodiesWithout_b7 v_g_cells v_g_passes v_g_passFrom v_g_passTo n x1 x2 x3 x4) P_X3_bodiesWithout := by
  intro n
  induction n with
  | zero =>
    intro x1 x2 x3 x4 u4 hm
    exact absurd hm (Nat.not_lt_zero _)
  | succ n ih =>
    intro x1 x2 x3 x4 u4 hm
    show ok (f_X3_bodiesWithout_b7_st (f_X3_bodiesWithout_b7 v_g_cells v_g_passes v_g_passFrom v_g_passTo n) v_g_cells v_g_passes v_g_passFrom v_g_passTo x1 x2 x3 x4) P_X3_bodiesWithout
    unfold f_X3_bodiesWithout_b7_st
    refine ok_if (fun c1 => ?_) (fun c1 => ?_)
    · exact ok_some trivial
    · have w2 : rg x4 0 11 := rg_ltx 11 (ti_nle c1) u4 u0 (by decide)
      have w3 : rg v_g_cells 1 12 := rg_lty 1 (ti_nle c1) u4 u0 (by decide)
      refine ok_bd (s_X6_has x3 x4) (fun o_2 p4 => ?_)
      have g5 : rg o_2 0 1 := p4.1
      refine ok_if (fun c6 => ?_) (fun c6 => ?_)
      · have w7 : rg o_2 0 0 := rg_lex (ti_eq c6) (rg_ley (ti_eq2 c6) (show rg (0 : Int32) 0 0 from ⟨by decide, by decide⟩) g5) (show rg (0 : Int32) 0 0 from ⟨by decide, by decide⟩)
        refine ok_bd (s_X3_bodyOf v_g_cells v_g_passes v_g_passFrom v_g_passTo x4 x1 (rg_w w3 (by decide) (by decide)) u1 u2 u3) (fun o_4 p8 => ?_)
        exact ih x1 (x2 + (1 : Int32)) (x3 ||| o_4) (x4 + (1 : Int32)) (rg_w (rg_add (e := 1) (f := 12) w2 (show rg (1 : Int32) 1 1 from ⟨by decide, by decide⟩) (by decide) (by decide) (by decide) (by decide)) (by decide) (by decide)) (ms_up (y := (x4 + (1 : Int32))) (a := 0) hm (lt_ad w2 (show rg (1 : Int32) 1 1 from ⟨by decide, by decide⟩) (by decide) (by decide) (by decide)) (rg_w (rg_add (e := 1) (f := 12) w2 (show rg (1 : Int32) 1 1 from ⟨by decide, by decide⟩) (by decide) (by decide) (by decide) (by decide)) (by decide) (by decide)))
      · have w9 : rg o_2 1 1 := rg_nel 1 c6 g5 (show rg (0 : Int32) 0 0 from ⟨by decide, by decide⟩) (by decide)
        exact ih x1 x2 x3 (x4 + (1 : Int32)) (rg_w (rg_add (e := 1) (f := 12) w2 (show rg (1 : Int32) 1 1 from ⟨by decide, by decide⟩) (by decide) (by decide) (by decide) (by decide)) (by decide) (by decide)) (ms_up (y := (x4 + (1 : Int32))) (a := 0) hm (lt_ad w2 (show rg (1 : Int32) 1 1 from ⟨by decide, by decide⟩) (by decide) (by decide) (by decide)) (rg_w (rg_add (e := 1) (f := 12) w2 (show rg (1 : Int32) 1 1 from ⟨by decide, by decide⟩) (by decide) (by decide) (by decide) (by decide)) (by decide) (by decide)))
set_option maxRecDepth 100000 in
set_option maxHeartbeats 2000000 in
theorem s_X3_bodiesWithout (v_g_cells : Int32) (v_g_passes : Int32) (v_g_passFrom : (Nat → Int32)) (v_g_passTo : (Nat → Int32)) (q1 : Int32) (u0 : rg v_g_cells 0 12) (u1 : rg v_g_passes 0 20) (u2 : ac v_g_passFrom v_g_passes 0 11) (u3 : ac v_g_passTo v_g_passes 0 11) : ok (f_X3_bodiesWithout v_g_cells v_g_passes v_g_passFrom v_g_passTo q1) P_X3_bodiesWithout := by
  unfold f_X3_bodiesWithout
  exact s_X3_bodiesWithout_b7 v_g_cells v_g_passes v_g_passFrom v_g_passTo u0 u1 u2 u3 _ q1 (0 : Int32) (0 : Int32) (0 : Int32) (rg_w (show rg (0 : Int32) 0 0 from ⟨by decide, by decide⟩) (by decide) (by decide)) (fu_up (a := 0) (h := 12) (rg_w (show rg (0 : Int32) 0 0 from ⟨by decide, by decide⟩) (by decide) (by decide)) (by decide))

abbrev P_X3_become  : Int32 × Int32 × Int32 × Int32 × Int32 × (Nat → Int32) × (Nat → Int32) × (Nat → Int32) × (Nat → Int32) × (Nat → Int32) × (Nat → Int32) × (Nat → Int32) × (Nat → Int32) × (Nat → Int32) × (Nat → Int32) × (Nat → Int32) × (Nat → Int32) × (Nat → Int32) × (Nat → Int32) × (Nat → Int32) → Prop := (fun o : Int32 × Int32 × Int32 × Int32 × Int32 × (Nat → Int32) × (Nat → Int32) × (Nat → Int32) × (Nat → Int32) × (Nat → Int32) × (Nat → Int32) × (Nat → Int32) × (Nat → Int32) × (Nat → Int32) × (Nat → Int32) × (Nat → Int32) × (Nat → Int32) × (Nat → Int32) × (Nat → Int32) × (Nat → Int32) => rg o.1 0 12 ∧ rg o.2.1 0 20 ∧ rg o.2.2.1 0 3 ∧ rg o.2.2.2.1 0 6 ∧ rg o.2.2.2.2.1 0 14 ∧ ac o.2.2.2.2.2.2.2.2.1 o.2.1 0 11 ∧ ac o.2.2.2.2.2.2.2.2.2.1 o.2.1 0 11 ∧ ac o.2.2.2.2.2.2.2.2.2.2.2.1 o.2.2.1 0 11 ∧ ac o.2.2.2.2.2.2.2.2.2.2.2.2.2.2.2.1 o.2.2.2.1 0 11 ∧ al o.2.2.2.2.2.2.2.2.2.2.2.2.2.2.2.2.2.1 0 400 ∧ True)
set_option maxRecDepth 100000 in
set_option maxHeartbeats 2000000 in
theorem s_X3_become (v_o_cells : Int32) (v_o_passes : Int32) (v_o_rivers : Int32) (v_o_villages : Int32) (v_o_rains : Int32) (v_o_room : (Nat → Int32)) (v_o_water : (Nat → Int32)) (v_o_ways : (Nat → Int32)) (v_o_passFrom : (Nat → Int32)) (v_o_passTo : (Nat → Int32)) (v_o_passWidth : (Nat → Int32)) (v_o_riverCell : (Nat → Int32)) (v_o_riverLevel : (Nat → Int32)) (v_o_riverWidth : (Nat → Int32)) (v_o_riverSalt : (Nat → Int32)) (v_o_villageCell : (Nat → Int32)) (v_o_need : (Nat → Int32)) (v_o_lawEnd : (Nat → Int32)) (v_o_code : (Nat → Int32)) (v_o_rain : (Nat → Int32)) (v_g_cells : Int32) (v_g_passes : Int32) (v_g_rivers : Int32) (v_g_villages : Int32) (v_g_rains : Int32) (v_g_room : (Nat → Int32)) (v_g_water : (Nat → Int32)) (v_g_ways : (Nat → Int32)) (v_g_passFrom : (Nat → Int32)) (v_g_passTo : (Nat → Int32)) (v_g_passWidth : (Nat → Int32)) (v_g_riverCell : (Nat → Int32)) (v_g_riverLevel : (Nat → Int32)) (v_g_riverWidth : (Nat → Int32)) (v_g_riverSalt : (Nat → Int32)) (v_g_villageCell : (Nat → Int32)) (v_g_need : (Nat → Int32)) (v_g_lawEnd : (Nat → Int32)) (v_g_code : (Nat → Int32)) (v_g_rain : (Nat → Int32)) (u0 : rg v_o_cells 0 12) (u1 : rg v_o_passes 0 20) (u2 : rg v_o_rivers 0 3) (u3 : rg v_o_villages 0 6) (u4 : rg v_o_rains 0 14) (u5 : ac v_o_passFrom v_o_passes 0 11) (u6 : ac v_o_passTo v_o_passes 0 11) (u7 : ac v_o_riverCell v_o_rivers 0 11) (u8 : ac v_o_villageCell v_o_villages 0 11) (u9 : al v_o_lawEnd 0 400) (u10 : rg v_g_cells 0 12) (u11 : rg v_g_passes 0 20) (u12 : rg v_g_rivers 0 3) (u13 : rg v_g_villages 0 6) (u14 : rg v_g_rains 0 14) (u15 : ac v_g_passFrom v_g_passes 0 11) (u16 : ac v_g_passTo v_g_passes 0 11) (u17 : ac v_g_riverCell v_g_rivers 0 11) (u18 : ac v_g_villageCell v_g_villages 0 11) (u19 : al v_g_lawEnd 0 400) : ok (f_X3_become v_o_cells v_o_passes v_o_rivers v_o_villages v_o_rains v_o_room v_o_water v_o_ways v_o_passFrom v_o_passTo v_o_passWidth v_o_riverCell v_o_riverLevel v_o_riverWidth v_o_riverSalt v_o_villageCell v_o_need v_o_lawEnd v_o_code v_o_rain v_g_cells v_g_passes v_g_rivers v_g_villages v_g_rains v_g_room v_g_water v_g_ways v_g_passFrom v_g_passTo v_g_passWidth v_g_riverCell v_g_riverLevel v_g_riverWidth v_g_riverSalt v_g_villageCell v_g_need v_g_lawEnd v_g_code v_g_rain) P_X3_become := by
  unfold f_X3_become
  refine ok_nm (fun a_1 ea_1 => ?_)
  refine ok_nm (fun a_2 ea_2 => ?_)
  refine ok_nm (fun a_3 ea_3 => ?_)
  refine ok_nm (fun a_4 ea_4 => ?_)
  refine ok_nm (fun a_5 ea_5 => ?_)
  refine ok_nm (fun a_6 ea_6 => ?_)
  refine ok_nm (fun a_7 ea_7 => ?_)
  refine ok_nm (fun a_8 ea_8 => ?_)
  refine ok_nm (fun a_9 ea_9 => ?_)
  refine ok_nm (fun a_10 ea_10 => ?_)
  refine ok_nm (fun a_11 ea_11 => ?_)
  refine ok_nm (fun a_12 ea_12 => ?_)
  refine ok_nm (fun a_13 ea_13 => ?_)
  refine ok_nm (fun a_14 ea_14 => ?_)
  refine ok_nm (fun a_15 ea_15 => ?_)
  exact ok_some ⟨u0, u1, u2, u3, u4, (ac_cpy ea_4 u5 u1 (by decide)), (ac_cpy ea_5 u6 u1 (by decide)), (ac_cpy ea_7 u7 u2 (by decide)), (ac_cpy ea_11 u8 u3 (by decide)), (al_cpy (c := 0) (d := 400) ea_13 u9 u19), trivial⟩

abbrev P_X4_setAsTold  : Int32 × (Nat → Int32) × (Nat → Int32) × (Nat → Int32) × (Nat → Int32) → Prop := (fun o : Int32 × (Nat → Int32) × (Nat → Int32) × (Nat → Int32) × (Nat → Int32) => rg o.1 (-1) 11 ∧ True)
set_option maxRecDepth 100000 in
set_option maxHeartbeats 2000000 in
theorem s_X4_setAsTold (v_g_passWidth : (Nat → Int32)) (v_g_riverWidth : (Nat → Int32)) (v_g_rain : (Nat → Int32)) (v_p_pumpCell : Int32) (v_p_wanting : (Nat → Int32)) (v_p_passWidth : (Nat → Int32)) (v_p_riverWidth : (Nat → Int32)) (v_p_rain : (Nat → Int32)) (u0 : rg v_p_pumpCell (-1) 11) : ok (f_X4_setAsTold v_g_passWidth v_g_riverWidth v_g_rain v_p_pumpCell v_p_wanting v_p_passWidth v_p_riverWidth v_p_rain) P_X4_setAsTold := by
  unfold f_X4_setAsTold
  refine ok_bd (s_J7_fill_53178_6 v_p_wanting (-1 : Int32)) (fun o_1 p1 => ?_)
  refine ok_nm (fun a_2 ea_2 => ?_)
  refine ok_nm (fun a_3 ea_3 => ?_)
  refine ok_nm (fun a_4 ea_4 => ?_)
  exact ok_some ⟨(rg_w (show rg (-1 : Int32) (-1) (-1) from ⟨by decide, by decide⟩) (by decide) (by decide)), trivial⟩

abbrev P_X4_change  : (Nat → Int32) × (Nat → Int32) × (Nat → Int32) → Prop := (fun o : (Nat → Int32) × (Nat → Int32) × (Nat → Int32) => True)
set_option maxRecDepth 100000 in
set_option maxHeartbeats 2000000 in
theorem s_X4_change_b48   (v_p_wanting : (Nat → Int32)) (v_p_passWidth : (Nat → Int32)) (v_p_riverWidth : (Nat → Int32)) (x1 : Int32) (x2 : Int32)  (u0 : rg x2 0 2147483647)  : ok (f_X4_change_b48  v_p_wanting v_p_passWidth v_p_riverWidth x1 x2) P_X4_change := by
  unfold f_X4_change_b48
  refine ok_if (fun c1 => ?_) (fun c1 => ?_)
  · have w2 : rg x1 2 2 := rg_lex (ti_eq c1) (rg_ley (ti_eq2 c1) (show rg (2 : Int32) 2 2 from ⟨by decide, by decide⟩) (rg_any x1)) (show rg (2 : Int32) 2 2 from ⟨by decide, by decide⟩)
    refine ok_if (fun c3 => ?_) (fun c3 => ?_)
    · have w4 : rg x2 3 2147483647 := rg_ley (ti_le c3) (show rg (3 : Int32) 3 3 from ⟨by decide, by decide⟩) u0
      exact ok_some trivial
    · have w5 : rg x2 0 2 := rg_ltx 2 (ti_nle c3) u0 (show rg (3 : Int32) 3 3 from ⟨by decide, by decide⟩) (by decide)
      refine ok_ck (inb_rg w5 (by decide) (by decide)) ?_
      refine ok_nm (fun a_4 ea_4 => ?_)
      exact ok_some trivial
  · exact ok_some trivial
set_option maxRecDepth 100000 in
set_option maxHeartbeats 2000000 in
theorem s_X4_change_b24   (v_p_wanting : (Nat → Int32)) (v_p_passWidth : (Nat → Int32)) (v_p_riverWidth : (Nat → Int32)) (x1 : Int32) (x2 : Int32)  (u0 : rg x2 0 2147483647)  : ok (f_X4_change_b24  v_p_wanting v_p_passWidth v_p_riverWidth x1 x2) P_X4_change := by
  unfold f_X4_change_b24
  refine ok_if (fun c1 => ?_) (fun c1 => ?_)
  · have w2 : rg x1 1 1 := rg_lex (ti_eq c1) (rg_ley (ti_eq2 c1) (show rg (1 : Int32) 1 1 from ⟨by decide, by decide⟩) (rg_any x1)) (show rg (1 : Int32) 1 1 from ⟨by decide, by decide⟩)
    refine ok_if (fun c3 => ?_) (fun c3 => ?_)
    · have w4 : rg x2 20 2147483647 := rg_ley (ti_le c3) (show rg (20 : Int32) 20 20 from ⟨by decide, by decide⟩) u0
      exact s_X4_change_b48 v_p_wanting v_p_passWidth v_p_riverWidth x1 x2 (rg_w w4 (by decide) (by decide))
    · have w5 : rg x2 0 19 := rg_ltx 19 (ti_nle c3) u0 (show rg (20 : Int32) 20 20 from ⟨by decide, by decide⟩) (by decide)
      refine ok_ck (inb_rg w5 (by decide) (by decide)) ?_
      refine ok_nm (fun a_4 ea_4 => ?_)
      exact ok_some trivial
  · exact s_X4_change_b48 v_p_wanting v_p_passWidth v_p_riverWidth x1 x2 u0
set_option maxRecDepth 100000 in
set_option maxHeartbeats 2000000 in
theorem s_X4_change (v_p_wanting : (Nat → Int32)) (v_p_passWidth : (Nat → Int32)) (v_p_riverWidth : (Nat → Int32)) (q1 : Int32) (q2 : Int32) (u0 : rg q2 0 2147483647) : ok (f_X4_change v_p_wanting v_p_passWidth v_p_riverWidth q1 q2) P_X4_change := by
  unfold f_X4_change
  refine ok_if (fun c1 => ?_) (fun c1 => ?_)
  · have w2 : rg q1 0 0 := rg_lex (ti_eq c1) (rg_ley (ti_eq2 c1) (show rg (0 : Int32) 0 0 from ⟨by decide, by decide⟩) (rg_any q1)) (show rg (0 : Int32) 0 0 from ⟨by decide, by decide⟩)
    refine ok_if (fun c3 => ?_) (fun c3 => ?_)
    · have w4 : rg q2 6 2147483647 := rg_ley (ti_le c3) (show rg (6 : Int32) 6 6 from ⟨by decide, by decide⟩) u0
      exact s_X4_change_b24 v_p_wanting v_p_passWidth v_p_riverWidth q1 q2 (rg_w w4 (by decide) (by decide))
    · have w5 : rg q2 0 5 := rg_ltx 5 (ti_nle c3) u0 (show rg (6 : Int32) 6 6 from ⟨by decide, by decide⟩) (by decide)
      refine ok_ck (inb_rg w5 (by decide) (by decide)) ?_
      refine ok_nm (fun a_4 ea_4 => ?_)
      exact ok_some trivial
  · exact s_X4_change_b24 v_p_wanting v_p_passWidth v_p_riverWidth q1 q2 u0

abbrev P_X4_letTake  : (Nat → Int32) → Prop := (fun o : (Nat → Int32) => True)
set_option maxRecDepth 100000 in
set_option maxHeartbeats 2000000 in
theorem s_X4_letTake_b2    : ∀ (n : Nat) (v_p_wanting : (Nat → Int32)) (x1 : Int32) (x2 : Int32) (u0 : rg x2 0 6)  (hm : (6 - x2.toInt).toNat < n), ok (f_X4_letTake_b2  n v_p_wanting x1 x2) P_X4_letTake := by
  intro n
  induction n with
  | zero =>
    intro v_p_wanting x1 x2 u0 hm
    exact absurd hm (Nat.not_lt_zero _)
  | succ n ih =>
    intro v_p_wanting x1 x2 u0 hm
    show ok (f_X4_letTake_b2_st (f_X4_letTake_b2  n)  v_p_wanting x1 x2) P_X4_letTake
    unfold f_X4_letTake_b2_st
    refine ok_if (fun c1 => ?_) (fun c1 => ?_)
    · have w2 : rg x2 6 6 := rg_ley (ti_le c1) (show rg (6 : Int32) 6 6 from ⟨by decide, by decide⟩) u0
      exact ok_some trivial
    · have w3 : rg x2 0 5 := rg_ltx 5 (ti_nle c1) u0 (show rg (6 : Int32) 6 6 from ⟨by decide, by decide⟩) (by decide)
      refine ok_bd (s_X6_has x1 x2) (fun o_2 p4 => ?_)
      have g5 : rg o_2 0 1 := p4.1
      refine ok_if (fun c6 => ?_) (fun c6 => ?_)
      · have w7 : rg o_2 0 0 := rg_lex (ti_eq c6) (rg_ley (ti_eq2 c6) (show rg (0 : Int32) 0 0 from ⟨by decide, by decide⟩) g5) (show rg (0 : Int32) 0 0 from ⟨by decide, by decide⟩)
        refine ok_ck (inb_rg w3 (by decide) (by decide)) ?_
        refine ok_nm (fun a_5 ea_5 => ?_)
        exact ih a_5 x1 (x2 + (1 : Int32)) (rg_w (rg_add (e := 1) (f := 6) w3 (show rg (1 : Int32) 1 1 from ⟨by decide, by decide⟩) (by decide) (by decide) (by decide) (by decide)) (by decide) (by decide)) (ms_up (y := (x2 + (1 : Int32))) (a := 0) hm (lt_ad w3 (show rg (1 : Int32) 1 1 from ⟨by decide, by decide⟩) (by decide) (by decide) (by decide)) (rg_w (rg_add (e := 1) (f := 6) w3 (show rg (1 : Int32) 1 1 from ⟨by decide, by decide⟩) (by decide) (by decide) (by decide) (by decide)) (by decide) (by decide)))
      · have w8 : rg o_2 1 1 := rg_nel 1 c6 g5 (show rg (0 : Int32) 0 0 from ⟨by decide, by decide⟩) (by decide)
        refine ok_ck (inb_rg w3 (by decide) (by decide)) ?_
        refine ok_nm (fun a_7 ea_7 => ?_)
        exact ih a_7 x1 (x2 + (1 : Int32)) (rg_w (rg_add (e := 1) (f := 6) w3 (show rg (1 : Int32) 1 1 from ⟨by decide, by decide⟩) (by decide) (by decide) (by decide) (by decide)) (by decide) (by decide)) (ms_up (y := (x2 + (1 : Int32))) (a := 0) hm (lt_ad w3 (show rg (1 : Int32) 1 1 from ⟨by decide, by decide⟩) (by decide) (by decide) (by decide)) (rg_w (rg_add (e := 1) (f := 6) w3 (show rg (1 : Int32) 1 1 from ⟨by decide, by decide⟩) (by decide) (by decide) (by decide) (by decide)) (by decide) (by decide)))
set_option maxRecDepth 100000 in
set_option maxHeartbeats 2000000 in
theorem s_X4_letTake (v_p_wanting : (Nat → Int32)) (q1 : Int32)  : ok (f_X4_letTake v_p_wanting q1) P_X4_letTake := by
  unfold f_X4_letTake
  exact s_X4_letTake_b2 _ v_p_wanting q1 (0 : Int32) (rg_w (show rg (0 : Int32) 0 0 from ⟨by decide, by decide⟩) (by decide) (by decide)) (fu_up (a := 0) (h := 6) (rg_w (show rg (0 : Int32) 0 0 from ⟨by decide, by decide⟩) (by decide) (by decide)) (by decide))

abbrev P_X4_setPump  : Int32 × Int32 × Int32 × Int32 → Prop := (fun o : Int32 × Int32 × Int32 × Int32 => rg o.1 (-1) 11 ∧ rg o.2.2.1 0 13 ∧ True)
set_option maxRecDepth 100000 in
set_option maxHeartbeats 2000000 in
theorem s_X4_setPump (v_p_pumpCell : Int32) (v_p_pumpTakes : Int32) (v_p_pumpFrom : Int32) (v_p_pumpTo : Int32) (q1 : Int32) (q2 : Int32) (q3 : Int32) (q4 : Int32) (u0 : rg v_p_pumpCell (-1) 11) (u1 : rg v_p_pumpFrom 0 13) (u2 : rg q1 (-1) 11) (u3 : rg q3 0 13) : ok (f_X4_setPump v_p_pumpCell v_p_pumpTakes v_p_pumpFrom v_p_pumpTo q1 q2 q3 q4) P_X4_setPump := by
  unfold f_X4_setPump
  exact ok_some ⟨u2, u3, trivial⟩

abbrev P_X4_pumpsOn (v_p_pumpCell : Int32) : Int32 → Prop := (fun o : Int32 => rg o 0 1 ∧ (o = 0 ∨ (rg v_p_pumpCell 0 2147483647)) ∧ True)
set_option maxRecDepth 100000 in
set_option maxHeartbeats 2000000 in
theorem s_X4_pumpsOn (v_p_pumpCell : Int32) (v_p_pumpFrom : Int32) (v_p_pumpTo : Int32) (q1 : Int32) (u0 : rg v_p_pumpCell (-1) 11) (u1 : rg v_p_pumpFrom 0 13) : ok (f_X4_pumpsOn v_p_pumpCell v_p_pumpFrom v_p_pumpTo q1) (P_X4_pumpsOn v_p_pumpCell) := by
  unfold f_X4_pumpsOn
  refine ok_if (fun c1 => ?_) (fun c1 => ?_)
  · have w2 : rg v_p_pumpCell (-1) (-1) := rg_lex (ti_eq c1) (rg_ley (ti_eq2 c1) (show rg (-1 : Int32) (-1) (-1) from ⟨by decide, by decide⟩) u0) (show rg (-1 : Int32) (-1) (-1) from ⟨by decide, by decide⟩)
    exact ok_some ⟨(rg_w (show rg (0 : Int32) 0 0 from ⟨by decide, by decide⟩) (by decide) (by decide)), (Or.inl rfl), trivial⟩
  · have w3 : rg v_p_pumpCell 0 11 := rg_nel 0 c1 u0 (show rg (-1 : Int32) (-1) (-1) from ⟨by decide, by decide⟩) (by decide)
    refine ok_if (fun c4 => ?_) (fun c4 => ?_)
    · have w5 : rg q1 (-2147483648) 12 := rg_ltx 12 (ti_lt c4) (rg_any q1) u1 (by decide)
      exact ok_some ⟨(rg_w (show rg (0 : Int32) 0 0 from ⟨by decide, by decide⟩) (by decide) (by decide)), (Or.inl rfl), trivial⟩
    · have w6 : rg q1 0 2147483647 := rg_ley (ti_nlt c4) u1 (rg_any q1)
      refine ok_if (fun c7 => ?_) (fun c7 => ?_)
      · have w8 : rg v_p_pumpTo (-2147483648) 2147483646 := rg_ltx 2147483646 (ti_lt c7) (rg_any v_p_pumpTo) w6 (by decide)
        exact ok_some ⟨(rg_w (show rg (0 : Int32) 0 0 from ⟨by decide, by decide⟩) (by decide) (by decide)), (Or.inl rfl), trivial⟩
      · have w9 : rg v_p_pumpTo 0 2147483647 := rg_ley (ti_nlt c7) w6 (rg_any v_p_pumpTo)
        exact ok_some ⟨(rg_w (show rg (1 : Int32) 1 1 from ⟨by decide, by decide⟩) (by decide) (by decide)), (Or.inr (rg_w w3 (by decide) (by decide))), trivial⟩

abbrev P_X0_joined  : Int32 → Prop := (fun o : Int32 => True)
set_option maxRecDepth 100000 in
set_option maxHeartbeats 2000000 in
theorem s_X0_joined (q0 : Int32) (q1 : Int32) (q2 : Int32)  : ok (f_X0_joined q0 q1 q2) P_X0_joined := by
  unfold f_X0_joined
  refine ok_if (fun c1 => ?_) (fun c1 => ?_)
  · have w2 : rg q0 (-3) (-3) := rg_lex (ti_eq c1) (rg_ley (ti_eq2 c1) (show rg (-3 : Int32) (-3) (-3) from ⟨by decide, by decide⟩) (rg_any q0)) (show rg (-3 : Int32) (-3) (-3) from ⟨by decide, by decide⟩)
    exact ok_some trivial
  · refine ok_if (fun c3 => ?_) (fun c3 => ?_)
    · have w4 : rg q0 (-2) (-2) := rg_lex (ti_eq c3) (rg_ley (ti_eq2 c3) (show rg (-2 : Int32) (-2) (-2) from ⟨by decide, by decide⟩) (rg_any q0)) (show rg (-2 : Int32) (-2) (-2) from ⟨by decide, by decide⟩)
      exact ok_some trivial
    · refine ok_if (fun c5 => ?_) (fun c5 => ?_)
      · have w6 : rg q0 (-1) (-1) := rg_lex (ti_eq c5) (rg_ley (ti_eq2 c5) (show rg (-1 : Int32) (-1) (-1) from ⟨by decide, by decide⟩) (rg_any q0)) (show rg (-1 : Int32) (-1) (-1) from ⟨by decide, by decide⟩)
        exact ok_some trivial
      · refine ok_if (fun c7 => ?_) (fun c7 => ?_)
        · have w8 : rg q2 0 0 := rg_lex (ti_eq c7) (rg_ley (ti_eq2 c7) (show rg (0 : Int32) 0 0 from ⟨by decide, by decide⟩) (rg_any q2)) (show rg (0 : Int32) 0 0 from ⟨by decide, by decide⟩)
          exact ok_some trivial
        · refine ok_ck (nz_of c7) ?_
          exact ok_some trivial

abbrev P_X0_saltAlong  : Int64 → Prop := (fun o : Int64 => True)
set_option maxRecDepth 100000 in
set_option maxHeartbeats 2000000 in
theorem s_X0_saltAlong (v_c_water : (Nat → Int32)) (v_c_salt : (Nat → Int64)) (q1 : Int32) (q2 : Int32) (u0 : rg q1 0 11) : ok (f_X0_saltAlong v_c_water v_c_salt q1 q2) P_X0_saltAlong := by
  unfold f_X0_saltAlong
  refine ok_ck (inb_rg u0 (by decide) (by decide)) ?_
  refine ok_if (fun c1 => ?_) (fun c1 => ?_)
  · have w2 : rg (lg_cmp (v_c_salt q1.toNatClampNeg) (0 : Int64)) 0 0 := rg_lex (ti_eq c1) (rg_ley (ti_eq2 c1) (show rg (0 : Int32) 0 0 from ⟨by decide, by decide⟩) (rg_any (lg_cmp (v_c_salt q1.toNatClampNeg) (0 : Int64)))) (show rg (0 : Int32) 0 0 from ⟨by decide, by decide⟩)
    exact ok_some trivial
  · refine ok_ck (inb_rg u0 (by decide) (by decide)) ?_
    refine ok_if (fun c3 => ?_) (fun c3 => ?_)
    · have w4 : rg (v_c_water q1.toNatClampNeg) 1 2147483647 := rg_ley (ti_le c3) (show rg (1 : Int32) 1 1 from ⟨by decide, by decide⟩) (rg_any (v_c_water q1.toNatClampNeg))
      refine ok_ck (inb_rg u0 (by decide) (by decide)) ?_
      refine ok_ck (inb_rg u0 (by decide) (by decide)) ?_
      refine ok_ck (nzl_rg w4 (by decide)) ?_
      exact ok_some trivial
    · have w5 : rg (v_c_water q1.toNatClampNeg) (-2147483648) 0 := rg_ltx 0 (ti_nle c3) (rg_any (v_c_water q1.toNatClampNeg)) (show rg (1 : Int32) 1 1 from ⟨by decide, by decide⟩) (by decide)
      exact ok_some trivial

abbrev P_X0_rainOf  : Int32 → Prop := (fun o : Int32 => True)
set_option maxRecDepth 100000 in
set_option maxHeartbeats 2000000 in
theorem s_X0_rainOf (v_g_rains : Int32) (v_p_rain : (Nat → Int32)) (q1 : Int32) (u0 : rg v_g_rains 0 14) : ok (f_X0_rainOf v_g_rains v_p_rain q1) P_X0_rainOf := by
  unfold f_X0_rainOf
  refine ok_if (fun c1 => ?_) (fun c1 => ?_)
  · have w2 : rg v_g_rains 1 14 := rg_ley (ti_le c1) (show rg (1 : Int32) 1 1 from ⟨by decide, by decide⟩) u0
    refine ok_bd (s_J9_floorMod_7cf53 q1 v_g_rains (rg_w w2 (by decide) (by decide))) (fun o_2 p3 => ?_)
    have g4 : rg o_2 0 2147483647 := p3.1
    have g5 : o_2.toInt < v_g_rains.toInt := p3.2.1
    have w6 : rg o_2 0 13 := rg_ltx 13 g5 g4 w2 (by decide)
    refine ok_ck (inb_rg w6 (by decide) (by decide)) ?_
    exact ok_some trivial
  · have w7 : rg v_g_rains 0 0 := rg_ltx 0 (ti_nle c1) u0 (show rg (1 : Int32) 1 1 from ⟨by decide, by decide⟩) (by decide)
    exact ok_some trivial

abbrev P_X0_valueOf  : Int32 → Prop := (fun o : Int32 => True)
set_option maxRecDepth 100000 in
set_option maxHeartbeats 2000000 in
theorem s_X0_valueOf (v_c_today : Int32) (v_d_day : Int32) (v_d_seen : (Nat → Int32)) (v_d_took : (Nat → Int32)) (v_d_dryDays : (Nat → Int32)) (q1 : Int32) (q3 : Int32) (u0 : rg q3 0 5) : ok (f_X0_valueOf v_c_today v_d_day v_d_seen v_d_took v_d_dryDays q1 q3) P_X0_valueOf := by
  unfold f_X0_valueOf
  refine ok_if (fun c1 => ?_) (fun c1 => ?_)
  · have w2 : rg q1 (-8) (-8) := rg_lex (ti_eq c1) (rg_ley (ti_eq2 c1) (show rg (-8 : Int32) (-8) (-8) from ⟨by decide, by decide⟩) (rg_any q1)) (show rg (-8 : Int32) (-8) (-8) from ⟨by decide, by decide⟩)
    refine ok_ck (inb_rg u0 (by decide) (by decide)) ?_
    exact ok_some trivial
  · refine ok_if (fun c3 => ?_) (fun c3 => ?_)
    · have w4 : rg q1 (-7) (-7) := rg_lex (ti_eq c3) (rg_ley (ti_eq2 c3) (show rg (-7 : Int32) (-7) (-7) from ⟨by decide, by decide⟩) (rg_any q1)) (show rg (-7 : Int32) (-7) (-7) from ⟨by decide, by decide⟩)
      refine ok_ck (inb_rg u0 (by decide) (by decide)) ?_
      exact ok_some trivial
    · refine ok_if (fun c5 => ?_) (fun c5 => ?_)
      · have w6 : rg q1 (-6) (-6) := rg_lex (ti_eq c5) (rg_ley (ti_eq2 c5) (show rg (-6 : Int32) (-6) (-6) from ⟨by decide, by decide⟩) (rg_any q1)) (show rg (-6 : Int32) (-6) (-6) from ⟨by decide, by decide⟩)
        exact ok_some trivial
      · refine ok_if (fun c7 => ?_) (fun c7 => ?_)
        · have w8 : rg q1 (-5) (-5) := rg_lex (ti_eq c7) (rg_ley (ti_eq2 c7) (show rg (-5 : Int32) (-5) (-5) from ⟨by decide, by decide⟩) (rg_any q1)) (show rg (-5 : Int32) (-5) (-5) from ⟨by decide, by decide⟩)
          exact ok_some trivial
        · refine ok_if (fun c9 => ?_) (fun c9 => ?_)
          · have w10 : rg ((-20 : Int32) - q1) (-2147483648) (-1) := rg_ltx (-1) (ti_lt c9) (rg_any ((-20 : Int32) - q1)) (show rg (0 : Int32) 0 0 from ⟨by decide, by decide⟩) (by decide)
            exact ok_some trivial
          · have w11 : rg ((-20 : Int32) - q1) 0 2147483647 := rg_ley (ti_nlt c9) (show rg (0 : Int32) 0 0 from ⟨by decide, by decide⟩) (rg_any ((-20 : Int32) - q1))
            refine ok_if (fun c12 => ?_) (fun c12 => ?_)
            · have w13 : rg ((-20 : Int32) - q1) 0 11 := rg_ltx 11 (ti_lt c12) w11 (show rg (12 : Int32) 12 12 from ⟨by decide, by decide⟩) (by decide)
              refine ok_ck (inb_rg w13 (by decide) (by decide)) ?_
              exact ok_some trivial
            · have w14 : rg ((-20 : Int32) - q1) 12 2147483647 := rg_ley (ti_nlt c12) (show rg (12 : Int32) 12 12 from ⟨by decide, by decide⟩) w11
              exact ok_some trivial

abbrev P_X0_wantOf  : Int32 × (Nat → Int32) → Prop := (fun o : Int32 × (Nat → Int32) => rg o.1 0 2147483647 ∧ True)
set_option maxRecDepth 100000 in
set_option maxHeartbeats 2000000 in
theorem s_X0_wantOf_b155 (k56 : (Nat → Int32) → Int32 → Int32 → Int32 → Int32 → Option (Int32 × (Nat → Int32))) (v_c_today : Int32) (v_g_code : (Nat → Int32)) (v_d_day : Int32) (v_d_seen : (Nat → Int32)) (v_d_took : (Nat → Int32)) (v_d_dryDays : (Nat → Int32)) (v_c_stack : (Nat → Int32)) (x2 : Int32) (x3 : Int32) (x4 : Int32) (x5 : Int32) (x6 : Int32)  (u0 : rg x2 0 5) (u1 : rg x3 2 16) (u2 : rg x4 1 400) (u3 : rg x5 0 399) (u4 : rg x6 (-4) (-1)) (u5 : x5.toInt < x4.toInt) (u6 : x6.toInt < x2.toInt) (u7 : x6.toInt < x3.toInt) (u8 : x6.toInt < x4.toInt) (u9 : x6.toInt < x5.toInt) (u10 : rg (v_g_code x5.toNatClampNeg) (-4) (-1)) (hk56 : ∀ (v_c_stack' : (Nat → Int32)) (x2' : Int32) (x3' : Int32) (x4' : Int32) (x5' : Int32), rg x2' 0 5 → rg x3' 0 16 → rg x4' 0 400 → rg x5' 0 400 → x5.toInt < x5'.toInt → ok (k56 v_c_stack' x2' x3' x4' x5') P_X0_wantOf) : ok (f_X0_wantOf_b155 k56 v_c_today v_g_code v_d_day v_d_seen v_d_took v_d_dryDays v_c_stack x2 x3 x4 x5 x6) P_X0_wantOf := by
  unfold f_X0_wantOf_b155
  refine ok_ck (inb_rg (rg_sub (e := 0) (f := 14) (rg_add (e := 1) (f := 15) u1 (show rg (-1 : Int32) (-1) (-1) from ⟨by decide, by decide⟩) (by decide) (by decide) (by decide) (by decide)) (show rg (1 : Int32) 1 1 from ⟨by decide, by decide⟩) (by decide) (by decide) (by decide) (by decide)) (by decide) (by decide)) ?_
  refine ok_ck (inb_rg (rg_add (e := 1) (f := 15) u1 (show rg (-1 : Int32) (-1) (-1) from ⟨by decide, by decide⟩) (by decide) (by decide) (by decide) (by decide)) (by decide) (by decide)) ?_
  refine ok_bd (s_X0_joined x6 (v_c_stack ((x3 + (-1 : Int32)) - (1 : Int32)).toNatClampNeg) (v_c_stack (x3 + (-1 : Int32)).toNatClampNeg)) (fun o_3 p1 => ?_)
  refine ok_ck (inb_rg (rg_sub (e := 0) (f := 14) (rg_add (e := 1) (f := 15) u1 (show rg (-1 : Int32) (-1) (-1) from ⟨by decide, by decide⟩) (by decide) (by decide) (by decide) (by decide)) (show rg (1 : Int32) 1 1 from ⟨by decide, by decide⟩) (by decide) (by decide) (by decide) (by decide)) (by decide) (by decide)) ?_
  refine ok_nm (fun a_5 ea_5 => ?_)
  exact hk56 a_5 x2 (x3 + (-1 : Int32)) x4 (x5 + (1 : Int32)) u0 (rg_w (rg_add (e := 1) (f := 15) u1 (show rg (-1 : Int32) (-1) (-1) from ⟨by decide, by decide⟩) (by decide) (by decide) (by decide) (by decide)) (by decide) (by decide)) (rg_w u2 (by decide) (by decide)) (rg_w (rg_add (e := 1) (f := 400) u3 (show rg (1 : Int32) 1 1 from ⟨by decide, by decide⟩) (by decide) (by decide) (by decide) (by decide)) (by decide) (by decide)) (lt_ad u3 (show rg (1 : Int32) 1 1 from ⟨by decide, by decide⟩) (by decide) (by decide) (by decide))
set_option maxRecDepth 100000 in
set_option maxHeartbeats 2000000 in
theorem s_X0_wantOf_b88 (k56 : (Nat → Int32) → Int32 → Int32 → Int32 → Int32 → Option (Int32 × (Nat → Int32))) (v_c_today : Int32) (v_g_code : (Nat → Int32)) (v_d_day : Int32) (v_d_seen : (Nat → Int32)) (v_d_took : (Nat → Int32)) (v_d_dryDays : (Nat → Int32)) (v_c_stack : (Nat → Int32)) (x2 : Int32) (x3 : Int32) (x4 : Int32) (x5 : Int32) (x6 : Int32)  (u0 : rg x2 0 5) (u1 : rg x3 0 16) (u2 : rg x4 1 400) (u3 : rg x5 0 399) (u4 : x5.toInt < x4.toInt) (u5 : rg (v_g_code x5.toNatClampNeg) (-2147483648) 2147483647) (hk56 : ∀ (v_c_stack' : (Nat → Int32)) (x2' : Int32) (x3' : Int32) (x4' : Int32) (x5' : Int32), rg x2' 0 5 → rg x3' 0 16 → rg x4' 0 400 → rg x5' 0 400 → x5.toInt < x5'.toInt → ok (k56 v_c_stack' x2' x3' x4' x5') P_X0_wantOf) : ok (f_X0_wantOf_b88 k56 v_c_today v_g_code v_d_day v_d_seen v_d_took v_d_dryDays v_c_stack x2 x3 x4 x5 x6) P_X0_wantOf := by
  unfold f_X0_wantOf_b88
  refine ok_if (fun c1 => ?_) (fun c1 => ?_)
  · have w2 : rg x3 0 15 := rg_ltx 15 (ti_lt c1) u1 (show rg (16 : Int32) 16 16 from ⟨by decide, by decide⟩) (by decide)
    refine ok_if (fun c3 => ?_) (fun c3 => ?_)
    · have w4 : rg x6 (-2147483648) (-1) := rg_lex (ti_le c3) (rg_any x6) (show rg (-1 : Int32) (-1) (-1) from ⟨by decide, by decide⟩)
      refine ok_bd (s_X0_valueOf v_c_today v_d_day v_d_seen v_d_took v_d_dryDays x6 x2 u0) (fun o_3 p5 => ?_)
      refine ok_ck (inb_rg w2 (by decide) (by decide)) ?_
      refine ok_nm (fun a_5 ea_5 => ?_)
      exact hk56 a_5 x2 (x3 + (1 : Int32)) x4 (x5 + (1 : Int32)) u0 (rg_w (rg_add (e := 1) (f := 16) w2 (show rg (1 : Int32) 1 1 from ⟨by decide, by decide⟩) (by decide) (by decide) (by decide) (by decide)) (by decide) (by decide)) (rg_w u2 (by decide) (by decide)) (rg_w (rg_add (e := 1) (f := 400) u3 (show rg (1 : Int32) 1 1 from ⟨by decide, by decide⟩) (by decide) (by decide) (by decide) (by decide)) (by decide) (by decide)) (lt_ad u3 (show rg (1 : Int32) 1 1 from ⟨by decide, by decide⟩) (by decide) (by decide) (by decide))
    · have w6 : rg x6 0 2147483647 := rg_lty 0 (ti_nle c3) (show rg (-1 : Int32) (-1) (-1) from ⟨by decide, by decide⟩) (rg_any x6) (by decide)
      refine ok_ck (inb_rg w2 (by decide) (by decide)) ?_
      refine ok_nm (fun a_7 ea_7 => ?_)
      exact hk56 a_7 x2 (x3 + (1 : Int32)) x4 (x5 + (1 : Int32)) u0 (rg_w (rg_add (e := 1) (f := 16) w2 (show rg (1 : Int32) 1 1 from ⟨by decide, by decide⟩) (by decide) (by decide) (by decide) (by decide)) (by decide) (by decide)) (rg_w u2 (by decide) (by decide)) (rg_w (rg_add (e := 1) (f := 400) u3 (show rg (1 : Int32) 1 1 from ⟨by decide, by decide⟩) (by decide) (by decide) (by decide) (by decide)) (by decide) (by decide)) (lt_ad u3 (show rg (1 : Int32) 1 1 from ⟨by decide, by decide⟩) (by decide) (by decide) (by decide))
  · have w7 : rg x3 16 16 := rg_ley (ti_nlt c1) (show rg (16 : Int32) 16 16 from ⟨by decide, by decide⟩) u1
    exact ok_some ⟨(rg_w (show rg (0 : Int32) 0 0 from ⟨by decide, by decide⟩) (by decide) (by decide)), trivial⟩
set_option maxRecDepth 100000 in
set_option maxHeartbeats 2000000 in
theorem s_X0_wantOf_b56  (v_c_today : Int32) (v_g_code : (Nat → Int32)) (v_d_day : Int32) (v_d_seen : (Nat → Int32)) (v_d_took : (Nat → Int32)) (v_d_dryDays : (Nat → Int32))  : ∀ (n : Nat) (v_c_stack : (Nat → Int32)) (x2 : Int32) (x3 : Int32) (x4 : Int32) (x5 : Int32) (u0 : rg x2 0 5) (u1 : rg x3 0 16) (u2 : rg x4 0 400) (u3 : rg x5 0 400)  (hm : (400 - x5.toInt).toNat < n), ok (f_X0_wantOf_b56 v_c_today v_g_code v_d_day v_d_seen v_d_took v_d_dryDays n v_c_stack x2 x3 x4 x5) P_X0_wantOf := by
  intro n
  induction n with
  | zero =>
    intro v_c_stack x2 x3 x4 x5 u0 u1 u2 u3 hm
    exact absurd hm (Nat.not_lt_zero _)
  | succ n ih =>
    intro v_c_stack x2 x3 x4 x5 u0 u1 u2 u3 hm
    show ok (f_X0_wantOf_b56_st (f_X0_wantOf_b56 v_c_today v_g_code v_d_day v_d_seen v_d_took v_d_dryDays n) v_c_today v_g_code v_d_day v_d_seen v_d_took v_d_dryDays v_c_stack x2 x3 x4 x5) P_X0_wantOf
    unfold f_X0_wantOf_b56_st
    refine ok_if (fun c1 => ?_) (fun c1 => ?_)
    · refine ok_if (fun c2 => ?_) (fun c2 => ?_)
      · have w3 : rg x3 1 16 := rg_ley (ti_le c2) (show rg (1 : Int32) 1 1 from ⟨by decide, by decide⟩) u1
        refine ok_ck (inb_rg (rg_sub (e := 0) (f := 15) w3 (show rg (1 : Int32) 1 1 from ⟨by decide, by decide⟩) (by decide) (by decide) (by decide) (by decide)) (by decide) (by decide)) ?_
        exact ok_some ⟨(rg_w (rg_max (e := 0) (f := 999) (show rg (0 : Int32) 0 0 from ⟨by decide, by decide⟩) (rg_min (e := (-2147483648)) (f := 999) (show rg (999 : Int32) 999 999 from ⟨by decide, by decide⟩) (rg_any (v_c_stack (x3 - (1 : Int32)).toNatClampNeg)) (by decide) (by decide) (by decide)) (by decide) (by decide) (by decide)) (by decide) (by decide)), trivial⟩
      · have w4 : rg x3 0 0 := rg_ltx 0 (ti_nle c2) u1 (show rg (1 : Int32) 1 1 from ⟨by decide, by decide⟩) (by decide)
        exact ok_some ⟨(rg_w (show rg (0 : Int32) 0 0 from ⟨by decide, by decide⟩) (by decide) (by decide)), trivial⟩
    · have w5 : rg x5 0 399 := rg_ltx 399 (ti_nle c1) u3 u2 (by decide)
      have w6 : rg x4 1 400 := rg_lty 1 (ti_nle c1) u3 u2 (by decide)
      refine ok_ck (inb_rg w5 (by decide) (by decide)) ?_
      refine ok_if (fun c7 => ?_) (fun c7 => ?_)
      · have w8 : rg (v_g_code x5.toNatClampNeg) 0 2147483647 := rg_lty 0 (ti_lt c7) (show rg (-1 : Int32) (-1) (-1) from ⟨by decide, by decide⟩) (rg_any (v_g_code x5.toNatClampNeg)) (by decide)
        exact s_X0_wantOf_b88 _ v_c_today v_g_code v_d_day v_d_seen v_d_took v_d_dryDays v_c_stack x2 x3 x4 x5 (v_g_code x5.toNatClampNeg) u0 u1 w6 w5 (ti_nle c1) (rg_w w8 (by decide) (by decide)) (by intro v_c_stack' x2' x3' x4' x5' f0 f1 f2 f3 lt; exact ih _ _ _ _ _ f0 f1 f2 f3 (ms_up hm lt f3))
      · have w9 : rg (v_g_code x5.toNatClampNeg) (-2147483648) (-1) := rg_lex (ti_nlt c7) (rg_any (v_g_code x5.toNatClampNeg)) (show rg (-1 : Int32) (-1) (-1) from ⟨by decide, by decide⟩)
        refine ok_if (fun c10 => ?_) (fun c10 => ?_)
        · have w11 : rg (v_g_code x5.toNatClampNeg) (-4) (-1) := rg_ley (ti_le c10) (show rg (-4 : Int32) (-4) (-4) from ⟨by decide, by decide⟩) w9
          refine ok_if (fun c12 => ?_) (fun c12 => ?_)
          · have w13 : rg x3 0 1 := rg_ltx 1 (ti_lt c12) u1 (show rg (2 : Int32) 2 2 from ⟨by decide, by decide⟩) (by decide)
            exact ok_some ⟨(rg_w (show rg (0 : Int32) 0 0 from ⟨by decide, by decide⟩) (by decide) (by decide)), trivial⟩
          · have w14 : rg x3 2 16 := rg_ley (ti_nlt c12) (show rg (2 : Int32) 2 2 from ⟨by decide, by decide⟩) u1
            refine ok_if (fun c15 => ?_) (fun c15 => ?_)
            · have w16 : rg (v_g_code x5.toNatClampNeg) (-4) (-4) := rg_lex (ti_eq c15) (rg_ley (ti_eq2 c15) (show rg (-4 : Int32) (-4) (-4) from ⟨by decide, by decide⟩) w11) (show rg (-4 : Int32) (-4) (-4) from ⟨by decide, by decide⟩)
              refine ok_ck (inb_rg (rg_sub (e := 1) (f := 15) w14 (show rg (1 : Int32) 1 1 from ⟨by decide, by decide⟩) (by decide) (by decide) (by decide) (by decide)) (by decide) (by decide)) ?_
              refine ok_if (fun c17 => ?_) (fun c17 => ?_)
              · have w18 : rg (v_c_stack (x3 - (1 : Int32)).toNatClampNeg) 0 0 := rg_lex (ti_eq c17) (rg_ley (ti_eq2 c17) (show rg (0 : Int32) 0 0 from ⟨by decide, by decide⟩) (rg_any (v_c_stack (x3 - (1 : Int32)).toNatClampNeg))) (show rg (0 : Int32) 0 0 from ⟨by decide, by decide⟩)
                exact ok_some ⟨(rg_w (show rg (0 : Int32) 0 0 from ⟨by decide, by decide⟩) (by decide) (by decide)), trivial⟩
              · exact s_X0_wantOf_b155 _ v_c_today v_g_code v_d_day v_d_seen v_d_took v_d_dryDays v_c_stack x2 x3 x4 x5 (v_g_code x5.toNatClampNeg) u0 w14 w6 w5 (rg_w w16 (by decide) (by decide)) (ti_nle c1) (Int.lt_of_le_of_lt w16.2 (Int.lt_of_lt_of_le (by decide) u0.1)) (Int.lt_of_le_of_lt w16.2 (Int.lt_of_lt_of_le (by decide) w14.1)) (Int.lt_of_le_of_lt w16.2 (Int.lt_of_lt_of_le (by decide) w6.1)) (Int.lt_of_le_of_lt w16.2 (Int.lt_of_lt_of_le (by decide) w5.1)) (rg_w w16 (by decide) (by decide)) (by intro v_c_stack' x2' x3' x4' x5' f0 f1 f2 f3 lt; exact ih _ _ _ _ _ f0 f1 f2 f3 (ms_up hm lt f3))
            · have w19 : rg (v_g_code x5.toNatClampNeg) (-3) (-1) := rg_nel (-3) c15 w11 (show rg (-4 : Int32) (-4) (-4) from ⟨by decide, by decide⟩) (by decide)
              exact s_X0_wantOf_b155 _ v_c_today v_g_code v_d_day v_d_seen v_d_took v_d_dryDays v_c_stack x2 x3 x4 x5 (v_g_code x5.toNatClampNeg) u0 w14 w6 w5 (rg_w w19 (by decide) (by decide)) (ti_nle c1) (Int.lt_of_le_of_lt w19.2 (Int.lt_of_lt_of_le (by decide) u0.1)) (Int.lt_of_le_of_lt w19.2 (Int.lt_of_lt_of_le (by decide) w14.1)) (Int.lt_of_le_of_lt w19.2 (Int.lt_of_lt_of_le (by decide) w6.1)) (Int.lt_of_le_of_lt w19.2 (Int.lt_of_lt_of_le (by decide) w5.1)) (rg_w w19 (by decide) (by decide)) (by intro v_c_stack' x2' x3' x4' x5' f0 f1 f2 f3 lt; exact ih _ _ _ _ _ f0 f1 f2 f3 (ms_up hm lt f3))
        · have w20 : rg (v_g_code x5.toNatClampNeg) (-2147483648) (-5) := rg_ltx (-5) (ti_nle c10) w9 (show rg (-4 : Int32) (-4) (-4) from ⟨by decide, by decide⟩) (by decide)
          exact s_X0_wantOf_b88 _ v_c_today v_g_code v_d_day v_d_seen v_d_took v_d_dryDays v_c_stack x2 x3 x4 x5 (v_g_code x5.toNatClampNeg) u0 u1 w6 w5 (ti_nle c1) (rg_w w20 (by decide) (by decide)) (by intro v_c_stack' x2' x3' x4' x5' f0 f1 f2 f3 lt; exact ih _ _ _ _ _ f0 f1 f2 f3 (ms_up hm lt f3))
set_option maxRecDepth 100000 in
set_option maxHeartbeats 2000000 in
theorem s_X0_wantOf (v_c_today : Int32) (v_g_lawEnd : (Nat → Int32)) (v_g_code : (Nat → Int32)) (v_p_wanting : (Nat → Int32)) (v_d_day : Int32) (v_d_seen : (Nat → Int32)) (v_d_took : (Nat → Int32)) (v_d_dryDays : (Nat → Int32)) (v_c_stack : (Nat → Int32)) (q2 : Int32) (u0 : al v_g_lawEnd 0 400) (u1 : rg q2 0 5) : ok (f_X0_wantOf v_c_today v_g_lawEnd v_g_code v_p_wanting v_d_day v_d_seen v_d_took v_d_dryDays v_c_stack q2) P_X0_wantOf := by
  unfold f_X0_wantOf
  refine ok_ck (inb_rg u1 (by decide) (by decide)) ?_
  refine ok_if (fun c1 => ?_) (fun c1 => ?_)
  · have w2 : rg (v_p_wanting q2.toNatClampNeg) (-2147483648) (-1) := rg_ltx (-1) (ti_lt c1) (rg_any (v_p_wanting q2.toNatClampNeg)) (show rg (0 : Int32) 0 0 from ⟨by decide, by decide⟩) (by decide)
    refine ok_ck (inb_rg u1 (by decide) (by decide)) ?_
    refine ok_nm (fun e_4 ee_4 => ?_)
    refine ok_bd (s_X3_lawBegin v_g_lawEnd q2 u0 u1) (fun o_5 p3 => ?_)
    have g4 : rg o_5 0 400 := p3.1
    exact s_X0_wantOf_b56 v_c_today v_g_code v_d_day v_d_seen v_d_took v_d_dryDays _ v_c_stack q2 (0 : Int32) e_4 o_5 u1 (rg_w (show rg (0 : Int32) 0 0 from ⟨by decide, by decide⟩) (by decide) (by decide)) (rg_nm ee_4 (rg_min (e := 0) (f := 400) (u0 _) (show rg (400 : Int32) 400 400 from ⟨by decide, by decide⟩) (by decide) (by decide) (by decide))) g4 (fu_up (a := 0) (h := 400) g4 (by decide))
  · have w5 : rg (v_p_wanting q2.toNatClampNeg) 0 2147483647 := rg_ley (ti_nlt c1) (show rg (0 : Int32) 0 0 from ⟨by decide, by decide⟩) (rg_any (v_p_wanting q2.toNatClampNeg))
    refine ok_ck (inb_rg u1 (by decide) (by decide)) ?_
    exact ok_some ⟨w5, trivial⟩
