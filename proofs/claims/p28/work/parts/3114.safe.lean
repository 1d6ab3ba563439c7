abbrev P_X2_greatestAlike_S  : Int32 → Prop := (fun o : Int32 => rg o 0 2147483647 ∧ True)
set_option maxRecDepth 100000 in
set_option maxHeartbeats 2000000 in
theorem s_X2_greatestAlike_S_b42 (k30 : Int32 → Int32 → Int32 → Int32 → Option (Int32)) (v_pl_0 : (Nat → Int32))  : ∀ (n : Nat) (x1 : Int32) (x2 : Int32) (x3 : Int32) (x4 : Int32) (x5 : Int32) (x6 : Int32) (u0 : rg x1 0 11) (u1 : rg x2 1 1452) (u2 : rg x3 0 2147483647) (u3 : rg x4 0 1451) (u4 : rg x6 0 1463) (u5 : x1.toInt ≤ x4.toInt) (u6 : x1.toInt ≤ x6.toInt) (u7 : x4.toInt < x2.toInt) (hk30 : ∀ (x1' : Int32) (x2' : Int32) (x3' : Int32) (x4' : Int32), rg x1' 0 11 → rg x2' 0 1452 → rg x3' 0 2147483647 → rg x4' 0 1463 → x1'.toInt ≤ x4'.toInt → x4.toInt < x4'.toInt → ok (k30 x1' x2' x3' x4') P_X2_greatestAlike_S) (hm : (1463 - x6.toInt).toNat < n), ok (f_X2_greatestAlike_S_b42 k30 v_pl_0 n x1 x2 x3 x4 x5 x6) P_X2_greatestAlike_S := by
  intro n
  induction n with
  | zero =>
    intro x1 x2 x3 x4 x5 x6 u0 u1 u2 u3 u4 u5 u6 u7 hk30 hm
    exact absurd hm (Nat.not_lt_zero _)
  | succ n ih =>
    intro x1 x2 x3 x4 x5 x6 u0 u1 u2 u3 u4 u5 u6 u7 hk30 hm
    show ok (f_X2_greatestAlike_S_b42_st (f_X2_greatestAlike_S_b42 k30 v_pl_0 n) k30 v_pl_0 x1 x2 x3 x4 x5 x6) P_X2_greatestAlike_S
    unfold f_X2_greatestAlike_S_b42_st
    refine ok_if (fun c1 => ?_) (fun c1 => ?_)
    · have w2 : rg x6 1 1463 := rg_ley (ti_le c1) u1 u4
      exact hk30 x1 x2 (if x3 < x5 then x5 else x3) (x4 + (12 : Int32)) u0 (rg_w u1 (by decide) (by decide)) (rg_max (e := 0) (f := 2147483647) u2 (rg_any x5) (by decide) (by decide) (by decide)) (rg_w (rg_add (e := 12) (f := 1463) u3 (show rg (12 : Int32) 12 12 from ⟨by decide, by decide⟩) (by decide) (by decide) (by decide) (by decide)) (by decide) (by decide)) (Int.le_trans u0.2 (Int.le_trans (by decide) (rg_add (e := 12) (f := 1463) u3 (show rg (12 : Int32) 12 12 from ⟨by decide, by decide⟩) (by decide) (by decide) (by decide) (by decide)).1)) (lt_ad u3 (show rg (12 : Int32) 12 12 from ⟨by decide, by decide⟩) (by decide) (by decide) (by decide))
    · have w3 : rg x6 0 1451 := rg_ltx 1451 (ti_nle c1) u4 u1 (by decide)
      refine ok_ck (inb_rg u3 (by decide) (by decide)) ?_
      refine ok_ck (inb_rg w3 (by decide) (by decide)) ?_
      refine ok_if (fun c4 => ?_) (fun c4 => ?_)
      · exact ih x1 x2 x3 x4 (x5 + (1 : Int32)) (x6 + (12 : Int32)) u0 u1 u2 u3 (rg_w (rg_add (e := 12) (f := 1463) w3 (show rg (12 : Int32) 12 12 from ⟨by decide, by decide⟩) (by decide) (by decide) (by decide) (by decide)) (by decide) (by decide)) u5 (Int.le_trans u0.2 (Int.le_trans (by decide) (rg_add (e := 12) (f := 1463) w3 (show rg (12 : Int32) 12 12 from ⟨by decide, by decide⟩) (by decide) (by decide) (by decide) (by decide)).1)) u7 hk30 (ms_up (y := (x6 + (12 : Int32))) (a := 0) hm (lt_ad w3 (show rg (12 : Int32) 12 12 from ⟨by decide, by decide⟩) (by decide) (by decide) (by decide)) (rg_w (rg_add (e := 12) (f := 1463) w3 (show rg (12 : Int32) 12 12 from ⟨by decide, by decide⟩) (by decide) (by decide) (by decide) (by decide)) (by decide) (by decide)))
      · exact ih x1 x2 x3 x4 x5 (x6 + (12 : Int32)) u0 u1 u2 u3 (rg_w (rg_add (e := 12) (f := 1463) w3 (show rg (12 : Int32) 12 12 from ⟨by decide, by decide⟩) (by decide) (by decide) (by decide) (by decide)) (by decide) (by decide)) u5 (Int.le_trans u0.2 (Int.le_trans (by decide) (rg_add (e := 12) (f := 1463) w3 (show rg (12 : Int32) 12 12 from ⟨by decide, by decide⟩) (by decide) (by decide) (by decide) (by decide)).1)) u7 hk30 (ms_up (y := (x6 + (12 : Int32))) (a := 0) hm (lt_ad w3 (show rg (12 : Int32) 12 12 from ⟨by decide, by decide⟩) (by decide) (by decide) (by decide)) (rg_w (rg_add (e := 12) (f := 1463) w3 (show rg (12 : Int32) 12 12 from ⟨by decide, by decide⟩) (by decide) (by decide) (by decide) (by decide)) (by decide) (by decide)))
set_option maxRecDepth 100000 in
set_option maxHeartbeats 2000000 in
theorem s_X2_greatestAlike_S_b30  (v_pl_0 : (Nat → Int32))  : ∀ (n : Nat) (x1 : Int32) (x2 : Int32) (x3 : Int32) (x4 : Int32) (u0 : rg x1 0 11) (u1 : rg x2 0 1452) (u2 : rg x3 0 2147483647) (u3 : rg x4 0 1463) (u4 : x1.toInt ≤ x4.toInt)  (hm : (1463 - x4.toInt).toNat < n), ok (f_X2_greatestAlike_S_b30 v_pl_0 n x1 x2 x3 x4) P_X2_greatestAlike_S := by
  intro n
  induction n with
  | zero =>
    intro x1 x2 x3 x4 u0 u1 u2 u3 u4 hm
    exact absurd hm (Nat.not_lt_zero _)
  | succ n ih =>
    intro x1 x2 x3 x4 u0 u1 u2 u3 u4 hm
    show ok (f_X2_greatestAlike_S_b30_st (f_X2_greatestAlike_S_b30 v_pl_0 n) v_pl_0 x1 x2 x3 x4) P_X2_greatestAlike_S
    unfold f_X2_greatestAlike_S_b30_st
    refine ok_if (fun c1 => ?_) (fun c1 => ?_)
    · exact ok_some ⟨u2, trivial⟩
    · have w2 : rg x4 0 1451 := rg_ltx 1451 (ti_nle c1) u3 u1 (by decide)
      have w3 : rg x2 1 1452 := rg_lty 1 (ti_nle c1) u3 u1 (by decide)
      exact s_X2_greatestAlike_S_b42 _ v_pl_0 _ x1 x2 x3 x4 (0 : Int32) x1 u0 w3 u2 w2 (rg_w u0 (by decide) (by decide)) u4 (Int.le_refl _) (ti_nle c1) (by intro x1' x2' x3' x4' f0 f1 f2 f3 f4 lt; exact ih _ _ _ _ f0 f1 f2 f3 f4 (ms_up hm lt f3)) (fu_up (a := 0) (h := 1463) (rg_w u0 (by decide) (by decide)) (by decide))
set_option maxRecDepth 100000 in
set_option maxHeartbeats 2000000 in
theorem s_X2_greatestAlike_S (v_e_fitting : Int32) (v_pl_0 : (Nat → Int32)) (q1 : Int32) (u0 : rg v_e_fitting 0 121) (u1 : rg q1 0 11) : ok (f_X2_greatestAlike_S v_e_fitting v_pl_0 q1) P_X2_greatestAlike_S := by
  unfold f_X2_greatestAlike_S
  refine ok_nm (fun e_1 ee_1 => ?_)
  exact s_X2_greatestAlike_S_b30 v_pl_0 _ q1 e_1 (0 : Int32) q1 u1 (rg_nm ee_1 (rg_min (e := 0) (f := 1452) (rg_mul (e := 0) (f := 1452) u0 (show rg (12 : Int32) 12 12 from ⟨by decide, by decide⟩) (by decide) (by decide) (by decide) (by decide) (by decide)) (show rg (1452 : Int32) 1452 1452 from ⟨by decide, by decide⟩) (by decide) (by decide) (by decide))) (rg_w (show rg (0 : Int32) 0 0 from ⟨by decide, by decide⟩) (by decide) (by decide)) (rg_w u1 (by decide) (by decide)) (Int.le_refl _) (fu_up (a := 0) (h := 1463) (rg_w u1 (by decide) (by decide)) (by decide))

abbrev P_X2_greatestAlike_N  : Int32 → Prop := (fun o : Int32 => rg o 0 0 ∧ True)
set_option maxRecDepth 100000 in
set_option maxHeartbeats 2000000 in
theorem s_X2_greatestAlike_N (q1 : Int32) (u0 : rg q1 0 11) : ok (f_X2_greatestAlike_N q1) P_X2_greatestAlike_N := by
  unfold f_X2_greatestAlike_N
  exact ok_some ⟨(show rg (0 : Int32) 0 0 from ⟨by decide, by decide⟩), trivial⟩

abbrev P_X2_cellThatParts_S  : Int32 → Prop := (fun o : Int32 => rg o (-2) 11 ∧ True)
set_option maxRecDepth 100000 in
set_option maxHeartbeats 2000000 in
theorem s_X2_cellThatParts_S_b8  (v_e_fitting : Int32) (v_g_cells : Int32) (v_pl_0 : (Nat → Int32)) (u0 : rg v_e_fitting 0 121) (u1 : rg v_g_cells 0 12) : ∀ (n : Nat) (x1 : Int32) (x2 : Int32) (x3 : Int32) (u2 : rg x1 (-2) 11) (u3 : rg x2 0 122) (u4 : rg x3 0 12) (u5 : x1.toInt < v_g_cells.toInt)  (hm : (12 - x3.toInt).toNat < n), ok (f_X2_cellThatParts_S_b8 v_e_fitting v_g_cells v_pl_0 n x1 x2 x3) P_X2_cellThatParts_S := by
  intro n
  induction n with
  | zero =>
    intro x1 x2 x3 u2 u3 u4 u5 hm
    exact absurd hm (Nat.not_lt_zero _)
  | succ n ih =>
    intro x1 x2 x3 u2 u3 u4 u5 hm
    show ok (f_X2_cellThatParts_S_b8_st (f_X2_cellThatParts_S_b8 v_e_fitting v_g_cells v_pl_0 n) v_e_fitting v_g_cells v_pl_0 x1 x2 x3) P_X2_cellThatParts_S
    unfold f_X2_cellThatParts_S_b8_st
    refine ok_if (fun c1 => ?_) (fun c1 => ?_)
    · exact ok_some ⟨u2, trivial⟩
    · have w2 : rg x3 0 11 := rg_ltx 11 (ti_nle c1) u4 u1 (by decide)
      have w3 : rg v_g_cells 1 12 := rg_lty 1 (ti_nle c1) u4 u1 (by decide)
      refine ok_bd (s_X2_greatestAlike_S v_e_fitting v_pl_0 x3 u0 w2) (fun o_2 p4 => ?_)
      have g5 : rg o_2 0 2147483647 := p4.1
      refine ok_if (fun c6 => ?_) (fun c6 => ?_)
      · exact ih x1 x2 (x3 + (1 : Int32)) u2 u3 (rg_w (rg_add (e := 1) (f := 12) w2 (show rg (1 : Int32) 1 1 from ⟨by decide, by decide⟩) (by decide) (by decide) (by decide) (by decide)) (by decide) (by decide)) u5 (ms_up (y := (x3 + (1 : Int32))) (a := 0) hm (lt_ad w2 (show rg (1 : Int32) 1 1 from ⟨by decide, by decide⟩) (by decide) (by decide) (by decide)) (rg_w (rg_add (e := 1) (f := 12) w2 (show rg (1 : Int32) 1 1 from ⟨by decide, by decide⟩) (by decide) (by decide) (by decide) (by decide)) (by decide) (by decide)))
      · have w7 : rg o_2 0 121 := rg_ltx 121 (ti_nle c6) g5 u3 (by decide)
        have w8 : rg x2 1 122 := rg_lty 1 (ti_nle c6) g5 u3 (by decide)
        exact ih x3 o_2 (x3 + (1 : Int32)) (rg_w w2 (by decide) (by decide)) (rg_w w7 (by decide) (by decide)) (rg_w (rg_add (e := 1) (f := 12) w2 (show rg (1 : Int32) 1 1 from ⟨by decide, by decide⟩) (by decide) (by decide) (by decide) (by decide)) (by decide) (by decide)) (ti_nle c1) (ms_up (y := (x3 + (1 : Int32))) (a := 0) hm (lt_ad w2 (show rg (1 : Int32) 1 1 from ⟨by decide, by decide⟩) (by decide) (by decide) (by decide)) (rg_w (rg_add (e := 1) (f := 12) w2 (show rg (1 : Int32) 1 1 from ⟨by decide, by decide⟩) (by decide) (by decide) (by decide) (by decide)) (by decide) (by decide)))
set_option maxRecDepth 100000 in
set_option maxHeartbeats 2000000 in
theorem s_X2_cellThatParts_S (v_e_fitting : Int32) (v_g_cells : Int32) (v_pl_0 : (Nat → Int32)) (u0 : rg v_e_fitting 0 121) (u1 : rg v_g_cells 0 12) : ok (f_X2_cellThatParts_S v_e_fitting v_g_cells v_pl_0) P_X2_cellThatParts_S := by
  unfold f_X2_cellThatParts_S
  exact s_X2_cellThatParts_S_b8 v_e_fitting v_g_cells v_pl_0 u0 u1 _ (-2 : Int32) (122 : Int32) (0 : Int32) (rg_w (show rg (-2 : Int32) (-2) (-2) from ⟨by decide, by decide⟩) (by decide) (by decide)) (rg_w (show rg (122 : Int32) 122 122 from ⟨by decide, by decide⟩) (by decide) (by decide)) (rg_w (show rg (0 : Int32) 0 0 from ⟨by decide, by decide⟩) (by decide) (by decide)) (Int.lt_of_le_of_lt (show rg (-2 : Int32) (-2) (-2) from ⟨by decide, by decide⟩).2 (Int.lt_of_lt_of_le (by decide) u1.1)) (fu_up (a := 0) (h := 12) (rg_w (show rg (0 : Int32) 0 0 from ⟨by decide, by decide⟩) (by decide) (by decide)) (by decide))

abbrev P_X2_cellThatParts_N  : Int32 → Prop := (fun o : Int32 => rg o (-2) 11 ∧ True)
set_option maxRecDepth 100000 in
set_option maxHeartbeats 2000000 in
theorem s_X2_cellThatParts_N_b8  (v_g_cells : Int32) (u0 : rg v_g_cells 0 12) : ∀ (n : Nat) (x1 : Int32) (x2 : Int32) (x3 : Int32) (u1 : rg x1 (-2) 11) (u2 : rg x2 0 122) (u3 : rg x3 0 12) (u4 : x1.toInt < v_g_cells.toInt)  (hm : (12 - x3.toInt).toNat < n), ok (f_X2_cellThatParts_N_b8 v_g_cells n x1 x2 x3) P_X2_cellThatParts_N := by
  intro n
  induction n with
  | zero =>
    intro x1 x2 x3 u1 u2 u3 u4 hm
    exact absurd hm (Nat.not_lt_zero _)
  | succ n ih =>
    intro x1 x2 x3 u1 u2 u3 u4 hm
    show ok (f_X2_cellThatParts_N_b8_st (f_X2_cellThatParts_N_b8 v_g_cells n) v_g_cells x1 x2 x3) P_X2_cellThatParts_N
    unfold f_X2_cellThatParts_N_b8_st
    refine ok_if (fun c1 => ?_) (fun c1 => ?_)
    · exact ok_some ⟨u1, trivial⟩
    · have w2 : rg x3 0 11 := rg_ltx 11 (ti_nle c1) u3 u0 (by decide)
      have w3 : rg v_g_cells 1 12 := rg_lty 1 (ti_nle c1) u3 u0 (by decide)
      refine ok_bd (s_X2_greatestAlike_N x3 w2) (fun o_2 p4 => ?_)
      have g5 : rg o_2 0 0 := p4.1
      refine ok_if (fun c6 => ?_) (fun c6 => ?_)
      · have w7 : rg x2 0 0 := rg_lex (ti_le c6) u2 g5
        exact ih x1 x2 (x3 + (1 : Int32)) u1 (rg_w w7 (by decide) (by decide)) (rg_w (rg_add (e := 1) (f := 12) w2 (show rg (1 : Int32) 1 1 from ⟨by decide, by decide⟩) (by decide) (by decide) (by decide) (by decide)) (by decide) (by decide)) u4 (ms_up (y := (x3 + (1 : Int32))) (a := 0) hm (lt_ad w2 (show rg (1 : Int32) 1 1 from ⟨by decide, by decide⟩) (by decide) (by decide) (by decide)) (rg_w (rg_add (e := 1) (f := 12) w2 (show rg (1 : Int32) 1 1 from ⟨by decide, by decide⟩) (by decide) (by decide) (by decide) (by decide)) (by decide) (by decide)))
      · have w8 : rg x2 1 122 := rg_lty 1 (ti_nle c6) g5 u2 (by decide)
        exact ih x3 o_2 (x3 + (1 : Int32)) (rg_w w2 (by decide) (by decide)) (rg_w g5 (by decide) (by decide)) (rg_w (rg_add (e := 1) (f := 12) w2 (show rg (1 : Int32) 1 1 from ⟨by decide, by decide⟩) (by decide) (by decide) (by decide) (by decide)) (by decide) (by decide)) (ti_nle c1) (ms_up (y := (x3 + (1 : Int32))) (a := 0) hm (lt_ad w2 (show rg (1 : Int32) 1 1 from ⟨by decide, by decide⟩) (by decide) (by decide) (by decide)) (rg_w (rg_add (e := 1) (f := 12) w2 (show rg (1 : Int32) 1 1 from ⟨by decide, by decide⟩) (by decide) (by decide) (by decide) (by decide)) (by decide) (by decide)))
set_option maxRecDepth 100000 in
set_option maxHeartbeats 2000000 in
theorem s_X2_cellThatParts_N (v_g_cells : Int32) (u0 : rg v_g_cells 0 12) : ok (f_X2_cellThatParts_N v_g_cells) P_X2_cellThatParts_N := by
  unfold f_X2_cellThatParts_N
  exact s_X2_cellThatParts_N_b8 v_g_cells u0 _ (-2 : Int32) (122 : Int32) (0 : Int32) (rg_w (show rg (-2 : Int32) (-2) (-2) from ⟨by decide, by decide⟩) (by decide) (by decide)) (rg_w (show rg (122 : Int32) 122 122 from ⟨by decide, by decide⟩) (by decide) (by decide)) (rg_w (show rg (0 : Int32) 0 0 from ⟨by decide, by decide⟩) (by decide) (by decide)) (Int.lt_of_le_of_lt (show rg (-2 : Int32) (-2) (-2) from ⟨by decide, by decide⟩).2 (Int.lt_of_lt_of_le (by decide) u0.1)) (fu_up (a := 0) (h := 12) (rg_w (show rg (0 : Int32) 0 0 from ⟨by decide, by decide⟩) (by decide) (by decide)) (by decide))

abbrev P_X6_span_S  : Int32 × Int32 × (Nat → Int32) × (Nat → Int32) × (Nat → Int32) × (Nat → Int32) × Int32 × Int32 × (Nat → Int32) × (Nat → Int32) × (Nat → Int32) × (Nat → Int64) × (Nat → Int32) × Int32 × (Nat → Int32) × (Nat → Int64) × (Nat → Int32) × (Nat → Int32) × (Nat → Int32) × (Nat → Int32) × (Nat → Int32) × (Nat → Int32) → Prop := (fun o : Int32 × Int32 × (Nat → Int32) × (Nat → Int32) × (Nat → Int32) × (Nat → Int32) × Int32 × Int32 × (Nat → Int32) × (Nat → Int32) × (Nat → Int32) × (Nat → Int64) × (Nat → Int32) × Int32 × (Nat → Int32) × (Nat → Int64) × (Nat → Int32) × (Nat → Int32) × (Nat → Int32) × (Nat → Int32) × (Nat → Int32) × (Nat → Int32) => rg o.2.1 (-1) 11 ∧ True)
set_option maxRecDepth 100000 in
set_option maxHeartbeats 2000000 in
theorem s_X6_span_S (v_g_cells : Int32) (v_g_passes : Int32) (v_g_rivers : Int32) (v_g_villages : Int32) (v_g_rains : Int32) (v_g_room : (Nat → Int32)) (v_g_water : (Nat → Int32)) (v_g_passFrom : (Nat → Int32)) (v_g_passTo : (Nat → Int32)) (v_g_passWidth : (Nat → Int32)) (v_g_riverCell : (Nat → Int32)) (v_g_riverLevel : (Nat → Int32)) (v_g_riverWidth : (Nat → Int32)) (v_g_riverSalt : (Nat → Int32)) (v_g_villageCell : (Nat → Int32)) (v_g_need : (Nat → Int32)) (v_g_lawEnd : (Nat → Int32)) (v_g_code : (Nat → Int32)) (v_g_rain : (Nat → Int32)) (v_e_told : Int32) (v_e_fitting : Int32) (v_e_toldDay : (Nat → Int32)) (v_e_toldCell : (Nat → Int32)) (v_e_toldLevel : (Nat → Int32)) (v_ep_pumpTakes : Int32) (v_ep_pumpFrom : Int32) (v_ep_pumpTo : Int32) (v_ep_pumpCell : Int32) (v_ep_wanting : (Nat → Int32)) (v_ep_passWidth : (Nat → Int32)) (v_ep_riverWidth : (Nat → Int32)) (v_ep_rain : (Nat → Int32)) (v_ec_pumped : Int32) (v_ec_today : Int32) (v_ec_lacked : (Nat → Int32)) (v_ec_level : (Nat → Int32)) (v_ec_water : (Nat → Int32)) (v_ec_salt : (Nat → Int64)) (v_ec_stack : (Nat → Int32)) (v_ed_day : Int32) (v_ed_water : (Nat → Int32)) (v_ed_salt : (Nat → Int64)) (v_ed_seen : (Nat → Int32)) (v_ed_took : (Nat → Int32)) (v_ed_dryDays : (Nat → Int32)) (v_ed_firstDry : (Nat → Int32)) (v_ed_total : (Nat → Int32)) (v_pl_0 : (Nat → Int32)) (q1 : Int32) (q2 : Int32) (u0 : rg v_g_cells 0 12) (u1 : rg v_g_passes 0 20) (u2 : rg v_g_rivers 0 3) (u3 : rg v_g_villages 0 6) (u4 : rg v_g_rains 0 14) (u5 : ac v_g_passFrom v_g_passes 0 11) (u6 : ac v_g_passTo v_g_passes 0 11) (u7 : ac v_g_riverCell v_g_rivers 0 11) (u8 : ac v_g_villageCell v_g_villages 0 11) (u9 : al v_g_lawEnd 0 400) (u10 : rg v_e_told 0 20) (u11 : rg v_e_fitting 0 121) (u12 : al v_e_toldDay 0 199) (u13 : al v_e_toldCell 0 11) (u14 : rg v_ep_pumpFrom 0 13) (u15 : rg v_ep_pumpCell (-1) 11) : ok (f_X6_span_S v_g_cells v_g_passes v_g_rivers v_g_villages v_g_rains v_g_room v_g_water v_g_passFrom v_g_passTo v_g_passWidth v_g_riverCell v_g_riverLevel v_g_riverWidth v_g_riverSalt v_g_villageCell v_g_need v_g_lawEnd v_g_code v_g_rain v_e_told v_e_fitting v_e_toldDay v_e_toldCell v_e_toldLevel v_ep_pumpTakes v_ep_pumpFrom v_ep_pumpTo v_ep_pumpCell v_ep_wanting v_ep_passWidth v_ep_riverWidth v_ep_rain v_ec_pumped v_ec_today v_ec_lacked v_ec_level v_ec_water v_ec_salt v_ec_stack v_ed_day v_ed_water v_ed_salt v_ed_seen v_ed_took v_ed_dryDays v_ed_firstDry v_ed_total v_pl_0 q1 q2) P_X6_span_S := by
  unfold f_X6_span_S
  refine ok_bd (s_X6_isPass v_g_passes q1 u1) (fun o_1 p1 => ?_)
  have g2 : rg o_1 0 1 := p1.1
  refine ok_if (fun c4 => ?_) (fun c4 => ?_)
  · have w5 : rg o_1 0 0 := rg_lex (ti_eq c4) (rg_ley (ti_eq2 c4) (show rg (0 : Int32) 0 0 from ⟨by decide, by decide⟩) g2) (show rg (0 : Int32) 0 0 from ⟨by decide, by decide⟩)
    exact ok_some ⟨u15, trivial⟩
  · obtain ⟨i6_0, i6_1⟩ := p1.2.1.resolve_left c4
    have w7 : rg q1 0 19 := rg_ltx 19 i6_1 i6_0 u1 (by decide)
    have w8 : rg v_g_passes 1 20 := rg_lty 1 i6_1 i6_0 u1 (by decide)
    have w9 : rg o_1 1 1 := rg_nel 1 c4 g2 (show rg (0 : Int32) 0 0 from ⟨by decide, by decide⟩) (by decide)
    refine ok_bd (s_X6_isKnown v_e_told q2 u10) (fun o_3 p10 => ?_)
    have g11 : rg o_3 0 1 := p10.1
    refine ok_if (fun c13 => ?_) (fun c13 => ?_)
    · have w14 : rg o_3 0 0 := rg_lex (ti_eq c13) (rg_ley (ti_eq2 c13) (show rg (0 : Int32) 0 0 from ⟨by decide, by decide⟩) g11) (show rg (0 : Int32) 0 0 from ⟨by decide, by decide⟩)
      exact ok_some ⟨u15, trivial⟩
    · obtain i15_0 := p10.2.1.resolve_left c13
      have w16 : rg o_3 1 1 := rg_nel 1 c13 g11 (show rg (0 : Int32) 0 0 from ⟨by decide, by decide⟩) (by decide)
      refine ok_bd22 (s_X2_spanOfPass_S v_e_fitting v_e_toldDay v_e_toldCell v_e_toldLevel v_g_cells v_g_passes v_g_rivers v_g_villages v_g_rains v_g_room v_g_water v_g_passFrom v_g_passTo v_g_passWidth v_g_riverCell v_g_riverLevel v_g_riverWidth v_g_riverSalt v_g_villageCell v_g_need v_g_lawEnd v_g_code v_g_rain v_ep_pumpTakes v_ep_pumpFrom v_ep_pumpTo v_ep_pumpCell v_ep_wanting v_ep_passWidth v_ep_riverWidth v_ep_rain v_ec_pumped v_ec_today v_ec_lacked v_ec_level v_ec_water v_ec_salt v_ec_stack v_ed_day v_ed_water v_ed_salt v_ed_seen v_ed_took v_ed_dryDays v_ed_firstDry v_ed_total v_pl_0 q1 q2 u11 u12 u13 u0 (rg_w w8 (by decide) (by decide)) u2 u3 u4 u5 u6 u7 u8 u9 u14 u15) (fun o_5_0 o_5_1 o_5_2 o_5_3 o_5_4 o_5_5 o_5_6 o_5_7 o_5_8 o_5_9 o_5_10 o_5_11 o_5_12 o_5_13 o_5_14 o_5_15 o_5_16 o_5_17 o_5_18 o_5_19 o_5_20 o_5_21 p17 => ?_)
      have g18 : rg o_5_1 (-1) 11 := p17.1
      exact ok_some ⟨g18, trivial⟩

abbrev P_X6_span_N  : Int32 × Int32 × (Nat → Int32) × (Nat → Int32) × (Nat → Int32) × (Nat → Int32) × Int32 × Int32 × (Nat → Int32) × (Nat → Int32) × (Nat → Int32) × (Nat → Int64) × (Nat → Int32) × Int32 × (Nat → Int32) × (Nat → Int64) × (Nat → Int32) × (Nat → Int32) × (Nat → Int32) × (Nat → Int32) × (Nat → Int32) → Prop := (fun o : Int32 × Int32 × (Nat → Int32) × (Nat → Int32) × (Nat → Int32) × (Nat → Int32) × Int32 × Int32 × (Nat → Int32) × (Nat → Int32) × (Nat → Int32) × (Nat → Int64) × (Nat → Int32) × Int32 × (Nat → Int32) × (Nat → Int64) × (Nat → Int32) × (Nat → Int32) × (Nat → Int32) × (Nat → Int32) × (Nat → Int32) => rg o.2.1 (-1) 11 ∧ True)
set_option maxRecDepth 100000 in
set_option maxHeartbeats 2000000 in
theorem s_X6_span_N (v_g_cells : Int32) (v_g_passes : Int32) (v_g_rivers : Int32) (v_g_villages : Int32) (v_g_rains : Int32) (v_g_room : (Nat → Int32)) (v_g_water : (Nat → Int32)) (v_g_passFrom : (Nat → Int32)) (v_g_passTo : (Nat → Int32)) (v_g_passWidth : (Nat → Int32)) (v_g_riverCell : (Nat → Int32)) (v_g_riverLevel : (Nat → Int32)) (v_g_riverWidth : (Nat → Int32)) (v_g_riverSalt : (Nat → Int32)) (v_g_villageCell : (Nat → Int32)) (v_g_need : (Nat → Int32)) (v_g_lawEnd : (Nat → Int32)) (v_g_code : (Nat → Int32)) (v_g_rain : (Nat → Int32)) (v_e_told : Int32) (v_e_fitting : Int32) (v_e_toldDay : (Nat → Int32)) (v_e_toldCell : (Nat → Int32)) (v_e_toldLevel : (Nat → Int32)) (v_ep_pumpTakes : Int32) (v_ep_pumpFrom : Int32) (v_ep_pumpTo : Int32) (v_ep_pumpCell : Int32) (v_ep_wanting : (Nat → Int32)) (v_ep_passWidth : (Nat → Int32)) (v_ep_riverWidth : (Nat → Int32)) (v_ep_rain : (Nat → Int32)) (v_ec_pumped : Int32) (v_ec_today : Int32) (v_ec_lacked : (Nat → Int32)) (v_ec_level : (Nat → Int32)) (v_ec_water : (Nat → Int32)) (v_ec_salt : (Nat → Int64)) (v_ec_stack : (Nat → Int32)) (v_ed_day : Int32) (v_ed_water : (Nat → Int32)) (v_ed_salt : (Nat → Int64)) (v_ed_seen : (Nat → Int32)) (v_ed_took : (Nat → Int32)) (v_ed_dryDays : (Nat → Int32)) (v_ed_firstDry : (Nat → Int32)) (v_ed_total : (Nat → Int32)) (q1 : Int32) (q2 : Int32) (u0 : rg v_g_cells 0 12) (u1 : rg v_g_passes 0 20) (u2 : rg v_g_rivers 0 3) (u3 : rg v_g_villages 0 6) (u4 : rg v_g_rains 0 14) (u5 : ac v_g_passFrom v_g_passes 0 11) (u6 : ac v_g_passTo v_g_passes 0 11) (u7 : ac v_g_riverCell v_g_rivers 0 11) (u8 : ac v_g_villageCell v_g_villages 0 11) (u9 : al v_g_lawEnd 0 400) (u10 : rg v_e_told 0 20) (u11 : rg v_e_fitting 0 121) (u12 : al v_e_toldDay 0 199) (u13 : al v_e_toldCell 0 11) (u14 : rg v_ep_pumpFrom 0 13) (u15 : rg v_ep_pumpCell (-1) 11) : ok (f_X6_span_N v_g_cells v_g_passes v_g_rivers v_g_villages v_g_rains v_g_room v_g_water v_g_passFrom v_g_passTo v_g_passWidth v_g_riverCell v_g_riverLevel v_g_riverWidth v_g_riverSalt v_g_villageCell v_g_need v_g_lawEnd v_g_code v_g_rain v_e_told v_e_fitting v_e_toldDay v_e_toldCell v_e_toldLevel v_ep_pumpTakes v_ep_pumpFrom v_ep_pumpTo v_ep_pumpCell v_ep_wanting v_ep_passWidth v_ep_riverWidth v_ep_rain v_ec_pumped v_ec_today v_ec_lacked v_ec_level v_ec_water v_ec_salt v_ec_stack v_ed_day v_ed_water v_ed_salt v_ed_seen v_ed_took v_ed_dryDays v_ed_firstDry v_ed_total q1 q2) P_X6_span_N := by
  unfold f_X6_span_N
  refine ok_bd (s_X6_isPass v_g_passes q1 u1) (fun o_1 p1 => ?_)
  have g2 : rg o_1 0 1 := p1.1
  refine ok_if (fun c4 => ?_) (fun c4 => ?_)
  · have w5 : rg o_1 0 0 := rg_lex (ti_eq c4) (rg_ley (ti_eq2 c4) (show rg (0 : Int32) 0 0 from ⟨by decide, by decide⟩) g2) (show rg (0 : Int32) 0 0 from ⟨by decide, by decide⟩)
    exact ok_some ⟨u15, trivial⟩
  · obtain ⟨i6_0, i6_1⟩ := p1.2.1.resolve_left c4
    have w7 : rg q1 0 19 := rg_ltx 19 i6_1 i6_0 u1 (by decide)
    have w8 : rg v_g_passes 1 20 := rg_lty 1 i6_1 i6_0 u1 (by decide)
    have w9 : rg o_1 1 1 := rg_nel 1 c4 g2 (show rg (0 : Int32) 0 0 from ⟨by decide, by decide⟩) (by decide)
    refine ok_bd (s_X6_isKnown v_e_told q2 u10) (fun o_3 p10 => ?_)
    have g11 : rg o_3 0 1 := p10.1
    refine ok_if (fun c13 => ?_) (fun c13 => ?_)
    · have w14 : rg o_3 0 0 := rg_lex (ti_eq c13) (rg_ley (ti_eq2 c13) (show rg (0 : Int32) 0 0 from ⟨by decide, by decide⟩) g11) (show rg (0 : Int32) 0 0 from ⟨by decide, by decide⟩)
      exact ok_some ⟨u15, trivial⟩
    · obtain i15_0 := p10.2.1.resolve_left c13
      have w16 : rg o_3 1 1 := rg_nel 1 c13 g11 (show rg (0 : Int32) 0 0 from ⟨by decide, by decide⟩) (by decide)
      refine ok_bd21 (s_X2_spanOfPass_N v_e_fitting v_e_toldDay v_e_toldCell v_e_toldLevel v_g_cells v_g_passes v_g_rivers v_g_villages v_g_rains v_g_room v_g_water v_g_passFrom v_g_passTo v_g_passWidth v_g_riverCell v_g_riverLevel v_g_riverWidth v_g_riverSalt v_g_villageCell v_g_need v_g_lawEnd v_g_code v_g_rain v_ep_pumpTakes v_ep_pumpFrom v_ep_pumpTo v_ep_pumpCell v_ep_wanting v_ep_passWidth v_ep_riverWidth v_ep_rain v_ec_pumped v_ec_today v_ec_lacked v_ec_level v_ec_water v_ec_salt v_ec_stack v_ed_day v_ed_water v_ed_salt v_ed_seen v_ed_took v_ed_dryDays v_ed_firstDry v_ed_total q1 q2 u11 u12 u13 u0 (rg_w w8 (by decide) (by decide)) u2 u3 u4 u5 u6 u7 u8 u9 u14 u15) (fun o_5_0 o_5_1 o_5_2 o_5_3 o_5_4 o_5_5 o_5_6 o_5_7 o_5_8 o_5_9 o_5_10 o_5_11 o_5_12 o_5_13 o_5_14 o_5_15 o_5_16 o_5_17 o_5_18 o_5_19 o_5_20 p17 => ?_)
      have g18 : rg o_5_1 (-1) 11 := p17.1
      exact ok_some ⟨g18, trivial⟩

abbrev P_X6_rainSpan_S  : Int32 × Int32 × (Nat → Int32) × (Nat → Int32) × (Nat → Int32) × (Nat → Int32) × Int32 × Int32 × (Nat → Int32) × (Nat → Int32) × (Nat → Int32) × (Nat → Int64) × (Nat → Int32) × Int32 × (Nat → Int32) × (Nat → Int64) × (Nat → Int32) × (Nat → Int32) × (Nat → Int32) × (Nat → Int32) × (Nat → Int32) × (Nat → Int32) → Prop := (fun o : Int32 × Int32 × (Nat → Int32) × (Nat → Int32) × (Nat → Int32) × (Nat → Int32) × Int32 × Int32 × (Nat → Int32) × (Nat → Int32) × (Nat → Int32) × (Nat → Int64) × (Nat → Int32) × Int32 × (Nat → Int32) × (Nat → Int64) × (Nat → Int32) × (Nat → Int32) × (Nat → Int32) × (Nat → Int32) × (Nat → Int32) × (Nat → Int32) => rg o.2.1 (-1) 11 ∧ True)
set_option maxRecDepth 100000 in
set_option maxHeartbeats 2000000 in
theorem s_X6_rainSpan_S (v_g_cells : Int32) (v_g_passes : Int32) (v_g_rivers : Int32) (v_g_villages : Int32) (v_g_rains : Int32) (v_g_room : (Nat → Int32)) (v_g_water : (Nat → Int32)) (v_g_passFrom : (Nat → Int32)) (v_g_passTo : (Nat → Int32)) (v_g_passWidth : (Nat → Int32)) (v_g_riverCell : (Nat → Int32)) (v_g_riverLevel : (Nat → Int32)) (v_g_riverWidth : (Nat → Int32)) (v_g_riverSalt : (Nat → Int32)) (v_g_villageCell : (Nat → Int32)) (v_g_need : (Nat → Int32)) (v_g_lawEnd : (Nat → Int32)) (v_g_code : (Nat → Int32)) (v_g_rain : (Nat → Int32)) (v_e_told : Int32) (v_e_fitting : Int32) (v_e_toldDay : (Nat → Int32)) (v_e_toldCell : (Nat → Int32)) (v_e_toldLevel : (Nat → Int32)) (v_ep_pumpTakes : Int32) (v_ep_pumpFrom : Int32) (v_ep_pumpTo : Int32) (v_ep_pumpCell : Int32) (v_ep_wanting : (Nat → Int32)) (v_ep_passWidth : (Nat → Int32)) (v_ep_riverWidth : (Nat → Int32)) (v_ep_rain : (Nat → Int32)) (v_ec_pumped : Int32) (v_ec_today : Int32) (v_ec_lacked : (Nat → Int32)) (v_ec_level : (Nat → Int32)) (v_ec_water : (Nat → Int32)) (v_ec_salt : (Nat → Int64)) (v_ec_stack : (Nat → Int32)) (v_ed_day : Int32) (v_ed_water : (Nat → Int32)) (v_ed_salt : (Nat → Int64)) (v_ed_seen : (Nat → Int32)) (v_ed_took : (Nat → Int32)) (v_ed_dryDays : (Nat → Int32)) (v_ed_firstDry : (Nat → Int32)) (v_ed_total : (Nat → Int32)) (v_pl_0 : (Nat → Int32)) (q1 : Int32) (q2 : Int32) (u0 : rg v_g_cells 0 12) (u1 : rg v_g_passes 0 20) (u2 : rg v_g_rivers 0 3) (u3 : rg v_g_villages 0 6) (u4 : rg v_g_rains 0 14) (u5 : ac v_g_passFrom v_g_passes 0 11) (u6 : ac v_g_passTo v_g_passes 0 11) (u7 : ac v_g_riverCell v_g_rivers 0 11) (u8 : ac v_g_villageCell v_g_villages 0 11) (u9 : al v_g_lawEnd 0 400) (u10 : rg v_e_told 0 20) (u11 : rg v_e_fitting 0 121) (u12 : al v_e_toldDay 0 199) (u13 : al v_e_toldCell 0 11) (u14 : rg v_ep_pumpFrom 0 13) (u15 : rg v_ep_pumpCell (-1) 11) : ok (f_X6_rainSpan_S v_g_cells v_g_passes v_g_rivers v_g_villages v_g_rains v_g_room v_g_water v_g_passFrom v_g_passTo v_g_passWidth v_g_riverCell v_g_riverLevel v_g_riverWidth v_g_riverSalt v_g_villageCell v_g_need v_g_lawEnd v_g_code v_g_rain v_e_told v_e_fitting v_e_toldDay v_e_toldCell v_e_toldLevel v_ep_pumpTakes v_ep_pumpFrom v_ep_pumpTo v_ep_pumpCell v_ep_wanting v_ep_passWidth v_ep_riverWidth v_ep_rain v_ec_pumped v_ec_today v_ec_lacked v_ec_level v_ec_water v_ec_salt v_ec_stack v_ed_day v_ed_water v_ed_salt v_ed_seen v_ed_took v_ed_dryDays v_ed_firstDry v_ed_total v_pl_0 q1 q2) P_X6_rainSpan_S := by
  unfold f_X6_rainSpan_S
  refine ok_if (fun c1 => ?_) (fun c1 => ?_)
  · have w2 : rg q1 (-2147483648) (-1) := rg_ltx (-1) (ti_lt c1) (rg_any q1) (show rg (0 : Int32) 0 0 from ⟨by decide, by decide⟩) (by decide)
    exact ok_some ⟨u15, trivial⟩
  · have w3 : rg q1 0 2147483647 := rg_ley (ti_nlt c1) (show rg (0 : Int32) 0 0 from ⟨by decide, by decide⟩) (rg_any q1)
    refine ok_if (fun c4 => ?_) (fun c4 => ?_)
    · exact ok_some ⟨u15, trivial⟩
    · have w5 : rg q1 0 13 := rg_ltx 13 (ti_nle c4) w3 u4 (by decide)
      have w6 : rg v_g_rains 1 14 := rg_lty 1 (ti_nle c4) w3 u4 (by decide)
      refine ok_bd (s_X6_isKnown v_e_told q2 u10) (fun o_3 p7 => ?_)
      have g8 : rg o_3 0 1 := p7.1
      refine ok_if (fun c10 => ?_) (fun c10 => ?_)
      · have w11 : rg o_3 0 0 := rg_lex (ti_eq c10) (rg_ley (ti_eq2 c10) (show rg (0 : Int32) 0 0 from ⟨by decide, by decide⟩) g8) (show rg (0 : Int32) 0 0 from ⟨by decide, by decide⟩)
        exact ok_some ⟨u15, trivial⟩
      · obtain i12_0 := p7.2.1.resolve_left c10
        have w13 : rg o_3 1 1 := rg_nel 1 c10 g8 (show rg (0 : Int32) 0 0 from ⟨by decide, by decide⟩) (by decide)
        refine ok_bd22 (s_X2_spanOfRain_S v_e_fitting v_e_toldDay v_e_toldCell v_e_toldLevel v_g_cells v_g_passes v_g_rivers v_g_villages v_g_rains v_g_room v_g_water v_g_passFrom v_g_passTo v_g_passWidth v_g_riverCell v_g_riverLevel v_g_riverWidth v_g_riverSalt v_g_villageCell v_g_need v_g_lawEnd v_g_code v_g_rain v_ep_pumpTakes v_ep_pumpFrom v_ep_pumpTo v_ep_pumpCell v_ep_wanting v_ep_passWidth v_ep_riverWidth v_ep_rain v_ec_pumped v_ec_today v_ec_lacked v_ec_level v_ec_water v_ec_salt v_ec_stack v_ed_day v_ed_water v_ed_salt v_ed_seen v_ed_took v_ed_dryDays v_ed_firstDry v_ed_total v_pl_0 q1 q2 u11 u12 u13 u0 u1 u2 u3 (rg_w w6 (by decide) (by decide)) u5 u6 u7 u8 u9 u14 u15) (fun o_5_0 o_5_1 o_5_2 o_5_3 o_5_4 o_5_5 o_5_6 o_5_7 o_5_8 o_5_9 o_5_10 o_5_11 o_5_12 o_5_13 o_5_14 o_5_15 o_5_16 o_5_17 o_5_18 o_5_19 o_5_20 o_5_21 p14 => ?_)
        have g15 : rg o_5_1 (-1) 11 := p14.1
        exact ok_some ⟨g15, trivial⟩

abbrev P_X6_rainSpan_N  : Int32 × Int32 × (Nat → Int32) × (Nat → Int32) × (Nat → Int32) × (Nat → Int32) × Int32 × Int32 × (Nat → Int32) × (Nat → Int32) × (Nat → Int32) × (Nat → Int64) × (Nat → Int32) × Int32 × (Nat → Int32) × (Nat → Int64) × (Nat → Int32) × (Nat → Int32) × (Nat → Int32) × (Nat → Int32) × (Nat → Int32) → Prop := (fun o : Int32 × Int32 × (Nat → Int32) × (Nat → Int32) × (Nat → Int32) × (Nat → Int32) × Int32 × Int32 × (Nat → Int32) × (Nat → Int32) × (Nat → Int32) × (Nat → Int64) × (Nat → Int32) × Int32 × (Nat → Int32) × (Nat → Int64) × (Nat → Int32) × (Nat → Int32) × (Nat → Int32) × (Nat → Int32) × (Nat → Int32) => rg o.2.1 (-1) 11 ∧ True)
set_option maxRecDepth 100000 in
set_option maxHeartbeats 2000000 in
theorem s_X6_rainSpan_N (v_g_cells : Int32) (v_g_passes : Int32) (v_g_rivers : Int32) (v_g_villages : Int32) (v_g_rains : Int32) (v_g_room : (Nat → Int32)) (v_g_water : (Nat → Int32)) (v_g_passFrom : (Nat → Int32)) (v_g_passTo : (Nat → Int32)) (v_g_passWidth : (Nat → Int32)) (v_g_riverCell : (Nat → Int32)) (v_g_riverLevel : (Nat → Int32)) (v_g_riverWidth : (Nat → Int32)) (v_g_riverSalt : (Nat → Int32)) (v_g_villageCell : (Nat → Int32)) (v_g_need : (Nat → Int32)) (v_g_lawEnd : (Nat → Int32)) (v_g_code : (Nat → Int32)) (v_g_rain : (Nat → Int32)) (v_e_told : Int32) (v_e_fitting : Int32) (v_e_toldDay : (Nat → Int32)) (v_e_toldCell : (Nat → Int32)) (v_e_toldLevel : (Nat → Int32)) (v_ep_pumpTakes : Int32) (v_ep_pumpFrom : Int32) (v_ep_pumpTo : Int32) (v_ep_pumpCell : Int32) (v_ep_wanting : (Nat → Int32)) (v_ep_passWidth : (Nat → Int32)) (v_ep_riverWidth : (Nat → Int32)) (v_ep_rain : (Nat → Int32)) (v_ec_pumped : Int32) (v_ec_today : Int32) (v_ec_lacked : (Nat → Int32)) (v_ec_level : (Nat → Int32)) (v_ec_water : (Nat → Int32)) (v_ec_salt : (Nat → Int64)) (v_ec_stack : (Nat → Int32)) (v_ed_day : Int32) (v_ed_water : (Nat → Int32)) (v_ed_salt : (Nat → Int64)) (v_ed_seen : (Nat → Int32)) (v_ed_took : (Nat → Int32)) (v_ed_dryDays : (Nat → Int32)) (v_ed_firstDry : (Nat → Int32)) (v_ed_total : (Nat → Int32)) (q1 : Int32) (q2 : Int32) (u0 : rg v_g_cells 0 12) (u1 : rg v_g_passes 0 20) (u2 : rg v_g_rivers 0 3) (u3 : rg v_g_villages 0 6) (u4 : rg v_g_rains 0 14) (u5 : ac v_g_passFrom v_g_passes 0 11) (u6 : ac v_g_passTo v_g_passes 0 11) (u7 : ac v_g_riverCell v_g_rivers 0 11) (u8 : ac v_g_villageCell v_g_villages 0 11) (u9 : al v_g_lawEnd 0 400) (u10 : rg v_e_told 0 20) (u11 : rg v_e_fitting 0 121) (u12 : al v_e_toldDay 0 199) (u13 : al v_e_toldCell 0 11) (u14 : rg v_ep_pumpFrom 0 13) (u15 : rg v_ep_pumpCell (-1) 11) : ok (f_X6_rainSpan_N v_g_cells v_g_passes v_g_rivers v_g_villages v_g_rains v_g_room v_g_water v_g_passFrom v_g_passTo v_g_passWidth v_g_riverCell v_g_riverLevel v_g_riverWidth v_g_riverSalt v_g_villageCell v_g_need v_g_lawEnd v_g_code v_g_rain v_e_told v_e_fitting v_e_toldDay v_e_toldCell v_e_toldLevel v_ep_pumpTakes v_ep_pumpFrom v_ep_pumpTo v_ep_pumpCell v_ep_wanting v_ep_passWidth v_ep_riverWidth v_ep_rain v_ec_pumped v_ec_today v_ec_lacked v_ec_level v_ec_water v_ec_salt v_ec_stack v_ed_day v_ed_water v_ed_salt v_ed_seen v_ed_took v_ed_dryDays v_ed_firstDry v_ed_total q1 q2) P_X6_rainSpan_N := by
  unfold f_X6_rainSpan_N
  refine ok_if (fun c1 => ?_) (fun c1 => ?_)
  · have w2 : rg q1 (-2147483648) (-1) := rg_ltx (-1) (ti_lt c1) (rg_any q1) (show rg (0 : Int32) 0 0 from ⟨by decide, by decide⟩) (by decide)
    exact ok_some ⟨u15, trivial⟩
  · have w3 : rg q1 0 2147483647 := rg_ley (ti_nlt c1) (show rg (0 : Int32) 0 0 from ⟨by decide, by decide⟩) (rg_any q1)
    refine ok_if (fun c4 => ?_) (fun c4 => ?_)
    · exact ok_some ⟨u15, trivial⟩
    · have w5 : rg q1 0 13 := rg_ltx 13 (ti_nle c4) w3 u4 (by decide)
      have w6 : rg v_g_rains 1 14 := rg_lty 1 (ti_nle c4) w3 u4 (by decide)
      refine ok_bd (s_X6_isKnown v_e_told q2 u10) (fun o_3 p7 => ?_)
      have g8 : rg o_3 0 1 := p7.1
      refine ok_if (fun c10 => ?_) (fun c10 => ?_)
      · have w11 : rg o_3 0 0 := rg_lex (ti_eq c10) (rg_ley (ti_eq2 c10) (show rg (0 : Int32) 0 0 from ⟨by decide, by decide⟩) g8) (show rg (0 : Int32) 0 0 from ⟨by decide, by decide⟩)
        exact ok_some ⟨u15, trivial⟩
      · obtain i12_0 := p7.2.1.resolve_left c10
        have w13 : rg o_3 1 1 := rg_nel 1 c10 g8 (show rg (0 : Int32) 0 0 from ⟨by decide, by decide⟩) (by decide)
        refine ok_bd21 (s_X2_spanOfRain_N v_e_fitting v_e_toldDay v_e_toldCell v_e_toldLevel v_g_cells v_g_passes v_g_rivers v_g_villages v_g_rains v_g_room v_g_water v_g_passFrom v_g_passTo v_g_passWidth v_g_riverCell v_g_riverLevel v_g_riverWidth v_g_riverSalt v_g_villageCell v_g_need v_g_lawEnd v_g_code v_g_rain v_ep_pumpTakes v_ep_pumpFrom v_ep_pumpTo v_ep_pumpCell v_ep_wanting v_ep_passWidth v_ep_riverWidth v_ep_rain v_ec_pumped v_ec_today v_ec_lacked v_ec_level v_ec_water v_ec_salt v_ec_stack v_ed_day v_ed_water v_ed_salt v_ed_seen v_ed_took v_ed_dryDays v_ed_firstDry v_ed_total q1 q2 u11 u12 u13 u0 u1 u2 u3 (rg_w w6 (by decide) (by decide)) u5 u6 u7 u8 u9 u14 u15) (fun o_5_0 o_5_1 o_5_2 o_5_3 o_5_4 o_5_5 o_5_6 o_5_7 o_5_8 o_5_9 o_5_10 o_5_11 o_5_12 o_5_13 o_5_14 o_5_15 o_5_16 o_5_17 o_5_18 o_5_19 o_5_20 p14 => ?_)
        have g15 : rg o_5_1 (-1) 11 := p14.1
        exact ok_some ⟨g15, trivial⟩

abbrev P_X6_pairs_S  : Int32 × Int32 × Int32 × Int32 × (Nat → Int32) × (Nat → Int32) × (Nat → Int32) × (Nat → Int32) × Int32 × Int32 × (Nat → Int32) × (Nat → Int32) × (Nat → Int32) × (Nat → Int64) × (Nat → Int32) × Int32 × (Nat → Int32) × (Nat → Int64) × (Nat → Int32) × (Nat → Int32) × (Nat → Int32) × (Nat → Int32) × (Nat → Int32) × (Nat → Int32) → Prop := (fun o : Int32 × Int32 × Int32 × Int32 × (Nat → Int32) × (Nat → Int32) × (Nat → Int32) × (Nat → Int32) × Int32 × Int32 × (Nat → Int32) × (Nat → Int32) × (Nat → Int32) × (Nat → Int64) × (Nat → Int32) × Int32 × (Nat → Int32) × (Nat → Int64) × (Nat → Int32) × (Nat → Int32) × (Nat → Int32) × (Nat → Int32) × (Nat → Int32) × (Nat → Int32) => rg o.2.1 0 121 ∧ rg o.2.2.2.1 (-1) 11 ∧ True)
set_option maxRecDepth 100000 in
set_option maxHeartbeats 2000000 in
theorem s_X6_pairs_S (v_g_cells : Int32) (v_g_passes : Int32) (v_g_rivers : Int32) (v_g_villages : Int32) (v_g_rains : Int32) (v_g_room : (Nat → Int32)) (v_g_water : (Nat → Int32)) (v_g_passFrom : (Nat → Int32)) (v_g_passTo : (Nat → Int32)) (v_g_passWidth : (Nat → Int32)) (v_g_riverCell : (Nat → Int32)) (v_g_riverLevel : (Nat → Int32)) (v_g_riverWidth : (Nat → Int32)) (v_g_riverSalt : (Nat → Int32)) (v_g_villageCell : (Nat → Int32)) (v_g_need : (Nat → Int32)) (v_g_lawEnd : (Nat → Int32)) (v_g_code : (Nat → Int32)) (v_g_rain : (Nat → Int32)) (v_e_told : Int32) (v_e_toldDay : (Nat → Int32)) (v_e_toldCell : (Nat → Int32)) (v_e_toldLevel : (Nat → Int32)) (v_ep_pumpTakes : Int32) (v_ep_pumpFrom : Int32) (v_ep_pumpTo : Int32) (v_e_fitting : Int32) (v_e_firstPair : Int32) (v_ep_pumpCell : Int32) (v_ep_wanting : (Nat → Int32)) (v_ep_passWidth : (Nat → Int32)) (v_ep_riverWidth : (Nat → Int32)) (v_ep_rain : (Nat → Int32)) (v_ec_pumped : Int32) (v_ec_today : Int32) (v_ec_lacked : (Nat → Int32)) (v_ec_level : (Nat → Int32)) (v_ec_water : (Nat → Int32)) (v_ec_salt : (Nat → Int64)) (v_ec_stack : (Nat → Int32)) (v_ed_day : Int32) (v_ed_water : (Nat → Int32)) (v_ed_salt : (Nat → Int64)) (v_ed_seen : (Nat → Int32)) (v_ed_took : (Nat → Int32)) (v_ed_dryDays : (Nat → Int32)) (v_ed_firstDry : (Nat → Int32)) (v_ed_total : (Nat → Int32)) (v_pl_0 : (Nat → Int32)) (q1 : Int32) (q2 : Int32) (q3 : Int32) (q4 : Int32) (u0 : rg v_g_cells 0 12) (u1 : rg v_g_passes 0 20) (u2 : rg v_g_rivers 0 3) (u3 : rg v_g_villages 0 6) (u4 : rg v_g_rains 0 14) (u5 : ac v_g_passFrom v_g_passes 0 11) (u6 : ac v_g_passTo v_g_passes 0 11) (u7 : ac v_g_riverCell v_g_rivers 0 11) (u8 : ac v_g_villageCell v_g_villages 0 11) (u9 : al v_g_lawEnd 0 400) (u10 : rg v_e_told 0 20) (u11 : al v_e_toldDay 0 199) (u12 : al v_e_toldCell 0 11) (u13 : rg v_ep_pumpFrom 0 13) (u14 : rg v_e_fitting 0 121) (u15 : rg v_ep_pumpCell (-1) 11) : ok (f_X6_pairs_S v_g_cells v_g_passes v_g_rivers v_g_villages v_g_rains v_g_room v_g_water v_g_passFrom v_g_passTo v_g_passWidth v_g_riverCell v_g_riverLevel v_g_riverWidth v_g_riverSalt v_g_villageCell v_g_need v_g_lawEnd v_g_code v_g_rain v_e_told v_e_toldDay v_e_toldCell v_e_toldLevel v_ep_pumpTakes v_ep_pumpFrom v_ep_pumpTo v_e_fitting v_e_firstPair v_ep_pumpCell v_ep_wanting v_ep_passWidth v_ep_riverWidth v_ep_rain v_ec_pumped v_ec_today v_ec_lacked v_ec_level v_ec_water v_ec_salt v_ec_stack v_ed_day v_ed_water v_ed_salt v_ed_seen v_ed_took v_ed_dryDays v_ed_firstDry v_ed_total v_pl_0 q1 q2 q3 q4) P_X6_pairs_S := by
  unfold f_X6_pairs_S
  refine ok_bd (s_X6_arePair v_g_passes q1 q2 u1) (fun o_1 p1 => ?_)
  have g2 : rg o_1 0 1 := p1.1
  refine ok_if (fun c4 => ?_) (fun c4 => ?_)
  · have w5 : rg o_1 0 0 := rg_lex (ti_eq c4) (rg_ley (ti_eq2 c4) (show rg (0 : Int32) 0 0 from ⟨by decide, by decide⟩) g2) (show rg (0 : Int32) 0 0 from ⟨by decide, by decide⟩)
    exact ok_some ⟨u14, u15, trivial⟩
  · obtain ⟨i6_0, i6_1⟩ := p1.2.1.resolve_left c4
    have w7 : rg o_1 1 1 := rg_nel 1 c4 g2 (show rg (0 : Int32) 0 0 from ⟨by decide, by decide⟩) (by decide)
    refine ok_bd (s_X6_isKnown v_e_told q3 u10) (fun o_3 p8 => ?_)
    have g9 : rg o_3 0 1 := p8.1
    refine ok_if (fun c11 => ?_) (fun c11 => ?_)
    · have w12 : rg o_3 0 0 := rg_lex (ti_eq c11) (rg_ley (ti_eq2 c11) (show rg (0 : Int32) 0 0 from ⟨by decide, by decide⟩) g9) (show rg (0 : Int32) 0 0 from ⟨by decide, by decide⟩)
      exact ok_some ⟨u14, u15, trivial⟩
    · obtain i13_0 := p8.2.1.resolve_left c11
      have w14 : rg o_3 1 1 := rg_nel 1 c11 g9 (show rg (0 : Int32) 0 0 from ⟨by decide, by decide⟩) (by decide)
      refine ok_if (fun c15 => ?_) (fun c15 => ?_)
      · have w16 : rg q4 (-2147483648) (-1) := rg_ltx (-1) (ti_lt c15) (rg_any q4) (show rg (0 : Int32) 0 0 from ⟨by decide, by decide⟩) (by decide)
        exact ok_some ⟨u14, u15, trivial⟩
      · have w17 : rg q4 0 2147483647 := rg_ley (ti_nlt c15) (show rg (0 : Int32) 0 0 from ⟨by decide, by decide⟩) (rg_any q4)
        refine ok_if (fun c18 => ?_) (fun c18 => ?_)
        · have w19 : rg q4 0 1 := rg_lex (ti_le c18) w17 (show rg (1 : Int32) 1 1 from ⟨by decide, by decide⟩)
          refine ok_bd23 (s_X2_fitPairs_S v_e_toldDay v_e_toldCell v_e_toldLevel v_g_cells v_g_passes v_g_rivers v_g_villages v_g_rains v_g_room v_g_water v_g_passFrom v_g_passTo v_g_passWidth v_g_riverCell v_g_riverLevel v_g_riverWidth v_g_riverSalt v_g_villageCell v_g_need v_g_lawEnd v_g_code v_g_rain v_ep_pumpTakes v_ep_pumpFrom v_ep_pumpTo v_e_fitting v_e_firstPair v_ep_pumpCell v_ep_wanting v_ep_passWidth v_ep_riverWidth v_ep_rain v_ec_pumped v_ec_today v_ec_lacked v_ec_level v_ec_water v_ec_salt v_ec_stack v_ed_day v_ed_water v_ed_salt v_ed_seen v_ed_took v_ed_dryDays v_ed_firstDry v_ed_total v_pl_0 q1 q2 q3 (-1 : Int32) u11 u12 u0 u1 u2 u3 u4 u5 u6 u7 u8 u9 u13 u14 u15 i6_0 i6_1 (rg_w (show rg (-1 : Int32) (-1) (-1) from ⟨by decide, by decide⟩) (by decide) (by decide))) (fun o_7_0 o_7_1 o_7_2 o_7_3 o_7_4 o_7_5 o_7_6 o_7_7 o_7_8 o_7_9 o_7_10 o_7_11 o_7_12 o_7_13 o_7_14 o_7_15 o_7_16 o_7_17 o_7_18 o_7_19 o_7_20 o_7_21 o_7_22 p20 => ?_)
          have g21 : rg o_7_0 0 121 := p20.1
          have g22 : rg o_7_2 (-1) 11 := p20.2.1
          refine ok_if (fun c23 => ?_) (fun c23 => ?_)
          · have w24 : rg q4 0 0 := rg_lex (ti_eq c23) (rg_ley (ti_eq2 c23) (show rg (0 : Int32) 0 0 from ⟨by decide, by decide⟩) w19) (show rg (0 : Int32) 0 0 from ⟨by decide, by decide⟩)
            exact ok_some ⟨g21, g22, trivial⟩
          · have w25 : rg q4 1 1 := rg_nel 1 c23 w19 (show rg (0 : Int32) 0 0 from ⟨by decide, by decide⟩) (by decide)
            exact ok_some ⟨g21, g22, trivial⟩
        · have w26 : rg q4 2 2147483647 := rg_lty 2 (ti_nle c18) (show rg (1 : Int32) 1 1 from ⟨by decide, by decide⟩) w17 (by decide)
          exact ok_some ⟨u14, u15, trivial⟩

abbrev P_X6_pairs_N  : Int32 × Int32 × Int32 × Int32 × (Nat → Int32) × (Nat → Int32) × (Nat → Int32) × (Nat → Int32) × Int32 × Int32 × (Nat → Int32) × (Nat → Int32) × (Nat → Int32) × (Nat → Int64) × (Nat → Int32) × Int32 × (Nat → Int32) × (Nat → Int64) × (Nat → Int32) × (Nat → Int32) × (Nat → Int32) × (Nat → Int32) × (Nat → Int32) → Prop := (fun o : Int32 × Int32 × Int32 × Int32 × (Nat → Int32) × (Nat → Int32) × (Nat → Int32) × (Nat → Int32) × Int32 × Int32 × (Nat → Int32) × (Nat → Int32) × (Nat → Int32) × (Nat → Int64) × (Nat → Int32) × Int32 × (Nat → Int32) × (Nat → Int64) × (Nat → Int32) × (Nat → Int32) × (Nat → Int32) × (Nat → Int32) × (Nat → Int32) => rg o.2.1 0 121 ∧ rg o.2.2.2.1 (-1) 11 ∧ True)
set_option maxRecDepth 100000 in
set_option maxHeartbeats 2000000 in
theorem s_X6_pairs_N (v_g_cells : Int32) (v_g_passes : Int32) (v_g_rivers : Int32) (v_g_villages : Int32) (v_g_rains : Int32) (v_g_room : (Nat → Int32)) (v_g_water : (Nat → Int32)) (v_g_passFrom : (Nat → Int32)) (v_g_passTo : (Nat → Int32)) (v_g_passWidth : (Nat → Int32)) (v_g_riverCell : (Nat → Int32)) (v_g_riverLevel : (Nat → Int32)) (v_g_riverWidth : (Nat → Int32)) (v_g_riverSalt : (Nat → Int32)) (v_g_villageCell : (Nat → Int32)) (v_g_need : (Nat → Int32)) (v_g_lawEnd : (Nat → Int32)) (v_g_code : (Nat → Int32)) (v_g_rain : (Nat → Int32)) (v_e_told : Int32) (v_e_toldDay : (Nat → Int32)) (v_e_toldCell : (Nat → Int32)) (v_e_toldLevel : (Nat → Int32)) (v_ep_pumpTakes : Int32) (v_ep_pumpFrom : Int32) (v_ep_pumpTo : Int32) (v_e_fitting : Int32) (v_e_firstPair : Int32) (v_ep_pumpCell : Int32) (v_ep_wanting : (Nat → Int32)) (v_ep_passWidth : (Nat → Int32)) (v_ep_riverWidth : (Nat → Int32)) (v_ep_rain : (Nat → Int32)) (v_ec_pumped : Int32) (v_ec_today : Int32) (v_ec_lacked : (Nat → Int32)) (v_ec_level : (Nat → Int32)) (v_ec_water : (Nat → Int32)) (v_ec_salt : (Nat → Int64)) (v_ec_stack : (Nat → Int32)) (v_ed_day : Int32) (v_ed_water : (Nat → Int32)) (v_ed_salt : (Nat → Int64)) (v_ed_seen : (Nat → Int32)) (v_ed_took : (Nat → Int32)) (v_ed_dryDays : (Nat → Int32)) (v_ed_firstDry : (Nat → Int32)) (v_ed_total : (Nat → Int32)) (q1 : Int32) (q2 : Int32) (q3 : Int32) (q4 : Int32) (u0 : rg v_g_cells 0 12) (u1 : rg v_g_passes 0 20) (u2 : rg v_g_rivers 0 3) (u3 : rg v_g_villages 0 6) (u4 : rg v_g_rains 0 14) (u5 : ac v_g_passFrom v_g_passes 0 11) (u6 : ac v_g_passTo v_g_passes 0 11) (u7 : ac v_g_riverCell v_g_rivers 0 11) (u8 : ac v_g_villageCell v_g_villages 0 11) (u9 : al v_g_lawEnd 0 400) (u10 : rg v_e_told 0 20) (u11 : al v_e_toldDay 0 199) (u12 : al v_e_toldCell 0 11) (u13 : rg v_ep_pumpFrom 0 13) (u14 : rg v_e_fitting 0 121) (u15 : rg v_ep_pumpCell (-1) 11) : ok (f_X6_pairs_N v_g_cells v_g_passes v_g_rivers v_g_villages v_g_rains v_g_room v_g_water v_g_passFrom v_g_passTo v_g_passWidth v_g_riverCell v_g_riverLevel v_g_riverWidth v_g_riverSalt v_g_villageCell v_g_need v_g_lawEnd v_g_code v_g_rain v_e_told v_e_toldDay v_e_toldCell v_e_toldLevel v_ep_pumpTakes v_ep_pumpFrom v_ep_pumpTo v_e_fitting v_e_firstPair v_ep_pumpCell v_ep_wanting v_ep_passWidth v_ep_riverWidth v_ep_rain v_ec_pumped v_ec_today v_ec_lacked v_ec_level v_ec_water v_ec_salt v_ec_stack v_ed_day v_ed_water v_ed_salt v_ed_seen v_ed_took v_ed_dryDays v_ed_firstDry v_ed_total q1 q2 q3 q4) P_X6_pairs_N := by
  unfold f_X6_pairs_N
  refine ok_bd (s_X6_arePair v_g_passes q1 q2 u1) (fun o_1 p1 => ?_)
  have g2 : rg o_1 0 1 := p1.1
  refine ok_if (fun c4 => ?_) (fun c4 => ?_)
  · have w5 : rg o_1 0 0 := rg_lex (ti_eq c4) (rg_ley (ti_eq2 c4) (show rg (0 : Int32) 0 0 from ⟨by decide, by decide⟩) g2) (show rg (0 : Int32) 0 0 from ⟨by decide, by decide⟩)
    exact ok_some ⟨u14, u15, trivial⟩
  · obtain ⟨i6_0, i6_1⟩ := p1.2.1.resolve_left c4
    have w7 : rg o_1 1 1 := rg_nel 1 c4 g2 (show rg (0 : Int32) 0 0 from ⟨by decide, by decide⟩) (by decide)
    refine ok_bd (s_X6_isKnown v_e_told q3 u10) (fun o_3 p8 => ?_)
    have g9 : rg o_3 0 1 := p8.1
    refine ok_if (fun c11 => ?_) (fun c11 => ?_)
    · have w12 : rg o_3 0 0 := rg_lex (ti_eq c11) (rg_ley (ti_eq2 c11) (show rg (0 : Int32) 0 0 from ⟨by decide, by decide⟩) g9) (show rg (0 : Int32) 0 0 from ⟨by decide, by decide⟩)
      exact ok_some ⟨u14, u15, trivial⟩
    · obtain i13_0 := p8.2.1.resolve_left c11
      have w14 : rg o_3 1 1 := rg_nel 1 c11 g9 (show rg (0 : Int32) 0 0 from ⟨by decide, by decide⟩) (by decide)
      refine ok_if (fun c15 => ?_) (fun c15 => ?_)
      · have w16 : rg q4 (-2147483648) (-1) := rg_ltx (-1) (ti_lt c15) (rg_any q4) (show rg (0 : Int32) 0 0 from ⟨by decide, by decide⟩) (by decide)
        exact ok_some ⟨u14, u15, trivial⟩
      · have w17 : rg q4 0 2147483647 := rg_ley (ti_nlt c15) (show rg (0 : Int32) 0 0 from ⟨by decide, by decide⟩) (rg_any q4)
        refine ok_if (fun c18 => ?_) (fun c18 => ?_)
        · have w19 : rg q4 0 1 := rg_lex (ti_le c18) w17 (show rg (1 : Int32) 1 1 from ⟨by decide, by decide⟩)
          refine ok_bsu22 (s_X2_fitPairs_ND v_e_toldDay v_e_toldCell v_e_toldLevel v_g_cells v_g_passes v_g_rivers v_g_villages v_g_rains v_g_room v_g_water v_g_passFrom v_g_passTo v_g_passWidth v_g_riverCell v_g_riverLevel v_g_riverWidth v_g_riverSalt v_g_villageCell v_g_need v_g_lawEnd v_g_code v_g_rain v_ep_pumpTakes v_ep_pumpFrom v_ep_pumpTo v_e_fitting v_e_firstPair v_ep_pumpCell v_ep_wanting v_ep_passWidth v_ep_riverWidth v_ep_rain v_ec_pumped v_ec_today v_ec_lacked v_ec_level v_ec_water v_ec_salt v_ec_stack v_ed_day v_ed_water v_ed_salt v_ed_seen v_ed_took v_ed_dryDays v_ed_firstDry v_ed_total q1 q2 q3 (-1 : Int32) u11 u12 u0 u1 u2 u3 u4 u5 u6 u7 u8 u9 u13 u14 u15 i6_0 i6_1 (show rg (-1 : Int32) (-1) (-1) from ⟨by decide, by decide⟩)) (fun o_7_0 o_7_1 o_7_2 o_7_3 o_7_4 o_7_5 o_7_6 o_7_7 o_7_8 o_7_9 o_7_10 o_7_11 o_7_12 o_7_13 o_7_14 o_7_15 o_7_16 o_7_17 o_7_18 o_7_19 o_7_20 o_7_21 p20 => ?_) (fun o_7 p20 => ?_)
          · have g21 : rg o_7_0 0 121 := p20.1
            have g22 : rg o_7_2 (-1) 11 := p20.2.1
            refine ok_if (fun c23 => ?_) (fun c23 => ?_)
            · have w24 : rg q4 0 0 := rg_lex (ti_eq c23) (rg_ley (ti_eq2 c23) (show rg (0 : Int32) 0 0 from ⟨by decide, by decide⟩) w19) (show rg (0 : Int32) 0 0 from ⟨by decide, by decide⟩)
              exact ok_some ⟨g21, g22, trivial⟩
            · have w25 : rg q4 1 1 := rg_nel 1 c23 w19 (show rg (0 : Int32) 0 0 from ⟨by decide, by decide⟩) (by decide)
              exact ok_some ⟨g21, g22, trivial⟩
          · exact p20.elim
        · have w26 : rg q4 2 2147483647 := rg_lty 2 (ti_nle c18) (show rg (1 : Int32) 1 1 from ⟨by decide, by decide⟩) w17 (by decide)
          exact ok_some ⟨u14, u15, trivial⟩

abbrev P_X6_test_S  : Int32 × Int32 × Int32 × Int32 × (Nat → Int32) × (Nat → Int32) × (Nat → Int32) × (Nat → Int32) × Int32 × Int32 × (Nat → Int32) × (Nat → Int32) × (Nat → Int32) × (Nat → Int64) × (Nat → Int32) × Int32 × (Nat → Int32) × (Nat → Int64) × (Nat → Int32) × (Nat → Int32) × (Nat → Int32) × (Nat → Int32) × (Nat → Int32) × (Nat → Int32) → Prop := (fun o : Int32 × Int32 × Int32 × Int32 × (Nat → Int32) × (Nat → Int32) × (Nat → Int32) × (Nat → Int32) × Int32 × Int32 × (Nat → Int32) × (Nat → Int32) × (Nat → Int32) × (Nat → Int64) × (Nat → Int32) × Int32 × (Nat → Int32) × (Nat → Int64) × (Nat → Int32) × (Nat → Int32) × (Nat → Int32) × (Nat → Int32) × (Nat → Int32) × (Nat → Int32) => rg o.1 (-2) 11 ∧ rg o.2.1 0 121 ∧ rg o.2.2.2.1 (-1) 11 ∧ True)
set_option maxRecDepth 100000 in
set_option maxHeartbeats 2000000 in
theorem s_X6_test_S_b44  (v_g_cells : Int32) (v_e_fitting : Int32) (v_e_firstPair : Int32) (v_ep_pumpCell : Int32) (v_ep_wanting : (Nat → Int32)) (v_ep_passWidth : (Nat → Int32)) (v_ep_riverWidth : (Nat → Int32)) (v_ep_rain : (Nat → Int32)) (v_ec_pumped : Int32) (v_ec_today : Int32) (v_ec_lacked : (Nat → Int32)) (v_ec_level : (Nat → Int32)) (v_ec_water : (Nat → Int32)) (v_ec_salt : (Nat → Int64)) (v_ec_stack : (Nat → Int32)) (v_ed_day : Int32) (v_ed_water : (Nat → Int32)) (v_ed_salt : (Nat → Int64)) (v_ed_seen : (Nat → Int32)) (v_ed_took : (Nat → Int32)) (v_ed_dryDays : (Nat → Int32)) (v_ed_firstDry : (Nat → Int32)) (v_ed_total : (Nat → Int32)) (v_pl_0 : (Nat → Int32)) (u0 : rg v_g_cells 0 12) (u1 : rg v_e_fitting 0 121) (u2 : rg v_ep_pumpCell (-1) 11)  : ok (f_X6_test_S_b44 v_g_cells v_e_fitting v_e_firstPair v_ep_pumpCell v_ep_wanting v_ep_passWidth v_ep_riverWidth v_ep_rain v_ec_pumped v_ec_today v_ec_lacked v_ec_level v_ec_water v_ec_salt v_ec_stack v_ed_day v_ed_water v_ed_salt v_ed_seen v_ed_took v_ed_dryDays v_ed_firstDry v_ed_total v_pl_0) P_X6_test_S := by
  unfold f_X6_test_S_b44
  refine ok_if (fun c1 => ?_) (fun c1 => ?_)
  · have w2 : rg v_e_fitting 0 0 := rg_lex (ti_eq c1) (rg_ley (ti_eq2 c1) (show rg (0 : Int32) 0 0 from ⟨by decide, by decide⟩) u1) (show rg (0 : Int32) 0 0 from ⟨by decide, by decide⟩)
    exact ok_some ⟨(rg_w (show rg (-2 : Int32) (-2) (-2) from ⟨by decide, by decide⟩) (by decide) (by decide)), (rg_w w2 (by decide) (by decide)), u2, trivial⟩
  · have w3 : rg v_e_fitting 1 121 := rg_nel 1 c1 u1 (show rg (0 : Int32) 0 0 from ⟨by decide, by decide⟩) (by decide)
    refine ok_bd (s_X2_cellThatParts_S v_e_fitting v_g_cells v_pl_0 (rg_w w3 (by decide) (by decide)) u0) (fun o_2 p4 => ?_)
    have g5 : rg o_2 (-2) 11 := p4.1
    exact ok_some ⟨g5, (rg_w w3 (by decide) (by decide)), u2, trivial⟩
set_option maxRecDepth 100000 in
set_option maxHeartbeats 2000000 in
theorem s_X6_test_S (v_g_cells : Int32) (v_g_passes : Int32) (v_g_rivers : Int32) (v_g_villages : Int32) (v_g_rains : Int32) (v_g_room : (Nat → Int32)) (v_g_water : (Nat → Int32)) (v_g_passFrom : (Nat → Int32)) (v_g_passTo : (Nat → Int32)) (v_g_passWidth : (Nat → Int32)) (v_g_riverCell : (Nat → Int32)) (v_g_riverLevel : (Nat → Int32)) (v_g_riverWidth : (Nat → Int32)) (v_g_riverSalt : (Nat → Int32)) (v_g_villageCell : (Nat → Int32)) (v_g_need : (Nat → Int32)) (v_g_lawEnd : (Nat → Int32)) (v_g_code : (Nat → Int32)) (v_g_rain : (Nat → Int32)) (v_e_told : Int32) (v_e_toldDay : (Nat → Int32)) (v_e_toldCell : (Nat → Int32)) (v_e_toldLevel : (Nat → Int32)) (v_ep_pumpTakes : Int32) (v_ep_pumpFrom : Int32) (v_ep_pumpTo : Int32) (v_e_fitting : Int32) (v_e_firstPair : Int32) (v_ep_pumpCell : Int32) (v_ep_wanting : (Nat → Int32)) (v_ep_passWidth : (Nat → Int32)) (v_ep_riverWidth : (Nat → Int32)) (v_ep_rain : (Nat → Int32)) (v_ec_pumped : Int32) (v_ec_today : Int32) (v_ec_lacked : (Nat → Int32)) (v_ec_level : (Nat → Int32)) (v_ec_water : (Nat → Int32)) (v_ec_salt : (Nat → Int64)) (v_ec_stack : (Nat → Int32)) (v_ed_day : Int32) (v_ed_water : (Nat → Int32)) (v_ed_salt : (Nat → Int64)) (v_ed_seen : (Nat → Int32)) (v_ed_took : (Nat → Int32)) (v_ed_dryDays : (Nat → Int32)) (v_ed_firstDry : (Nat → Int32)) (v_ed_total : (Nat → Int32)) (v_pl_0 : (Nat → Int32)) (q1 : Int32) (q2 : Int32) (q3 : Int32) (q4 : Int32) (u0 : rg v_g_cells 0 12) (u1 : rg v_g_passes 0 20) (u2 : rg v_g_rivers 0 3) (u3 : rg v_g_villages 0 6) (u4 : rg v_g_rains 0 14) (u5 : ac v_g_passFrom v_g_passes 0 11) (u6 : ac v_g_passTo v_g_passes 0 11) (u7 : ac v_g_riverCell v_g_rivers 0 11) (u8 : ac v_g_villageCell v_g_villages 0 11) (u9 : al v_g_lawEnd 0 400) (u10 : rg v_e_told 0 20) (u11 : al v_e_toldDay 0 199) (u12 : al v_e_toldCell 0 11) (u13 : rg v_ep_pumpFrom 0 13) (u14 : rg v_e_fitting 0 121) (u15 : rg v_ep_pumpCell (-1) 11) : ok (f_X6_test_S v_g_cells v_g_passes v_g_rivers v_g_villages v_g_rains v_g_room v_g_water v_g_passFrom v_g_passTo v_g_passWidth v_g_riverCell v_g_riverLevel v_g_riverWidth v_g_riverSalt v_g_villageCell v_g_need v_g_lawEnd v_g_code v_g_rain v_e_told v_e_toldDay v_e_toldCell v_e_toldLevel v_ep_pumpTakes v_ep_pumpFrom v_ep_pumpTo v_e_fitting v_e_firstPair v_ep_pumpCell v_ep_wanting v_ep_passWidth v_ep_riverWidth v_ep_rain v_ec_pumped v_ec_today v_ec_lacked v_ec_level v_ec_water v_ec_salt v_ec_stack v_ed_day v_ed_water v_ed_salt v_ed_seen v_ed_took v_ed_dryDays v_ed_firstDry v_ed_total v_pl_0 q1 q2 q3 q4) P_X6_test_S := by
  unfold f_X6_test_S
  refine ok_bd (s_X6_arePair v_g_passes q1 q2 u1) (fun o_1 p1 => ?_)
  have g2 : rg o_1 0 1 := p1.1
  refine ok_if (fun c4 => ?_) (fun c4 => ?_)
  · have w5 : rg o_1 0 0 := rg_lex (ti_eq c4) (rg_ley (ti_eq2 c4) (show rg (0 : Int32) 0 0 from ⟨by decide, by decide⟩) g2) (show rg (0 : Int32) 0 0 from ⟨by decide, by decide⟩)
    exact ok_some ⟨(rg_w (show rg (-1 : Int32) (-1) (-1) from ⟨by decide, by decide⟩) (by decide) (by decide)), u14, u15, trivial⟩
  · obtain ⟨i6_0, i6_1⟩ := p1.2.1.resolve_left c4
    have w7 : rg o_1 1 1 := rg_nel 1 c4 g2 (show rg (0 : Int32) 0 0 from ⟨by decide, by decide⟩) (by decide)
    refine ok_bd (s_X6_isKnown v_e_told q3 u10) (fun o_3 p8 => ?_)
    have g9 : rg o_3 0 1 := p8.1
    refine ok_if (fun c11 => ?_) (fun c11 => ?_)
    · have w12 : rg o_3 0 0 := rg_lex (ti_eq c11) (rg_ley (ti_eq2 c11) (show rg (0 : Int32) 0 0 from ⟨by decide, by decide⟩) g9) (show rg (0 : Int32) 0 0 from ⟨by decide, by decide⟩)
      exact ok_some ⟨(rg_w (show rg (-1 : Int32) (-1) (-1) from ⟨by decide, by decide⟩) (by decide) (by decide)), u14, u15, trivial⟩
    · obtain i13_0 := p8.2.1.resolve_left c11
      have w14 : rg o_3 1 1 := rg_nel 1 c11 g9 (show rg (0 : Int32) 0 0 from ⟨by decide, by decide⟩) (by decide)
      refine ok_if (fun c15 => ?_) (fun c15 => ?_)
      · have w16 : rg q4 (-2147483648) (-1) := rg_ltx (-1) (ti_lt c15) (rg_any q4) (show rg (0 : Int32) 0 0 from ⟨by decide, by decide⟩) (by decide)
        exact ok_some ⟨(rg_w (show rg (-1 : Int32) (-1) (-1) from ⟨by decide, by decide⟩) (by decide) (by decide)), u14, u15, trivial⟩
      · have w17 : rg q4 0 2147483647 := rg_ley (ti_nlt c15) (show rg (0 : Int32) 0 0 from ⟨by decide, by decide⟩) (rg_any q4)
        refine ok_if (fun c18 => ?_) (fun c18 => ?_)
        · have w19 : rg q4 0 199 := rg_ltx 199 (ti_lt c18) w17 (show rg (200 : Int32) 200 200 from ⟨by decide, by decide⟩) (by decide)
          refine ok_bd23 (s_X2_fitPairs_S v_e_toldDay v_e_toldCell v_e_toldLevel v_g_cells v_g_passes v_g_rivers v_g_villages v_g_rains v_g_room v_g_water v_g_passFrom v_g_passTo v_g_passWidth v_g_riverCell v_g_riverLevel v_g_riverWidth v_g_riverSalt v_g_villageCell v_g_need v_g_lawEnd v_g_code v_g_rain v_ep_pumpTakes v_ep_pumpFrom v_ep_pumpTo v_e_fitting v_e_firstPair v_ep_pumpCell v_ep_wanting v_ep_passWidth v_ep_riverWidth v_ep_rain v_ec_pumped v_ec_today v_ec_lacked v_ec_level v_ec_water v_ec_salt v_ec_stack v_ed_day v_ed_water v_ed_salt v_ed_seen v_ed_took v_ed_dryDays v_ed_firstDry v_ed_total v_pl_0 q1 q2 q3 q4 u11 u12 u0 u1 u2 u3 u4 u5 u6 u7 u8 u9 u13 u14 u15 i6_0 i6_1 (rg_w w19 (by decide) (by decide))) (fun o_7_0 o_7_1 o_7_2 o_7_3 o_7_4 o_7_5 o_7_6 o_7_7 o_7_8 o_7_9 o_7_10 o_7_11 o_7_12 o_7_13 o_7_14 o_7_15 o_7_16 o_7_17 o_7_18 o_7_19 o_7_20 o_7_21 o_7_22 p20 => ?_)
          have g21 : rg o_7_0 0 121 := p20.1
          have g22 : rg o_7_2 (-1) 11 := p20.2.1
          exact s_X6_test_S_b44 v_g_cells o_7_0 o_7_1 o_7_2 o_7_3 o_7_4 o_7_5 o_7_6 o_7_7 o_7_8 o_7_9 o_7_10 o_7_11 o_7_12 o_7_13 o_7_14 o_7_15 o_7_16 o_7_17 o_7_18 o_7_19 o_7_20 o_7_21 o_7_22 u0 g21 g22
        · have w23 : rg q4 200 2147483647 := rg_ley (ti_nlt c18) (show rg (200 : Int32) 200 200 from ⟨by decide, by decide⟩) w17
          exact ok_some ⟨(rg_w (show rg (-1 : Int32) (-1) (-1) from ⟨by decide, by decide⟩) (by decide) (by decide)), u14, u15, trivial⟩

abbrev P_X6_test_N  : Int32 × Int32 × Int32 × Int32 × (Nat → Int32) × (Nat → Int32) × (Nat → Int32) × (Nat → Int32) × Int32 × Int32 × (Nat → Int32) × (Nat → Int32) × (Nat → Int32) × (Nat → Int64) × (Nat → Int32) × Int32 × (Nat → Int32) × (Nat → Int64) × (Nat → Int32) × (Nat → Int32) × (Nat → Int32) × (Nat → Int32) × (Nat → Int32) → Prop := (fun o : Int32 × Int32 × Int32 × Int32 × (Nat → Int32) × (Nat → Int32) × (Nat → Int32) × (Nat → Int32) × Int32 × Int32 × (Nat → Int32) × (Nat → Int32) × (Nat → Int32) × (Nat → Int64) × (Nat → Int32) × Int32 × (Nat → Int32) × (Nat → Int64) × (Nat → Int32) × (Nat → Int32) × (Nat → Int32) × (Nat → Int32) × (Nat → Int32) => rg o.1 (-2) 11 ∧ rg o.2.1 0 121 ∧ rg o.2.2.2.1 (-1) 11 ∧ True)
set_option maxRecDepth 100000 in
set_option maxHeartbeats 2000000 in
theorem s_X6_test_N (v_g_cells : Int32) (v_g_passes : Int32) (v_g_rivers : Int32) (v_g_villages : Int32) (v_g_rains : Int32) (v_g_room : (Nat → Int32)) (v_g_water : (Nat → Int32)) (v_g_passFrom : (Nat → Int32)) (v_g_passTo : (Nat → Int32)) (v_g_passWidth : (Nat → Int32)) (v_g_riverCell : (Nat → Int32)) (v_g_riverLevel : (Nat → Int32)) (v_g_riverWidth : (Nat → Int32)) (v_g_riverSalt : (Nat → Int32)) (v_g_villageCell : (Nat → Int32)) (v_g_need : (Nat → Int32)) (v_g_lawEnd : (Nat → Int32)) (v_g_code : (Nat → Int32)) (v_g_rain : (Nat → Int32)) (v_e_told : Int32) (v_e_toldDay : (Nat → Int32)) (v_e_toldCell : (Nat → Int32)) (v_e_toldLevel : (Nat → Int32)) (v_ep_pumpTakes : Int32) (v_ep_pumpFrom : Int32) (v_ep_pumpTo : Int32) (v_e_fitting : Int32) (v_e_firstPair : Int32) (v_ep_pumpCell : Int32) (v_ep_wanting : (Nat → Int32)) (v_ep_passWidth : (Nat → Int32)) (v_ep_riverWidth : (Nat → Int32)) (v_ep_rain : (Nat → Int32)) (v_ec_pumped : Int32) (v_ec_today : Int32) (v_ec_lacked : (Nat → Int32)) (v_ec_level : (Nat → Int32)) (v_ec_water : (Nat → Int32)) (v_ec_salt : (Nat → Int64)) (v_ec_stack : (Nat → Int32)) (v_ed_day : Int32) (v_ed_water : (Nat → Int32)) (v_ed_salt : (Nat → Int64)) (v_ed_seen : (Nat → Int32)) (v_ed_took : (Nat → Int32)) (v_ed_dryDays : (Nat → Int32)) (v_ed_firstDry : (Nat → Int32)) (v_ed_total : (Nat → Int32)) (q1 : Int32) (q2 : Int32) (q3 : Int32) (q4 : Int32) (u0 : rg v_g_cells 0 12) (u1 : rg v_g_passes 0 20) (u2 : rg v_g_rivers 0 3) (u3 : rg v_g_villages 0 6) (u4 : rg v_g_rains 0 14) (u5 : ac v_g_passFrom v_g_passes 0 11) (u6 : ac v_g_passTo v_g_passes 0 11) (u7 : ac v_g_riverCell v_g_rivers 0 11) (u8 : ac v_g_villageCell v_g_villages 0 11) (u9 : al v_g_lawEnd 0 400) (u10 : rg v_e_told 0 20) (u11 : al v_e_toldDay 0 199) (u12 : al v_e_toldCell 0 11) (u13 : rg v_ep_pumpFrom 0 13) (u14 : rg v_e_fitting 0 121) (u15 : rg v_ep_pumpCell (-1) 11) : ok (f_X6_test_N v_g_cells v_g_passes v_g_rivers v_g_villages v_g_rains v_g_room v_g_water v_g_passFrom v_g_passTo v_g_passWidth v_g_riverCell v_g_riverLevel v_g_riverWidth v_g_riverSalt v_g_villageCell v_g_need v_g_lawEnd v_g_code v_g_rain v_e_told v_e_toldDay v_e_toldCell v_e_toldLevel v_ep_pumpTakes v_ep_pumpFrom v_ep_pumpTo v_e_fitting v_e_firstPair v_ep_pumpCell v_ep_wanting v_ep_passWidth v_ep_riverWidth v_ep_rain v_ec_pumped v_ec_today v_ec_lacked v_ec_level v_ec_water v_ec_salt v_ec_stack v_ed_day v_ed_water v_ed_salt v_ed_seen v_ed_took v_ed_dryDays v_ed_firstDry v_ed_total q1 q2 q3 q4) (Sum.elim P_X6_test_N P_X6_test_S) := by
  unfold f_X6_test_N
  refine ok_bd (s_X6_arePair v_g_passes q1 q2 u1) (fun o_1 p1 => ?_)
  have g2 : rg o_1 0 1 := p1.1
  refine ok_if (fun c4 => ?_) (fun c4 => ?_)
  · have w5 : rg o_1 0 0 := rg_lex (ti_eq c4) (rg_ley (ti_eq2 c4) (show rg (0 : Int32) 0 0 from ⟨by decide, by decide⟩) g2) (show rg (0 : Int32) 0 0 from ⟨by decide, by decide⟩)
    exact ok_inl ⟨(rg_w (show rg (-1 : Int32) (-1) (-1) from ⟨by decide, by decide⟩) (by decide) (by decide)), u14, u15, trivial⟩
  · obtain ⟨i6_0, i6_1⟩ := p1.2.1.resolve_left c4
    have w7 : rg o_1 1 1 := rg_nel 1 c4 g2 (show rg (0 : Int32) 0 0 from ⟨by decide, by decide⟩) (by decide)
    refine ok_bd (s_X6_isKnown v_e_told q3 u10) (fun o_3 p8 => ?_)
    have g9 : rg o_3 0 1 := p8.1
    refine ok_if (fun c11 => ?_) (fun c11 => ?_)
    · have w12 : rg o_3 0 0 := rg_lex (ti_eq c11) (rg_ley (ti_eq2 c11) (show rg (0 : Int32) 0 0 from ⟨by decide, by decide⟩) g9) (show rg (0 : Int32) 0 0 from ⟨by decide, by decide⟩)
      exact ok_inl ⟨(rg_w (show rg (-1 : Int32) (-1) (-1) from ⟨by decide, by decide⟩) (by decide) (by decide)), u14, u15, trivial⟩
    · obtain i13_0 := p8.2.1.resolve_left c11
      have w14 : rg o_3 1 1 := rg_nel 1 c11 g9 (show rg (0 : Int32) 0 0 from ⟨by decide, by decide⟩) (by decide)
      refine ok_if (fun c15 => ?_) (fun c15 => ?_)
      · have w16 : rg q4 (-2147483648) (-1) := rg_ltx (-1) (ti_lt c15) (rg_any q4) (show rg (0 : Int32) 0 0 from ⟨by decide, by decide⟩) (by decide)
        exact ok_inl ⟨(rg_w (show rg (-1 : Int32) (-1) (-1) from ⟨by decide, by decide⟩) (by decide) (by decide)), u14, u15, trivial⟩
      · have w17 : rg q4 0 2147483647 := rg_ley (ti_nlt c15) (show rg (0 : Int32) 0 0 from ⟨by decide, by decide⟩) (rg_any q4)
        refine ok_if (fun c18 => ?_) (fun c18 => ?_)
        · have w19 : rg q4 0 199 := rg_ltx 199 (ti_lt c18) w17 (show rg (200 : Int32) 200 200 from ⟨by decide, by decide⟩) (by decide)
          refine ok_bsu22 (s_X2_fitPairs_N v_e_toldDay v_e_toldCell v_e_toldLevel v_g_cells v_g_passes v_g_rivers v_g_villages v_g_rains v_g_room v_g_water v_g_passFrom v_g_passTo v_g_passWidth v_g_riverCell v_g_riverLevel v_g_riverWidth v_g_riverSalt v_g_villageCell v_g_need v_g_lawEnd v_g_code v_g_rain v_ep_pumpTakes v_ep_pumpFrom v_ep_pumpTo v_e_fitting v_e_firstPair v_ep_pumpCell v_ep_wanting v_ep_passWidth v_ep_riverWidth v_ep_rain v_ec_pumped v_ec_today v_ec_lacked v_ec_level v_ec_water v_ec_salt v_ec_stack v_ed_day v_ed_water v_ed_salt v_ed_seen v_ed_took v_ed_dryDays v_ed_firstDry v_ed_total q1 q2 q3 q4 u11 u12 u0 u1 u2 u3 u4 u5 u6 u7 u8 u9 u13 u14 u15 i6_0 i6_1 (rg_w w19 (by decide) (by decide))) (fun o_7_0 o_7_1 o_7_2 o_7_3 o_7_4 o_7_5 o_7_6 o_7_7 o_7_8 o_7_9 o_7_10 o_7_11 o_7_12 o_7_13 o_7_14 o_7_15 o_7_16 o_7_17 o_7_18 o_7_19 o_7_20 o_7_21 p20 => ?_) (fun o_7 p20 => ?_)
          · have g21 : rg o_7_0 0 121 := p20.1
            have g22 : rg o_7_2 (-1) 11 := p20.2.1
            refine ok_if (fun c23 => ?_) (fun c23 => ?_)
            · have w24 : rg o_7_0 0 0 := rg_lex (ti_eq c23) (rg_ley (ti_eq2 c23) (show rg (0 : Int32) 0 0 from ⟨by decide, by decide⟩) g21) (show rg (0 : Int32) 0 0 from ⟨by decide, by decide⟩)
              exact ok_inl ⟨(rg_w (show rg (-2 : Int32) (-2) (-2) from ⟨by decide, by decide⟩) (by decide) (by decide)), (rg_w w24 (by decide) (by decide)), g22, trivial⟩
            · have w25 : rg o_7_0 1 121 := rg_nel 1 c23 g21 (show rg (0 : Int32) 0 0 from ⟨by decide, by decide⟩) (by decide)
              refine ok_bd (s_X2_cellThatParts_N v_g_cells u0) (fun o_9 p26 => ?_)
              have g27 : rg o_9 (-2) 11 := p26.1
              exact ok_inl ⟨g27, (rg_w w25 (by decide) (by decide)), g22, trivial⟩
          · obtain ⟨o_7_0, o_7_1, o_7_2, o_7_3, o_7_4, o_7_5, o_7_6, o_7_7, o_7_8, o_7_9, o_7_10, o_7_11, o_7_12, o_7_13, o_7_14, o_7_15, o_7_16, o_7_17, o_7_18, o_7_19, o_7_20, o_7_21, o_7_22⟩ := o_7
            dsimp only [un23]
            have g28 : rg o_7_0 0 121 := p20.1
            have g29 : rg o_7_2 (-1) 11 := p20.2.1
            exact ok_mapS (s_X6_test_S_b44 v_g_cells o_7_0 o_7_1 o_7_2 o_7_3 o_7_4 o_7_5 o_7_6 o_7_7 o_7_8 o_7_9 o_7_10 o_7_11 o_7_12 o_7_13 o_7_14 o_7_15 o_7_16 o_7_17 o_7_18 o_7_19 o_7_20 o_7_21 o_7_22 u0 g28 g29)
        · have w30 : rg q4 200 2147483647 := rg_ley (ti_nlt c18) (show rg (200 : Int32) 200 200 from ⟨by decide, by decide⟩) w17
          exact ok_inl ⟨(rg_w (show rg (-1 : Int32) (-1) (-1) from ⟨by decide, by decide⟩) (by decide) (by decide)), u14, u15, trivial⟩
