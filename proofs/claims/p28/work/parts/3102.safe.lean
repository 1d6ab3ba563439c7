abbrev P_X5_scan  : (Nat → Int32) × (Nat → Int32) × (Nat → Int64) → Prop := (fun o : (Nat → Int32) × (Nat → Int32) × (Nat → Int64) => sn o.1 0 ∧ True)
set_option maxRecDepth 100000 in
set_option maxHeartbeats 2000000 in
theorem s_X5_scan_b54 (k5 : (Nat → Int32) → (Nat → Int32) → (Nat → Int64) → Int32 → Int32 → Int32 → Option ((Nat → Int32) × (Nat → Int32) × (Nat → Int64)))  (v_r_kind : (Nat → Int32)) (v_r_start : (Nat → Int32)) (v_r_value : (Nat → Int64)) (x4 : Int32)  (u0 : rg x4 0 402) (hk5 : ∀ (v_r_kind' : (Nat → Int32)) (v_r_start' : (Nat → Int32)) (v_r_value' : (Nat → Int64)) (x2' : Int32) (x3' : Int32) (x4' : Int32), rg x2' 0 2000 → rg x3' 0 2000 → rg x4' 0 402 → x4.toInt < x4'.toInt → ok (k5 v_r_kind' v_r_start' v_r_value' x2' x3' x4') P_X5_scan) : ok (f_X5_scan_b54 k5 v_r_kind v_r_start v_r_value x4) P_X5_scan := by
  unfold f_X5_scan_b54
  refine ok_ck (inb_rg u0 (by decide) (by decide)) ?_
  refine ok_nm (fun a_2 ea_2 => ?_)
  exact ok_some ⟨(sn_upd ea_2 u0 (by decide) (by decide) (by decide)), trivial⟩
set_option maxRecDepth 100000 in
set_option maxHeartbeats 2000000 in
theorem s_X5_scan_b33 (k5 : (Nat → Int32) → (Nat → Int32) → (Nat → Int64) → Int32 → Int32 → Int32 → Option ((Nat → Int32) × (Nat → Int32) × (Nat → Int64))) (v_tp_0 : (Nat → Int32)) (v_r_kind : (Nat → Int32)) (v_r_start : (Nat → Int32)) (v_r_value : (Nat → Int64)) (x2 : Int32) (x3 : Int32) (x4 : Int32) (u0 : al v_tp_0 (-128) 127) (u1 : rg x2 0 2000) (u2 : rg x3 0 2000) (u3 : rg x4 0 402) (hk5 : ∀ (v_r_kind' : (Nat → Int32)) (v_r_start' : (Nat → Int32)) (v_r_value' : (Nat → Int64)) (x2' : Int32) (x3' : Int32) (x4' : Int32), rg x2' 0 2000 → rg x3' 0 2000 → rg x4' 0 402 → x4.toInt < x4'.toInt → ok (k5 v_r_kind' v_r_start' v_r_value' x2' x3' x4') P_X5_scan) : ok (f_X5_scan_b33 k5 v_tp_0 v_r_kind v_r_start v_r_value x2 x3 x4) P_X5_scan := by
  unfold f_X5_scan_b33
  refine ok_ck (inb_rg u3 (by decide) (by decide)) ?_
  refine ok_nm (fun a_2 ea_2 => ?_)
  refine ok_if (fun c1 => ?_) (fun c1 => ?_)
  · exact s_X5_scan_b54 k5 v_r_kind a_2 v_r_value x4 u3 hk5
  · have w2 : rg x3 0 1999 := rg_ltx 1999 (ti_nle c1) u2 u1 (by decide)
    have w3 : rg x2 1 2000 := rg_lty 1 (ti_nle c1) u2 u1 (by decide)
    refine ok_if (fun c4 => ?_) (fun c4 => ?_)
    · have w5 : rg x4 402 402 := rg_lex (ti_eq c4) (rg_ley (ti_eq2 c4) (show rg (402 : Int32) 402 402 from ⟨by decide, by decide⟩) u3) (show rg (402 : Int32) 402 402 from ⟨by decide, by decide⟩)
      exact s_X5_scan_b54 k5 v_r_kind a_2 v_r_value x4 (rg_w w5 (by decide) (by decide)) hk5
    · have w6 : rg x4 0 401 := rg_neh 401 c4 u3 (show rg (402 : Int32) 402 402 from ⟨by decide, by decide⟩) (by decide)
      refine ok_bd3 (s_X5_scanToken a_2 v_tp_0 v_r_kind v_r_value x4 x2 u0 w6 (rg_w w3 (by decide) (by decide)) (rg_upd ea_2 w2)) (fun o_5_0 o_5_1 o_5_2 p7 => ?_)
      have g8 : rg o_5_0 0 2000 := p7.1
      refine ok_ck (inb_rg w6 (by decide) (by decide)) ?_
      refine ok_if (fun c9 => ?_) (fun c9 => ?_)
      · have w10 : rg (o_5_1 x4.toNatClampNeg) 4 4 := rg_lex (ti_eq c9) (rg_ley (ti_eq2 c9) (show rg (4 : Int32) 4 4 from ⟨by decide, by decide⟩) (rg_any (o_5_1 x4.toNatClampNeg))) (show rg (4 : Int32) 4 4 from ⟨by decide, by decide⟩)
        exact ok_some ⟨(sn_eq c9 w6 (by decide) (by decide) (by decide)), trivial⟩
      · exact hk5 o_5_1 a_2 o_5_2 x2 o_5_0 (x4 + (1 : Int32)) (rg_w w3 (by decide) (by decide)) g8 (rg_w (rg_add (e := 1) (f := 402) w6 (show rg (1 : Int32) 1 1 from ⟨by decide, by decide⟩) (by decide) (by decide) (by decide) (by decide)) (by decide) (by decide)) (lt_ad w6 (show rg (1 : Int32) 1 1 from ⟨by decide, by decide⟩) (by decide) (by decide) (by decide))
set_option maxRecDepth 100000 in
set_option maxHeartbeats 2000000 in
theorem s_X5_scan_b13 (k5 : (Nat → Int32) → (Nat → Int32) → (Nat → Int64) → Int32 → Int32 → Int32 → Option ((Nat → Int32) × (Nat → Int32) × (Nat → Int64))) (v_tp_0 : (Nat → Int32)) (u0 : al v_tp_0 (-128) 127) : ∀ (n : Nat) (v_r_kind : (Nat → Int32)) (v_r_start : (Nat → Int32)) (v_r_value : (Nat → Int64)) (x2 : Int32) (x3 : Int32) (x4 : Int32) (u1 : rg x2 0 2000) (u2 : rg x3 0 2000) (u3 : rg x4 0 402) (hk5 : ∀ (v_r_kind' : (Nat → Int32)) (v_r_start' : (Nat → Int32)) (v_r_value' : (Nat → Int64)) (x2' : Int32) (x3' : Int32) (x4' : Int32), rg x2' 0 2000 → rg x3' 0 2000 → rg x4' 0 402 → x4.toInt < x4'.toInt → ok (k5 v_r_kind' v_r_start' v_r_value' x2' x3' x4') P_X5_scan) (hm : (2000 - x3.toInt).toNat < n), ok (f_X5_scan_b13 k5 v_tp_0 n v_r_kind v_r_start v_r_value x2 x3 x4) P_X5_scan := by
  intro n
  induction n with
  | zero =>
    intro v_r_kind v_r_start v_r_value x2 x3 x4 u1 u2 u3 hk5 hm
    exact absurd hm (Nat.not_lt_zero _)
  | succ n ih =>
    intro v_r_kind v_r_start v_r_value x2 x3 x4 u1 u2 u3 hk5 hm
    show ok (f_X5_scan_b13_st (f_X5_scan_b13 k5 v_tp_0 n) k5 v_tp_0 v_r_kind v_r_start v_r_value x2 x3 x4) P_X5_scan
    unfold f_X5_scan_b13_st
    refine ok_if (fun c1 => ?_) (fun c1 => ?_)
    · exact s_X5_scan_b33 k5 v_tp_0 v_r_kind v_r_start v_r_value x2 x3 x4 u0 u1 u2 u3 hk5
    · have w2 : rg x3 0 1999 := rg_ltx 1999 (ti_nle c1) u2 u1 (by decide)
      have w3 : rg x2 1 2000 := rg_lty 1 (ti_nle c1) u2 u1 (by decide)
      refine ok_ck (inb_rg w2 (by decide) (by decide)) ?_
      refine ok_bd (s_X5_isBlank (v_tp_0 x3.toNatClampNeg)) (fun o_3 p4 => ?_)
      have g5 : rg o_3 0 1 := p4.1
      refine ok_if (fun c6 => ?_) (fun c6 => ?_)
      · have w7 : rg o_3 0 0 := rg_lex (ti_eq c6) (rg_ley (ti_eq2 c6) (show rg (0 : Int32) 0 0 from ⟨by decide, by decide⟩) g5) (show rg (0 : Int32) 0 0 from ⟨by decide, by decide⟩)
        exact s_X5_scan_b33 k5 v_tp_0 v_r_kind v_r_start v_r_value x2 x3 x4 u0 (rg_w w3 (by decide) (by decide)) (rg_w w2 (by decide) (by decide)) u3 hk5
      · have w8 : rg o_3 1 1 := rg_nel 1 c6 g5 (show rg (0 : Int32) 0 0 from ⟨by decide, by decide⟩) (by decide)
        exact ih v_r_kind v_r_start v_r_value x2 (x3 + (1 : Int32)) x4 (rg_w w3 (by decide) (by decide)) (rg_w (rg_add (e := 1) (f := 2000) w2 (show rg (1 : Int32) 1 1 from ⟨by decide, by decide⟩) (by decide) (by decide) (by decide) (by decide)) (by decide) (by decide)) u3 hk5 (ms_up (y := (x3 + (1 : Int32))) (a := 0) hm (lt_ad w2 (show rg (1 : Int32) 1 1 from ⟨by decide, by decide⟩) (by decide) (by decide) (by decide)) (rg_w (rg_add (e := 1) (f := 2000) w2 (show rg (1 : Int32) 1 1 from ⟨by decide, by decide⟩) (by decide) (by decide) (by decide) (by decide)) (by decide) (by decide)))
set_option maxRecDepth 100000 in
set_option maxHeartbeats 2000000 in
theorem s_X5_scan_b5  (v_tp_0 : (Nat → Int32)) (u0 : al v_tp_0 (-128) 127) : ∀ (n : Nat) (v_r_kind : (Nat → Int32)) (v_r_start : (Nat → Int32)) (v_r_value : (Nat → Int64)) (x2 : Int32) (x3 : Int32) (x4 : Int32) (u1 : rg x2 0 2000) (u2 : rg x3 0 2000) (u3 : rg x4 0 402)  (hm : (402 - x4.toInt).toNat < n), ok (f_X5_scan_b5 v_tp_0 n v_r_kind v_r_start v_r_value x2 x3 x4) P_X5_scan := by
  intro n
  induction n with
  | zero =>
    intro v_r_kind v_r_start v_r_value x2 x3 x4 u1 u2 u3 hm
    exact absurd hm (Nat.not_lt_zero _)
  | succ n ih =>
    intro v_r_kind v_r_start v_r_value x2 x3 x4 u1 u2 u3 hm
    show ok (f_X5_scan_b5_st (f_X5_scan_b5 v_tp_0 n) v_tp_0 v_r_kind v_r_start v_r_value x2 x3 x4) P_X5_scan
    unfold f_X5_scan_b5_st
    refine ok_if (fun c1 => ?_) (fun c1 => ?_)
    · have w2 : rg x4 403 402 := rg_ley (ti_le c1) (show rg (403 : Int32) 403 403 from ⟨by decide, by decide⟩) u3
      exact rg_no w2 (by decide)
    · exact s_X5_scan_b13 _ v_tp_0 u0 _ v_r_kind v_r_start v_r_value x2 x3 x4 u1 u2 u3 (by intro v_r_kind' v_r_start' v_r_value' x2' x3' x4' f0 f1 f2 lt; exact ih _ _ _ _ _ _ f0 f1 f2 (ms_up hm lt f2)) (fu_up (a := 0) (h := 2000) u2 (by decide))
set_option maxRecDepth 100000 in
set_option maxHeartbeats 2000000 in
theorem s_X5_scan (v_tp_0 : (Nat → Int32)) (v_r_kind : (Nat → Int32)) (v_r_start : (Nat → Int32)) (v_r_value : (Nat → Int64)) (q2 : Int32) (u0 : al v_tp_0 (-128) 127) (u1 : rg q2 0 2000) : ok (f_X5_scan v_tp_0 v_r_kind v_r_start v_r_value q2) P_X5_scan := by
  unfold f_X5_scan
  exact s_X5_scan_b5 v_tp_0 u0 _ v_r_kind v_r_start v_r_value q2 (0 : Int32) (0 : Int32) u1 (rg_w (show rg (0 : Int32) 0 0 from ⟨by decide, by decide⟩) (by decide) (by decide)) (rg_w (show rg (0 : Int32) 0 0 from ⟨by decide, by decide⟩) (by decide) (by decide)) (fu_up (a := 0) (h := 402) (rg_w (show rg (0 : Int32) 0 0 from ⟨by decide, by decide⟩) (by decide) (by decide)) (by decide))

abbrev P_X5_note (z_v_r_fault : Int32) : Int32 × Int32 → Prop := (fun o : Int32 × Int32 => mn z_v_r_fault o.1 ∧ ¬ o.1 = 0 ∧ True)
set_option maxRecDepth 100000 in
set_option maxHeartbeats 2000000 in
theorem s_X5_note_b15  (z_v_r_fault : Int32) (v_r_fault : Int32) (v_r_faultPlace : Int32) (x1 : Int32) (x2 : Int32)  (u0 : rg x1 1 5) (u1 : mn z_v_r_fault v_r_fault)  : ok (f_X5_note_b15  v_r_fault v_r_faultPlace x1 x2) (P_X5_note z_v_r_fault) := by
  unfold f_X5_note_b15
  exact ok_some ⟨(mn_nz u0 (by decide)), (ne_rg u0 (by decide)), trivial⟩
set_option maxRecDepth 100000 in
set_option maxHeartbeats 2000000 in
theorem s_X5_note (v_r_fault : Int32) (v_r_faultPlace : Int32) (q1 : Int32) (q2 : Int32) (u0 : rg q1 1 5) : ok (f_X5_note v_r_fault v_r_faultPlace q1 q2) (P_X5_note v_r_fault) := by
  unfold f_X5_note
  refine ok_if (fun c1 => ?_) (fun c1 => ?_)
  · have w2 : rg v_r_fault 0 0 := rg_lex (ti_eq c1) (rg_ley (ti_eq2 c1) (show rg (0 : Int32) 0 0 from ⟨by decide, by decide⟩) (rg_any v_r_fault)) (show rg (0 : Int32) 0 0 from ⟨by decide, by decide⟩)
    exact s_X5_note_b15 v_r_fault v_r_fault v_r_faultPlace q1 q2 u0 mn_rf
  · refine ok_if (fun c3 => ?_) (fun c3 => ?_)
    · exact ok_some ⟨mn_rf, c1, trivial⟩
    · have w4 : rg q2 (-2147483648) 2147483646 := rg_ltx 2147483646 (ti_nle c3) (rg_any q2) (rg_any v_r_faultPlace) (by decide)
      have w5 : rg v_r_faultPlace (-2147483647) 2147483647 := rg_lty (-2147483647) (ti_nle c3) (rg_any q2) (rg_any v_r_faultPlace) (by decide)
      exact s_X5_note_b15 v_r_fault v_r_fault v_r_faultPlace q1 q2 u0 mn_rf

abbrev P_X5_stop (z_v_r_fault : Int32) : Int32 × Int32 × Int32 → Prop := (fun o : Int32 × Int32 × Int32 => mn z_v_r_fault o.2.1 ∧ sp o.1 o.2.1 ∧ ¬ o.2.1 = 0 ∧ True)
set_option maxRecDepth 100000 in
set_option maxHeartbeats 2000000 in
theorem s_X5_stop (v_r_stopped : Int32) (v_r_fault : Int32) (v_r_faultPlace : Int32) (q1 : Int32) (q2 : Int32) (u0 : sp v_r_stopped v_r_fault) (u1 : rg q1 1 5) : ok (f_X5_stop v_r_stopped v_r_fault v_r_faultPlace q1 q2) (P_X5_stop v_r_fault) := by
  unfold f_X5_stop
  refine ok_bd2 (s_X5_note v_r_fault v_r_faultPlace q1 q2 u1) (fun o_1_0 o_1_1 p1 => ?_)
  have g2 : mn v_r_fault o_1_0 := p1.1
  have g3 : ¬ o_1_0 = 0 := p1.2.1
  exact ok_some ⟨g2, (Or.inr g3), g3, trivial⟩

abbrev P_X5_later (z_v_r_laterFault : Int32) : Int32 × Int32 → Prop := (fun o : Int32 × Int32 => mn z_v_r_laterFault o.1 ∧ ¬ o.1 = 0 ∧ True)
set_option maxRecDepth 100000 in
set_option maxHeartbeats 2000000 in
theorem s_X5_later (v_r_next : Int32) (v_r_start : (Nat → Int32)) (v_r_laterFault : Int32) (v_r_laterPlace : Int32) (q1 : Int32) (u0 : rg v_r_next 0 402) (u1 : rg q1 1 5) (u2 : rg v_r_next 1 402) : ok (f_X5_later v_r_next v_r_start v_r_laterFault v_r_laterPlace q1) (P_X5_later v_r_laterFault) := by
  unfold f_X5_later
  refine ok_if (fun c1 => ?_) (fun c1 => ?_)
  · have w2 : rg v_r_laterFault 0 0 := rg_lex (ti_eq c1) (rg_ley (ti_eq2 c1) (show rg (0 : Int32) 0 0 from ⟨by decide, by decide⟩) (rg_any v_r_laterFault)) (show rg (0 : Int32) 0 0 from ⟨by decide, by decide⟩)
    refine ok_if (fun c3 => ?_) (fun c3 => ?_)
    · have w4 : rg v_r_next 1 0 := rg_lex (ti_le c3) u2 (show rg (0 : Int32) 0 0 from ⟨by decide, by decide⟩)
      exact rg_no w4 (by decide)
    · refine ok_ck (inb_rg (rg_sub (e := 0) (f := 401) u2 (show rg (1 : Int32) 1 1 from ⟨by decide, by decide⟩) (by decide) (by decide) (by decide) (by decide)) (by decide) (by decide)) ?_
      refine ok_nm (fun e_4 ee_4 => ?_)
      exact ok_some ⟨(mn_nz u1 (by decide)), (ne_rg u1 (by decide)), trivial⟩
  · exact ok_some ⟨mn_rf, c1, trivial⟩

abbrev P_X5_accept (z_v_r_next : Int32) (z_v_r_fault : Int32) (v_r_kind : (Nat → Int32)) : Int32 × Int32 × Int32 × Int32 × Int32 → Prop := (fun o : Int32 × Int32 × Int32 × Int32 × Int32 => rg o.1 0 1 ∧ (o.1 = 0 ∨ (rg (o.2.1) 1 402)) ∧ rg o.2.1 0 402 ∧ nx z_v_r_next o.2.1 ∧ mn z_v_r_fault o.2.2.2.1 ∧ sp o.2.2.1 o.2.2.2.1 ∧ sn v_r_kind o.2.1 ∧ (¬ o.1 = 0 ∨ ¬ o.2.2.2.1 = 0) ∧ True)
set_option maxRecDepth 100000 in
set_option maxHeartbeats 2000000 in
theorem s_X5_accept (v_r_kind : (Nat → Int32)) (v_r_start : (Nat → Int32)) (v_r_next : Int32) (v_r_stopped : Int32) (v_r_fault : Int32) (v_r_faultPlace : Int32) (q1 : Int32) (u0 : rg v_r_next 0 402) (u1 : sp v_r_stopped v_r_fault) (u2 : sn v_r_kind v_r_next) (u3 : n34 q1) : ok (f_X5_accept v_r_kind v_r_start v_r_next v_r_stopped v_r_fault v_r_faultPlace q1) (P_X5_accept v_r_next v_r_fault v_r_kind) := by
  unfold f_X5_accept
  refine ok_if (fun c1 => ?_) (fun c1 => ?_)
  · have w2 : rg v_r_stopped 0 0 := rg_lex (ti_eq c1) (rg_ley (ti_eq2 c1) (show rg (0 : Int32) 0 0 from ⟨by decide, by decide⟩) (rg_any v_r_stopped)) (show rg (0 : Int32) 0 0 from ⟨by decide, by decide⟩)
    refine ok_ck (inb_rg u0 (by decide) (by decide)) ?_
    refine ok_if (fun c3 => ?_) (fun c3 => ?_)
    · refine ok_if (fun c4 => ?_) (fun c4 => ?_)
      · have w5 : rg v_r_next 0 399 := rg_ltx 399 (ti_lt c4) u0 (show rg (400 : Int32) 400 400 from ⟨by decide, by decide⟩) (by decide)
        unfold f_X5_accept_b62
        exact ok_some ⟨(rg_w (show rg (1 : Int32) 1 1 from ⟨by decide, by decide⟩) (by decide) (by decide)), (Or.inr (rg_w (rg_add (e := 1) (f := 400) w5 (show rg (1 : Int32) 1 1 from ⟨by decide, by decide⟩) (by decide) (by decide) (by decide) (by decide)) (by decide) (by decide))), (rg_w (rg_add (e := 1) (f := 400) w5 (show rg (1 : Int32) 1 1 from ⟨by decide, by decide⟩) (by decide) (by decide) (by decide) (by decide)) (by decide) (by decide)), (nx_add nx_rf w5 (show rg (1 : Int32) 1 1 from ⟨by decide, by decide⟩) (by decide) (by decide)), mn_rf, u1, (sn_st u2 w5 c3 u3), (Or.inl (ne_rg (show rg (1 : Int32) 1 1 from ⟨by decide, by decide⟩) (by decide))), trivial⟩
      · have w6 : rg v_r_next 400 402 := rg_ley (ti_nlt c4) (show rg (400 : Int32) 400 400 from ⟨by decide, by decide⟩) u0
        refine ok_ck (inb_rg w6 (by decide) (by decide)) ?_
        refine ok_bd2 (s_X5_note v_r_fault v_r_faultPlace (2 : Int32) (v_r_start v_r_next.toNatClampNeg) (rg_w (show rg (2 : Int32) 2 2 from ⟨by decide, by decide⟩) (by decide) (by decide))) (fun o_6_0 o_6_1 p7 => ?_)
        have g8 : mn v_r_fault o_6_0 := p7.1
        have g9 : ¬ o_6_0 = 0 := p7.2.1
        unfold f_X5_accept_b62
        exact ok_some ⟨(rg_w (show rg (1 : Int32) 1 1 from ⟨by decide, by decide⟩) (by decide) (by decide)), (Or.inr (rg_w (sn_rg (sn_st u2 w6 c3 u3) (rg_w (rg_add (e := 401) (f := 403) w6 (show rg (1 : Int32) 1 1 from ⟨by decide, by decide⟩) (by decide) (by decide) (by decide) (by decide)) (Int.le_refl _) (by decide))) (by decide) (by decide))), (rg_w (sn_rg (sn_st u2 w6 c3 u3) (rg_w (rg_add (e := 401) (f := 403) w6 (show rg (1 : Int32) 1 1 from ⟨by decide, by decide⟩) (by decide) (by decide) (by decide) (by decide)) (Int.le_refl _) (by decide))) (by decide) (by decide)), (nx_add nx_rf w6 (show rg (1 : Int32) 1 1 from ⟨by decide, by decide⟩) (by decide) (by decide)), g8, (Or.inr g9), (sn_st u2 w6 c3 u3), (Or.inl (ne_rg (show rg (1 : Int32) 1 1 from ⟨by decide, by decide⟩) (by decide))), trivial⟩
    · refine ok_ck (inb_rg u0 (by decide) (by decide)) ?_
      refine ok_bd3 (s_X5_stop v_r_stopped v_r_fault v_r_faultPlace (1 : Int32) (v_r_start v_r_next.toNatClampNeg) u1 (rg_w (show rg (1 : Int32) 1 1 from ⟨by decide, by decide⟩) (by decide) (by decide))) (fun o_8_0 o_8_1 o_8_2 p10 => ?_)
      have g11 : mn v_r_fault o_8_1 := p10.1
      have g12 : sp o_8_0 o_8_1 := p10.2.1
      have g13 : ¬ o_8_1 = 0 := p10.2.2.1
      exact ok_some ⟨(rg_w (show rg (0 : Int32) 0 0 from ⟨by decide, by decide⟩) (by decide) (by decide)), (Or.inl rfl), u0, nx_rf, g11, g12, u2, (Or.inr g13), trivial⟩
  · exact ok_some ⟨(rg_w (show rg (0 : Int32) 0 0 from ⟨by decide, by decide⟩) (by decide) (by decide)), (Or.inl rfl), u0, nx_rf, mn_rf, u1, u2, (Or.inr (u1.resolve_left c1)), trivial⟩

abbrev P_X5_opens (q1 : Int32) (q2 : Int32) (z_v_r_next : Int32) (z_v_r_fault : Int32) (v_r_kind : (Nat → Int32)) : Int32 × Int32 × Int32 × Int32 × Int32 → Prop := (fun o : Int32 × Int32 × Int32 × Int32 × Int32 => rg o.1 0 1 ∧ (o.1 = 0 ∨ (q1.toInt < q2.toInt ∧ rg (o.2.1) 1 402)) ∧ rg o.2.1 0 402 ∧ nx z_v_r_next o.2.1 ∧ mn z_v_r_fault o.2.2.2.1 ∧ sp o.2.2.1 o.2.2.2.1 ∧ sn v_r_kind o.2.1 ∧ True)
set_option maxRecDepth 100000 in
set_option maxHeartbeats 2000000 in
theorem s_X5_opens (v_r_kind : (Nat → Int32)) (v_r_start : (Nat → Int32)) (v_r_next : Int32) (v_r_stopped : Int32) (v_r_fault : Int32) (v_r_faultPlace : Int32) (q1 : Int32) (q2 : Int32) (u0 : rg v_r_next 0 402) (u1 : sp v_r_stopped v_r_fault) (u2 : sn v_r_kind v_r_next) (u3 : rg (v_r_kind v_r_next.toNatClampNeg) 5 2147483647) : ok (f_X5_opens v_r_kind v_r_start v_r_next v_r_stopped v_r_fault v_r_faultPlace q1 q2) (P_X5_opens q1 q2 v_r_next v_r_fault v_r_kind) := by
  unfold f_X5_opens
  refine ok_if (fun c1 => ?_) (fun c1 => ?_)
  · have w2 : rg q1 (-2147483648) 2147483646 := rg_ltx 2147483646 (ti_lt c1) (rg_any q1) (rg_any q2) (by decide)
    have w3 : rg q2 (-2147483647) 2147483647 := rg_lty (-2147483647) (ti_lt c1) (rg_any q1) (rg_any q2) (by decide)
    refine ok_ck (inb_rg u0 (by decide) (by decide)) ?_
    refine ok_bd5 (s_X5_accept v_r_kind v_r_start v_r_next v_r_stopped v_r_fault v_r_faultPlace (v_r_kind v_r_next.toNatClampNeg) u0 u1 u2 (n34_rg u3 (by decide))) (fun o_3_0 o_3_1 o_3_2 o_3_3 o_3_4 p4 => ?_)
    have g5 : rg o_3_0 0 1 := p4.1
    have g7 : rg o_3_1 0 402 := p4.2.2.1
    have g8 : nx v_r_next o_3_1 := p4.2.2.2.1
    have g9 : mn v_r_fault o_3_3 := p4.2.2.2.2.1
    have g10 : sp o_3_2 o_3_3 := p4.2.2.2.2.2.1
    have g11 : sn v_r_kind o_3_1 := p4.2.2.2.2.2.2.1
    refine ok_ck (isz_rg g5) ?_
    exact ok_some ⟨g5, (p4.2.1.imp_right (fun y0 => ⟨(ti_lt c1), y0⟩)), g7, g8, g9, g10, g11, trivial⟩
  · refine ok_ck (inb_rg u0 (by decide) (by decide)) ?_
    refine ok_bd3 (s_X5_stop v_r_stopped v_r_fault v_r_faultPlace (2 : Int32) (v_r_start v_r_next.toNatClampNeg) u1 (rg_w (show rg (2 : Int32) 2 2 from ⟨by decide, by decide⟩) (by decide) (by decide))) (fun o_6_0 o_6_1 o_6_2 p13 => ?_)
    have g14 : mn v_r_fault o_6_1 := p13.1
    have g15 : sp o_6_0 o_6_1 := p13.2.1
    have g16 : ¬ o_6_1 = 0 := p13.2.2.1
    exact ok_some ⟨(rg_w (show rg (0 : Int32) 0 0 from ⟨by decide, by decide⟩) (by decide) (by decide)), (Or.inl rfl), u0, nx_rf, g14, g15, u2, trivial⟩

abbrev P_X5_number (z_v_r_next : Int32) (z_v_r_fault : Int32) (z_v_r_laterFault : Int32) (v_r_kind : (Nat → Int32)) : Int32 × Int32 × Int32 × Int32 × Int32 × Int32 × Int32 → Prop := (fun o : Int32 × Int32 × Int32 × Int32 × Int32 × Int32 × Int32 => rg o.2.1 0 402 ∧ nx z_v_r_next o.2.1 ∧ mn z_v_r_fault o.2.2.2.1 ∧ mn z_v_r_laterFault o.2.2.2.2.2.1 ∧ sp o.2.2.1 o.2.2.2.1 ∧ sn v_r_kind o.2.1 ∧ True)
set_option maxRecDepth 100000 in
set_option maxHeartbeats 2000000 in
theorem s_X5_number_b33  (z_v_r_next : Int32) (z_v_r_fault : Int32) (z_v_r_laterFault : Int32) (v_r_kind : (Nat → Int32)) (v_r_start : (Nat → Int32)) (v_r_next : Int32) (v_r_stopped : Int32) (v_r_fault : Int32) (v_r_faultPlace : Int32) (v_r_laterFault : Int32) (v_r_laterPlace : Int32) (x3 : Int32)  (u0 : rg v_r_next 1 402) (u1 : nx z_v_r_next v_r_next) (u2 : mn z_v_r_fault v_r_fault) (u3 : mn z_v_r_laterFault v_r_laterFault) (u4 : sp v_r_stopped v_r_fault) (u5 : sn v_r_kind v_r_next)  : ok (f_X5_number_b33 v_r_start v_r_next v_r_stopped v_r_fault v_r_faultPlace v_r_laterFault v_r_laterPlace x3) (P_X5_number z_v_r_next z_v_r_fault z_v_r_laterFault v_r_kind) := by
  unfold f_X5_number_b33
  refine ok_bd2 (s_X5_later v_r_next v_r_start v_r_laterFault v_r_laterPlace (5 : Int32) (rg_w u0 (by decide) (by decide)) (rg_w (show rg (5 : Int32) 5 5 from ⟨by decide, by decide⟩) (by decide) (by decide)) u0) (fun o_1_0 o_1_1 p1 => ?_)
  have g2 : mn v_r_laterFault o_1_0 := p1.1
  have g3 : ¬ o_1_0 = 0 := p1.2.1
  exact ok_some ⟨(rg_w u0 (by decide) (by decide)), u1, u2, (mn_of g3), u4, u5, trivial⟩
set_option maxRecDepth 100000 in
set_option maxHeartbeats 2000000 in
theorem s_X5_number (v_r_kind : (Nat → Int32)) (v_r_start : (Nat → Int32)) (v_r_value : (Nat → Int64)) (v_r_next : Int32) (v_r_stopped : Int32) (v_r_fault : Int32) (v_r_faultPlace : Int32) (v_r_laterFault : Int32) (v_r_laterPlace : Int32) (q1 : Int32) (q2 : Int32) (u0 : rg v_r_next 0 402) (u1 : sp v_r_stopped v_r_fault) (u2 : sn v_r_kind v_r_next) : ok (f_X5_number v_r_kind v_r_start v_r_value v_r_next v_r_stopped v_r_fault v_r_faultPlace v_r_laterFault v_r_laterPlace q1 q2) (P_X5_number v_r_next v_r_fault v_r_laterFault v_r_kind) := by
  unfold f_X5_number
  refine ok_bd5 (s_X5_accept v_r_kind v_r_start v_r_next v_r_stopped v_r_fault v_r_faultPlace (2 : Int32) u0 u1 u2 (n34_rg (show rg (2 : Int32) 2 2 from ⟨by decide, by decide⟩) (by decide))) (fun o_1_0 o_1_1 o_1_2 o_1_3 o_1_4 p1 => ?_)
  have g2 : rg o_1_0 0 1 := p1.1
  have g4 : rg o_1_1 0 402 := p1.2.2.1
  have g5 : nx v_r_next o_1_1 := p1.2.2.2.1
  have g6 : mn v_r_fault o_1_3 := p1.2.2.2.2.1
  have g7 : sp o_1_2 o_1_3 := p1.2.2.2.2.2.1
  have g8 : sn v_r_kind o_1_1 := p1.2.2.2.2.2.2.1
  refine ok_if (fun c10 => ?_) (fun c10 => ?_)
  · have n11 := p1.2.2.2.2.2.2.2.1.resolve_left (fun q => q c10)
    have w12 : rg o_1_0 0 0 := rg_lex (ti_eq c10) (rg_ley (ti_eq2 c10) (show rg (0 : Int32) 0 0 from ⟨by decide, by decide⟩) g2) (show rg (0 : Int32) 0 0 from ⟨by decide, by decide⟩)
    exact ok_some ⟨g4, g5, g6, mn_rf, g7, g8, trivial⟩
  · obtain i13_0 := p1.2.1.resolve_left c10
    have w14 : rg o_1_0 1 1 := rg_nel 1 c10 g2 (show rg (0 : Int32) 0 0 from ⟨by decide, by decide⟩) (by decide)
    refine ok_ck (inb_rg (rg_sub (e := 0) (f := 401) i13_0 (show rg (1 : Int32) 1 1 from ⟨by decide, by decide⟩) (by decide) (by decide) (by decide) (by decide)) (by decide) (by decide)) ?_
    refine ok_nm (fun e_4 ee_4 => ?_)
    refine ok_if (fun c15 => ?_) (fun c15 => ?_)
    · have w16 : rg e_4 (-2147483648) 2147483646 := rg_ltx 2147483646 (ti_lt c15) (rg_any e_4) (rg_any q1) (by decide)
      have w17 : rg q1 (-2147483647) 2147483647 := rg_lty (-2147483647) (ti_lt c15) (rg_any e_4) (rg_any q1) (by decide)
      exact s_X5_number_b33 v_r_next v_r_fault v_r_laterFault v_r_kind v_r_start o_1_1 o_1_2 o_1_3 o_1_4 v_r_laterFault v_r_laterPlace e_4 i13_0 g5 g6 mn_rf g7 g8
    · refine ok_if (fun c18 => ?_) (fun c18 => ?_)
      · exact ok_some ⟨(rg_w i13_0 (by decide) (by decide)), g5, g6, mn_rf, g7, g8, trivial⟩
      · have w19 : rg q2 (-2147483648) 2147483646 := rg_ltx 2147483646 (ti_nle c18) (rg_any q2) (rg_any e_4) (by decide)
        have w20 : rg e_4 (-2147483647) 2147483647 := rg_lty (-2147483647) (ti_nle c18) (rg_any q2) (rg_any e_4) (by decide)
        exact s_X5_number_b33 v_r_next v_r_fault v_r_laterFault v_r_kind v_r_start o_1_1 o_1_2 o_1_3 o_1_4 v_r_laterFault v_r_laterPlace e_4 i13_0 g5 g6 mn_rf g7 g8

abbrev P_X5_findCell  : Int32 → Prop := (fun o : Int32 => rg o (-1) 11 ∧ True)
set_option maxRecDepth 100000 in
set_option maxHeartbeats 2000000 in
theorem s_X5_findCell_b2  (v_r_cellName : (Nat → Int64)) (v_g_cells : Int32) (u0 : rg v_g_cells 0 12) : ∀ (n : Nat) (x1 : Int64) (x3 : Int32) (u1 : rg x3 0 12)  (hm : (12 - x3.toInt).toNat < n), ok (f_X5_findCell_b2 v_r_cellName v_g_cells n x1 x3) P_X5_findCell := by
  intro n
  induction n with
  | zero =>
    intro x1 x3 u1 hm
    exact absurd hm (Nat.not_lt_zero _)
  | succ n ih =>
    intro x1 x3 u1 hm
    show ok (f_X5_findCell_b2_st (f_X5_findCell_b2 v_r_cellName v_g_cells n) v_r_cellName v_g_cells x1 x3) P_X5_findCell
    unfold f_X5_findCell_b2_st
    refine ok_if (fun c1 => ?_) (fun c1 => ?_)
    · exact ok_some ⟨(rg_w (show rg (-1 : Int32) (-1) (-1) from ⟨by decide, by decide⟩) (by decide) (by decide)), trivial⟩
    · have w2 : rg x3 0 11 := rg_ltx 11 (ti_nle c1) u1 u0 (by decide)
      have w3 : rg v_g_cells 1 12 := rg_lty 1 (ti_nle c1) u1 u0 (by decide)
      refine ok_ck (inb_rg w2 (by decide) (by decide)) ?_
      refine ok_if (fun c4 => ?_) (fun c4 => ?_)
      · have w5 : rg (lg_cmp (v_r_cellName x3.toNatClampNeg) x1) 0 0 := rg_lex (ti_eq c4) (rg_ley (ti_eq2 c4) (show rg (0 : Int32) 0 0 from ⟨by decide, by decide⟩) (rg_any (lg_cmp (v_r_cellName x3.toNatClampNeg) x1))) (show rg (0 : Int32) 0 0 from ⟨by decide, by decide⟩)
        exact ok_some ⟨(rg_w w2 (by decide) (by decide)), trivial⟩
      · exact ih x1 (x3 + (1 : Int32)) (rg_w (rg_add (e := 1) (f := 12) w2 (show rg (1 : Int32) 1 1 from ⟨by decide, by decide⟩) (by decide) (by decide) (by decide) (by decide)) (by decide) (by decide)) (ms_up (y := (x3 + (1 : Int32))) (a := 0) hm (lt_ad w2 (show rg (1 : Int32) 1 1 from ⟨by decide, by decide⟩) (by decide) (by decide) (by decide)) (rg_w (rg_add (e := 1) (f := 12) w2 (show rg (1 : Int32) 1 1 from ⟨by decide, by decide⟩) (by decide) (by decide) (by decide) (by decide)) (by decide) (by decide)))
set_option maxRecDepth 100000 in
set_option maxHeartbeats 2000000 in
theorem s_X5_findCell (v_r_cellName : (Nat → Int64)) (v_g_cells : Int32) (q1 : Int64) (u0 : rg v_g_cells 0 12) : ok (f_X5_findCell v_r_cellName v_g_cells q1) P_X5_findCell := by
  unfold f_X5_findCell
  exact s_X5_findCell_b2 v_r_cellName v_g_cells u0 _ q1 (0 : Int32) (rg_w (show rg (0 : Int32) 0 0 from ⟨by decide, by decide⟩) (by decide) (by decide)) (fu_up (a := 0) (h := 12) (rg_w (show rg (0 : Int32) 0 0 from ⟨by decide, by decide⟩) (by decide) (by decide)) (by decide))

abbrev P_X5_newName (z_v_r_next : Int32) (z_v_r_fault : Int32) (z_v_r_laterFault : Int32) (v_r_kind : (Nat → Int32)) : Int64 × Int32 × Int32 × Int32 × Int32 × Int32 × Int32 → Prop := (fun o : Int64 × Int32 × Int32 × Int32 × Int32 × Int32 × Int32 => rg o.2.1 0 402 ∧ nx z_v_r_next o.2.1 ∧ mn z_v_r_fault o.2.2.2.1 ∧ mn z_v_r_laterFault o.2.2.2.2.2.1 ∧ sp o.2.2.1 o.2.2.2.1 ∧ sn v_r_kind o.2.1 ∧ True)
set_option maxRecDepth 100000 in
set_option maxHeartbeats 2000000 in
theorem s_X5_newName_b40  (z_v_r_next : Int32) (z_v_r_fault : Int32) (z_v_r_laterFault : Int32) (v_r_kind : (Nat → Int32)) (v_r_start : (Nat → Int32)) (v_r_villageName : (Nat → Int64)) (v_g_villages : Int32) (u0 : rg v_g_villages 0 6) : ∀ (n : Nat) (v_r_next : Int32) (v_r_stopped : Int32) (v_r_fault : Int32) (v_r_faultPlace : Int32) (v_r_laterFault : Int32) (v_r_laterPlace : Int32) (x1 : Int64) (x3 : Int32) (x4 : Int32) (u1 : rg v_r_next 1 402) (u2 : rg x3 0 1) (u3 : rg x4 0 6) (u4 : nx z_v_r_next v_r_next) (u5 : mn z_v_r_fault v_r_fault) (u6 : mn z_v_r_laterFault v_r_laterFault) (u7 : sp v_r_stopped v_r_fault) (u8 : sn v_r_kind v_r_next) (u9 : x3.toInt ≤ v_r_next.toInt)  (hm : (6 - x4.toInt).toNat < n), ok (f_X5_newName_b40 v_r_start v_r_villageName v_g_villages n v_r_next v_r_stopped v_r_fault v_r_faultPlace v_r_laterFault v_r_laterPlace x1 x3 x4) (P_X5_newName z_v_r_next z_v_r_fault z_v_r_laterFault v_r_kind) := by
  intro n
  induction n with
  | zero =>
    intro v_r_next v_r_stopped v_r_fault v_r_faultPlace v_r_laterFault v_r_laterPlace x1 x3 x4 u1 u2 u3 u4 u5 u6 u7 u8 u9 hm
    exact absurd hm (Nat.not_lt_zero _)
  | succ n ih =>
    intro v_r_next v_r_stopped v_r_fault v_r_faultPlace v_r_laterFault v_r_laterPlace x1 x3 x4 u1 u2 u3 u4 u5 u6 u7 u8 u9 hm
    show ok (f_X5_newName_b40_st (f_X5_newName_b40 v_r_start v_r_villageName v_g_villages n) v_r_start v_r_villageName v_g_villages v_r_next v_r_stopped v_r_fault v_r_faultPlace v_r_laterFault v_r_laterPlace x1 x3 x4) (P_X5_newName z_v_r_next z_v_r_fault z_v_r_laterFault v_r_kind)
    unfold f_X5_newName_b40_st
    refine ok_if (fun c1 => ?_) (fun c1 => ?_)
    · refine ok_if (fun c2 => ?_) (fun c2 => ?_)
      · have w3 : rg x3 0 0 := rg_lex (ti_eq c2) (rg_ley (ti_eq2 c2) (show rg (0 : Int32) 0 0 from ⟨by decide, by decide⟩) u2) (show rg (0 : Int32) 0 0 from ⟨by decide, by decide⟩)
        exact ok_some ⟨(rg_w u1 (by decide) (by decide)), u4, u5, u6, u7, u8, trivial⟩
      · have w4 : rg x3 1 1 := rg_nel 1 c2 u2 (show rg (0 : Int32) 0 0 from ⟨by decide, by decide⟩) (by decide)
        refine ok_bd2 (s_X5_later v_r_next v_r_start v_r_laterFault v_r_laterPlace (3 : Int32) (rg_w u1 (by decide) (by decide)) (rg_w (show rg (3 : Int32) 3 3 from ⟨by decide, by decide⟩) (by decide) (by decide)) u1) (fun o_3_0 o_3_1 p5 => ?_)
        have g6 : mn v_r_laterFault o_3_0 := p5.1
        have g7 : ¬ o_3_0 = 0 := p5.2.1
        exact ok_some ⟨(rg_w u1 (by decide) (by decide)), u4, u5, (mn_of g7), u7, u8, trivial⟩
    · have w8 : rg x4 0 5 := rg_ltx 5 (ti_nle c1) u3 u0 (by decide)
      have w9 : rg v_g_villages 1 6 := rg_lty 1 (ti_nle c1) u3 u0 (by decide)
      refine ok_if (fun c10 => ?_) (fun c10 => ?_)
      · have w11 : rg x3 0 0 := rg_lex (ti_eq c10) (rg_ley (ti_eq2 c10) (show rg (0 : Int32) 0 0 from ⟨by decide, by decide⟩) u2) (show rg (0 : Int32) 0 0 from ⟨by decide, by decide⟩)
        refine ok_ck (inb_rg w8 (by decide) (by decide)) ?_
        refine ok_if (fun c12 => ?_) (fun c12 => ?_)
        · have w13 : rg (lg_cmp (v_r_villageName x4.toNatClampNeg) x1) 0 0 := rg_lex (ti_eq c12) (rg_ley (ti_eq2 c12) (show rg (0 : Int32) 0 0 from ⟨by decide, by decide⟩) (rg_any (lg_cmp (v_r_villageName x4.toNatClampNeg) x1))) (show rg (0 : Int32) 0 0 from ⟨by decide, by decide⟩)
          exact ih v_r_next v_r_stopped v_r_fault v_r_faultPlace v_r_laterFault v_r_laterPlace x1 (1 : Int32) (x4 + (1 : Int32)) u1 (rg_w (show rg (1 : Int32) 1 1 from ⟨by decide, by decide⟩) (by decide) (by decide)) (rg_w (rg_add (e := 1) (f := 6) w8 (show rg (1 : Int32) 1 1 from ⟨by decide, by decide⟩) (by decide) (by decide) (by decide) (by decide)) (by decide) (by decide)) u4 u5 u6 u7 u8 (Int.le_trans (show rg (1 : Int32) 1 1 from ⟨by decide, by decide⟩).2 (Int.le_trans (by decide) u1.1)) (ms_up (y := (x4 + (1 : Int32))) (a := 0) hm (lt_ad w8 (show rg (1 : Int32) 1 1 from ⟨by decide, by decide⟩) (by decide) (by decide) (by decide)) (rg_w (rg_add (e := 1) (f := 6) w8 (show rg (1 : Int32) 1 1 from ⟨by decide, by decide⟩) (by decide) (by decide) (by decide) (by decide)) (by decide) (by decide)))
        · exact ih v_r_next v_r_stopped v_r_fault v_r_faultPlace v_r_laterFault v_r_laterPlace x1 (0 : Int32) (x4 + (1 : Int32)) u1 (rg_w (show rg (0 : Int32) 0 0 from ⟨by decide, by decide⟩) (by decide) (by decide)) (rg_w (rg_add (e := 1) (f := 6) w8 (show rg (1 : Int32) 1 1 from ⟨by decide, by decide⟩) (by decide) (by decide) (by decide) (by decide)) (by decide) (by decide)) u4 u5 u6 u7 u8 (Int.le_trans (show rg (0 : Int32) 0 0 from ⟨by decide, by decide⟩).2 (Int.le_trans (by decide) u1.1)) (ms_up (y := (x4 + (1 : Int32))) (a := 0) hm (lt_ad w8 (show rg (1 : Int32) 1 1 from ⟨by decide, by decide⟩) (by decide) (by decide) (by decide)) (rg_w (rg_add (e := 1) (f := 6) w8 (show rg (1 : Int32) 1 1 from ⟨by decide, by decide⟩) (by decide) (by decide) (by decide) (by decide)) (by decide) (by decide)))
      · have w14 : rg x3 1 1 := rg_nel 1 c10 u2 (show rg (0 : Int32) 0 0 from ⟨by decide, by decide⟩) (by decide)
        exact ih v_r_next v_r_stopped v_r_fault v_r_faultPlace v_r_laterFault v_r_laterPlace x1 (1 : Int32) (x4 + (1 : Int32)) u1 (rg_w (show rg (1 : Int32) 1 1 from ⟨by decide, by decide⟩) (by decide) (by decide)) (rg_w (rg_add (e := 1) (f := 6) w8 (show rg (1 : Int32) 1 1 from ⟨by decide, by decide⟩) (by decide) (by decide) (by decide) (by decide)) (by decide) (by decide)) u4 u5 u6 u7 u8 (Int.le_trans (show rg (1 : Int32) 1 1 from ⟨by decide, by decide⟩).2 (Int.le_trans (by decide) u1.1)) (ms_up (y := (x4 + (1 : Int32))) (a := 0) hm (lt_ad w8 (show rg (1 : Int32) 1 1 from ⟨by decide, by decide⟩) (by decide) (by decide) (by decide)) (rg_w (rg_add (e := 1) (f := 6) w8 (show rg (1 : Int32) 1 1 from ⟨by decide, by decide⟩) (by decide) (by decide) (by decide) (by decide)) (by decide) (by decide)))
set_option maxRecDepth 100000 in
set_option maxHeartbeats 2000000 in
theorem s_X5_newName (v_r_kind : (Nat → Int32)) (v_r_start : (Nat → Int32)) (v_r_value : (Nat → Int64)) (v_r_cellName : (Nat → Int64)) (v_r_villageName : (Nat → Int64)) (v_g_cells : Int32) (v_g_villages : Int32) (v_r_next : Int32) (v_r_stopped : Int32) (v_r_fault : Int32) (v_r_faultPlace : Int32) (v_r_laterFault : Int32) (v_r_laterPlace : Int32) (u0 : rg v_g_cells 0 12) (u1 : rg v_g_villages 0 6) (u2 : rg v_r_next 0 402) (u3 : sp v_r_stopped v_r_fault) (u4 : sn v_r_kind v_r_next) : ok (f_X5_newName v_r_kind v_r_start v_r_value v_r_cellName v_r_villageName v_g_cells v_g_villages v_r_next v_r_stopped v_r_fault v_r_faultPlace v_r_laterFault v_r_laterPlace) (P_X5_newName v_r_next v_r_fault v_r_laterFault v_r_kind) := by
  unfold f_X5_newName
  refine ok_bd5 (s_X5_accept v_r_kind v_r_start v_r_next v_r_stopped v_r_fault v_r_faultPlace (1 : Int32) u2 u3 u4 (n34_rg (show rg (1 : Int32) 1 1 from ⟨by decide, by decide⟩) (by decide))) (fun o_1_0 o_1_1 o_1_2 o_1_3 o_1_4 p1 => ?_)
  have g2 : rg o_1_0 0 1 := p1.1
  have g4 : rg o_1_1 0 402 := p1.2.2.1
  have g5 : nx v_r_next o_1_1 := p1.2.2.2.1
  have g6 : mn v_r_fault o_1_3 := p1.2.2.2.2.1
  have g7 : sp o_1_2 o_1_3 := p1.2.2.2.2.2.1
  have g8 : sn v_r_kind o_1_1 := p1.2.2.2.2.2.2.1
  refine ok_if (fun c10 => ?_) (fun c10 => ?_)
  · have n11 := p1.2.2.2.2.2.2.2.1.resolve_left (fun q => q c10)
    have w12 : rg o_1_0 0 0 := rg_lex (ti_eq c10) (rg_ley (ti_eq2 c10) (show rg (0 : Int32) 0 0 from ⟨by decide, by decide⟩) g2) (show rg (0 : Int32) 0 0 from ⟨by decide, by decide⟩)
    exact ok_some ⟨g4, g5, g6, mn_rf, g7, g8, trivial⟩
  · obtain i13_0 := p1.2.1.resolve_left c10
    have w14 : rg o_1_0 1 1 := rg_nel 1 c10 g2 (show rg (0 : Int32) 0 0 from ⟨by decide, by decide⟩) (by decide)
    refine ok_ck (inb_rg (rg_sub (e := 0) (f := 401) i13_0 (show rg (1 : Int32) 1 1 from ⟨by decide, by decide⟩) (by decide) (by decide) (by decide) (by decide)) (by decide) (by decide)) ?_
    refine ok_bd (s_X5_findCell v_r_cellName v_g_cells (v_r_value (o_1_1 - (1 : Int32)).toNatClampNeg) u0) (fun o_4 p15 => ?_)
    have g16 : rg o_4 (-1) 11 := p15.1
    refine ok_if (fun c17 => ?_) (fun c17 => ?_)
    · have w18 : rg o_4 (-1) (-1) := rg_lex (ti_eq c17) (rg_ley (ti_eq2 c17) (show rg (-1 : Int32) (-1) (-1) from ⟨by decide, by decide⟩) g16) (show rg (-1 : Int32) (-1) (-1) from ⟨by decide, by decide⟩)
      exact s_X5_newName_b40 v_r_next v_r_fault v_r_laterFault v_r_kind v_r_start v_r_villageName v_g_villages u1 _ o_1_1 o_1_2 o_1_3 o_1_4 v_r_laterFault v_r_laterPlace (v_r_value (o_1_1 - (1 : Int32)).toNatClampNeg) (0 : Int32) (0 : Int32) i13_0 (rg_w (show rg (0 : Int32) 0 0 from ⟨by decide, by decide⟩) (by decide) (by decide)) (rg_w (show rg (0 : Int32) 0 0 from ⟨by decide, by decide⟩) (by decide) (by decide)) g5 g6 mn_rf g7 g8 (Int.le_trans (show rg (0 : Int32) 0 0 from ⟨by decide, by decide⟩).2 (Int.le_trans (by decide) i13_0.1)) (fu_up (a := 0) (h := 6) (rg_w (show rg (0 : Int32) 0 0 from ⟨by decide, by decide⟩) (by decide) (by decide)) (by decide))
    · have w19 : rg o_4 0 11 := rg_nel 0 c17 g16 (show rg (-1 : Int32) (-1) (-1) from ⟨by decide, by decide⟩) (by decide)
      exact s_X5_newName_b40 v_r_next v_r_fault v_r_laterFault v_r_kind v_r_start v_r_villageName v_g_villages u1 _ o_1_1 o_1_2 o_1_3 o_1_4 v_r_laterFault v_r_laterPlace (v_r_value (o_1_1 - (1 : Int32)).toNatClampNeg) (1 : Int32) (0 : Int32) i13_0 (rg_w (show rg (1 : Int32) 1 1 from ⟨by decide, by decide⟩) (by decide) (by decide)) (rg_w (show rg (0 : Int32) 0 0 from ⟨by decide, by decide⟩) (by decide) (by decide)) g5 g6 mn_rf g7 g8 (Int.le_trans (show rg (1 : Int32) 1 1 from ⟨by decide, by decide⟩).2 (Int.le_trans (by decide) i13_0.1)) (fu_up (a := 0) (h := 6) (rg_w (show rg (0 : Int32) 0 0 from ⟨by decide, by decide⟩) (by decide) (by decide)) (by decide))

abbrev P_X5_knownCell (z_v_r_next : Int32) (z_v_r_fault : Int32) (z_v_r_laterFault : Int32) (v_r_kind : (Nat → Int32)) : Int32 × Int32 × Int32 × Int32 × Int32 × Int32 × Int32 → Prop := (fun o : Int32 × Int32 × Int32 × Int32 × Int32 × Int32 × Int32 => rg o.1 (-1) 11 ∧ rg o.2.1 0 402 ∧ nx z_v_r_next o.2.1 ∧ mn z_v_r_fault o.2.2.2.1 ∧ mn z_v_r_laterFault o.2.2.2.2.2.1 ∧ sp o.2.2.1 o.2.2.2.1 ∧ sn v_r_kind o.2.1 ∧ (¬ o.1 = (-1) ∨ ¬ o.2.2.2.1 = 0 ∨ ¬ o.2.2.2.2.2.1 = 0) ∧ True)
set_option maxRecDepth 100000 in
set_option maxHeartbeats 2000000 in
theorem s_X5_knownCell (v_r_kind : (Nat → Int32)) (v_r_start : (Nat → Int32)) (v_r_value : (Nat → Int64)) (v_r_cellName : (Nat → Int64)) (v_g_cells : Int32) (v_r_next : Int32) (v_r_stopped : Int32) (v_r_fault : Int32) (v_r_faultPlace : Int32) (v_r_laterFault : Int32) (v_r_laterPlace : Int32) (u0 : rg v_g_cells 0 12) (u1 : rg v_r_next 0 402) (u2 : sp v_r_stopped v_r_fault) (u3 : sn v_r_kind v_r_next) : ok (f_X5_knownCell v_r_kind v_r_start v_r_value v_r_cellName v_g_cells v_r_next v_r_stopped v_r_fault v_r_faultPlace v_r_laterFault v_r_laterPlace) (P_X5_knownCell v_r_next v_r_fault v_r_laterFault v_r_kind) := by
  unfold f_X5_knownCell
  refine ok_bd5 (s_X5_accept v_r_kind v_r_start v_r_next v_r_stopped v_r_fault v_r_faultPlace (1 : Int32) u1 u2 u3 (n34_rg (show rg (1 : Int32) 1 1 from ⟨by decide, by decide⟩) (by decide))) (fun o_1_0 o_1_1 o_1_2 o_1_3 o_1_4 p1 => ?_)
  have g2 : rg o_1_0 0 1 := p1.1
  have g4 : rg o_1_1 0 402 := p1.2.2.1
  have g5 : nx v_r_next o_1_1 := p1.2.2.2.1
  have g6 : mn v_r_fault o_1_3 := p1.2.2.2.2.1
  have g7 : sp o_1_2 o_1_3 := p1.2.2.2.2.2.1
  have g8 : sn v_r_kind o_1_1 := p1.2.2.2.2.2.2.1
  refine ok_if (fun c10 => ?_) (fun c10 => ?_)
  · have n11 := p1.2.2.2.2.2.2.2.1.resolve_left (fun q => q c10)
    have w12 : rg o_1_0 0 0 := rg_lex (ti_eq c10) (rg_ley (ti_eq2 c10) (show rg (0 : Int32) 0 0 from ⟨by decide, by decide⟩) g2) (show rg (0 : Int32) 0 0 from ⟨by decide, by decide⟩)
    exact ok_some ⟨(rg_w (show rg (-1 : Int32) (-1) (-1) from ⟨by decide, by decide⟩) (by decide) (by decide)), g4, g5, g6, mn_rf, g7, g8, (Or.inr (Or.inl n11)), trivial⟩
  · obtain i13_0 := p1.2.1.resolve_left c10
    have w14 : rg o_1_0 1 1 := rg_nel 1 c10 g2 (show rg (0 : Int32) 0 0 from ⟨by decide, by decide⟩) (by decide)
    refine ok_ck (inb_rg (rg_sub (e := 0) (f := 401) i13_0 (show rg (1 : Int32) 1 1 from ⟨by decide, by decide⟩) (by decide) (by decide) (by decide) (by decide)) (by decide) (by decide)) ?_
    refine ok_bd (s_X5_findCell v_r_cellName v_g_cells (v_r_value (o_1_1 - (1 : Int32)).toNatClampNeg) u0) (fun o_4 p15 => ?_)
    have g16 : rg o_4 (-1) 11 := p15.1
    refine ok_if (fun c17 => ?_) (fun c17 => ?_)
    · have w18 : rg o_4 (-1) (-1) := rg_lex (ti_eq c17) (rg_ley (ti_eq2 c17) (show rg (-1 : Int32) (-1) (-1) from ⟨by decide, by decide⟩) g16) (show rg (-1 : Int32) (-1) (-1) from ⟨by decide, by decide⟩)
      refine ok_bd2 (s_X5_later o_1_1 v_r_start v_r_laterFault v_r_laterPlace (4 : Int32) (rg_w i13_0 (by decide) (by decide)) (rg_w (show rg (4 : Int32) 4 4 from ⟨by decide, by decide⟩) (by decide) (by decide)) i13_0) (fun o_6_0 o_6_1 p19 => ?_)
      have g20 : mn v_r_laterFault o_6_0 := p19.1
      have g21 : ¬ o_6_0 = 0 := p19.2.1
      exact ok_some ⟨(rg_w w18 (by decide) (by decide)), (rg_w i13_0 (by decide) (by decide)), g5, g6, g20, g7, g8, (Or.inr (Or.inr g21)), trivial⟩
    · have w22 : rg o_4 0 11 := rg_nel 0 c17 g16 (show rg (-1 : Int32) (-1) (-1) from ⟨by decide, by decide⟩) (by decide)
      exact ok_some ⟨(rg_w w22 (by decide) (by decide)), (rg_w i13_0 (by decide) (by decide)), g5, g6, mn_rf, g7, g8, (Or.inl (ne_rg w22 (by decide))), trivial⟩

abbrev P_X5_addWay (z_v_r_fault : Int32) : Int32 × Int32 × Int32 × (Nat → Int32) → Prop := (fun o : Int32 × Int32 × Int32 × (Nat → Int32) => mn z_v_r_fault o.2.1 ∧ sp o.1 o.2.1 ∧ True)
set_option maxRecDepth 100000 in
set_option maxHeartbeats 2000000 in
theorem s_X5_addWay (v_r_stopped : Int32) (v_r_fault : Int32) (v_r_faultPlace : Int32) (v_g_ways : (Nat → Int32)) (q1 : Int32) (q2 : Int32) (u0 : sp v_r_stopped v_r_fault) (u1 : rg q1 0 11) : ok (f_X5_addWay v_r_stopped v_r_fault v_r_faultPlace v_g_ways q1 q2) (P_X5_addWay v_r_fault) := by
  unfold f_X5_addWay
  refine ok_ck (inb_rg u1 (by decide) (by decide)) ?_
  refine ok_if (fun c1 => ?_) (fun c1 => ?_)
  · have w2 : rg (v_g_ways q1.toNatClampNeg) (-2147483648) 7 := rg_ltx 7 (ti_lt c1) (rg_any (v_g_ways q1.toNatClampNeg)) (show rg (8 : Int32) 8 8 from ⟨by decide, by decide⟩) (by decide)
    refine ok_ck (inb_rg u1 (by decide) (by decide)) ?_
    refine ok_ck (inb_rg u1 (by decide) (by decide)) ?_
    refine ok_nm (fun a_5 ea_5 => ?_)
    exact ok_some ⟨mn_rf, u0, trivial⟩
  · have w3 : rg (v_g_ways q1.toNatClampNeg) 8 2147483647 := rg_ley (ti_nlt c1) (show rg (8 : Int32) 8 8 from ⟨by decide, by decide⟩) (rg_any (v_g_ways q1.toNatClampNeg))
    refine ok_bd3 (s_X5_stop v_r_stopped v_r_fault v_r_faultPlace (2 : Int32) q2 u0 (rg_w (show rg (2 : Int32) 2 2 from ⟨by decide, by decide⟩) (by decide) (by decide))) (fun o_6_0 o_6_1 o_6_2 p4 => ?_)
    have g5 : mn v_r_fault o_6_1 := p4.1
    have g6 : sp o_6_0 o_6_1 := p4.2.1
    have g7 : ¬ o_6_1 = 0 := p4.2.2.1
    exact ok_some ⟨g5, g6, trivial⟩

abbrev P_X5_emit  : Int32 × (Nat → Int32) → Prop := (fun o : Int32 × (Nat → Int32) => rg o.1 0 400 ∧ True)
set_option maxRecDepth 100000 in
set_option maxHeartbeats 2000000 in
theorem s_X5_emit (v_r_codeLength : Int32) (v_g_code : (Nat → Int32)) (q1 : Int32) (u0 : rg v_r_codeLength 0 400) : ok (f_X5_emit v_r_codeLength v_g_code q1) P_X5_emit := by
  unfold f_X5_emit
  refine ok_if (fun c1 => ?_) (fun c1 => ?_)
  · have w2 : rg v_r_codeLength 400 400 := rg_ley (ti_le c1) (show rg (400 : Int32) 400 400 from ⟨by decide, by decide⟩) u0
    exact ok_some ⟨(rg_w w2 (by decide) (by decide)), trivial⟩
  · have w3 : rg v_r_codeLength 0 399 := rg_ltx 399 (ti_nle c1) u0 (show rg (400 : Int32) 400 400 from ⟨by decide, by decide⟩) (by decide)
    refine ok_ck (inb_rg w3 (by decide) (by decide)) ?_
    refine ok_nm (fun a_3 ea_3 => ?_)
    exact ok_some ⟨(rg_w (rg_add (e := 1) (f := 400) w3 (show rg (1 : Int32) 1 1 from ⟨by decide, by decide⟩) (by decide) (by decide) (by decide) (by decide)) (by decide) (by decide)), trivial⟩
