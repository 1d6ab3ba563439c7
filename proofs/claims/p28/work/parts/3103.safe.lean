abbrev P_X5_readSum (z_v_r_next : Int32) (z_v_r_fault : Int32) (z_v_r_laterFault : Int32) (v_r_kind : (Nat → Int32)) : Int32 × Int32 × Int32 × Int32 × Int32 × Int32 × Int32 × (Nat → Int32) → Prop := (fun o : Int32 × Int32 × Int32 × Int32 × Int32 × Int32 × Int32 × (Nat → Int32) => rg o.1 0 402 ∧ rg o.2.1 0 400 ∧ nx z_v_r_next o.1 ∧ mn z_v_r_fault o.2.2.2.1 ∧ mn z_v_r_laterFault o.2.2.2.2.2.1 ∧ sp o.2.2.1 o.2.2.2.1 ∧ sn v_r_kind o.1 ∧ True)
def Rok (n : Nat) (R : Int32 → (Nat → Int32) → (Nat → Int32) → (Nat → Int64) → (Nat → Int64) → Int32 → Int32 → Int32 → Int32 → Int32 → Int32 → Int32 → Int32 → (Nat → Int32) → Int32 → Option (Int32 × Int32 × Int32 × Int32 × Int32 × Int32 × Int32 × (Nat → Int32))) : Prop := ∀ (v_r_ownCell : Int32) (v_r_kind : (Nat → Int32)) (v_r_start : (Nat → Int32)) (v_r_value : (Nat → Int64)) (v_r_cellName : (Nat → Int64)) (v_g_cells : Int32) (v_r_next : Int32) (v_r_codeLength : Int32) (v_r_stopped : Int32) (v_r_fault : Int32) (v_r_faultPlace : Int32) (v_r_laterFault : Int32) (v_r_laterPlace : Int32) (v_g_code : (Nat → Int32)) (q1 : Int32), rg v_r_ownCell (-1) 11 → rg v_g_cells 0 12 → rg v_r_next 0 402 → rg v_r_codeLength 0 400 → sp v_r_stopped v_r_fault → sn v_r_kind v_r_next → rg q1 0 6 → 7 ≤ q1.toInt + (n : Int) → ok (R v_r_ownCell v_r_kind v_r_start v_r_value v_r_cellName v_g_cells v_r_next v_r_codeLength v_r_stopped v_r_fault v_r_faultPlace v_r_laterFault v_r_laterPlace v_g_code q1) (P_X5_readSum v_r_next v_r_fault v_r_laterFault v_r_kind)
abbrev P_X5_readNested (z_v_r_next : Int32) (z_v_r_fault : Int32) (z_v_r_laterFault : Int32) (v_r_kind : (Nat → Int32)) : Int32 × Int32 × Int32 × Int32 × Int32 × Int32 × Int32 × (Nat → Int32) → Prop := (fun o : Int32 × Int32 × Int32 × Int32 × Int32 × Int32 × Int32 × (Nat → Int32) => rg o.1 0 402 ∧ rg o.2.1 0 400 ∧ nx z_v_r_next o.1 ∧ mn z_v_r_fault o.2.2.2.1 ∧ mn z_v_r_laterFault o.2.2.2.2.2.1 ∧ sp o.2.2.1 o.2.2.2.1 ∧ sn v_r_kind o.1 ∧ True)
set_option maxRecDepth 100000 in
set_option maxHeartbeats 2000000 in
theorem s_X5_readNested (R : Int32 → (Nat → Int32) → (Nat → Int32) → (Nat → Int64) → (Nat → Int64) → Int32 → Int32 → Int32 → Int32 → Int32 → Int32 → Int32 → Int32 → (Nat → Int32) → Int32 → Option (Int32 × Int32 × Int32 × Int32 × Int32 × Int32 × Int32 × (Nat → Int32))) (n_ : Nat) (hR : Rok n_ R) (v_r_ownCell : Int32) (v_r_kind : (Nat → Int32)) (v_r_start : (Nat → Int32)) (v_r_value : (Nat → Int64)) (v_r_cellName : (Nat → Int64)) (v_g_cells : Int32) (v_r_next : Int32) (v_r_codeLength : Int32) (v_r_stopped : Int32) (v_r_fault : Int32) (v_r_faultPlace : Int32) (v_r_laterFault : Int32) (v_r_laterPlace : Int32) (v_g_code : (Nat → Int32)) (q1 : Int32) (u0 : rg v_r_ownCell (-1) 11) (u1 : rg v_g_cells 0 12) (u2 : rg v_r_next 0 402) (u3 : rg v_r_codeLength 0 400) (u4 : sp v_r_stopped v_r_fault) (u5 : sn v_r_kind v_r_next) (u6 : rg q1 0 6) (u7 : 7 ≤ q1.toInt + (n_ : Int) + 1) : ok (f_X5_readNested R v_r_ownCell v_r_kind v_r_start v_r_value v_r_cellName v_g_cells v_r_next v_r_codeLength v_r_stopped v_r_fault v_r_faultPlace v_r_laterFault v_r_laterPlace v_g_code q1) (P_X5_readNested v_r_next v_r_fault v_r_laterFault v_r_kind) := by
  unfold f_X5_readNested
  refine ok_if (fun c1 => ?_) (fun c1 => ?_)
  · have w2 : rg q1 0 5 := rg_ltx 5 (ti_lt c1) u6 (show rg (6 : Int32) 6 6 from ⟨by decide, by decide⟩) (by decide)
    refine ok_bd5 (s_X5_accept v_r_kind v_r_start v_r_next v_r_stopped v_r_fault v_r_faultPlace (40 : Int32) u2 u4 u5 (n34_rg (show rg (40 : Int32) 40 40 from ⟨by decide, by decide⟩) (by decide))) (fun o_2_0 o_2_1 o_2_2 o_2_3 o_2_4 p3 => ?_)
    have g4 : rg o_2_0 0 1 := p3.1
    have g6 : rg o_2_1 0 402 := p3.2.2.1
    have g7 : nx v_r_next o_2_1 := p3.2.2.2.1
    have g8 : mn v_r_fault o_2_3 := p3.2.2.2.2.1
    have g9 : sp o_2_2 o_2_3 := p3.2.2.2.2.2.1
    have g10 : sn v_r_kind o_2_1 := p3.2.2.2.2.2.2.1
    refine ok_bd8 (hR v_r_ownCell v_r_kind v_r_start v_r_value v_r_cellName v_g_cells o_2_1 v_r_codeLength o_2_2 o_2_3 o_2_4 v_r_laterFault v_r_laterPlace v_g_code (q1 + (1 : Int32)) u0 u1 g6 u3 g9 g10 (rg_w (rg_add (e := 1) (f := 6) w2 (show rg (1 : Int32) 1 1 from ⟨by decide, by decide⟩) (by decide) (by decide) (by decide) (by decide)) (by decide) (by decide)) (dep_st u7 w2 (by decide) (by decide))) (fun o_3_0 o_3_1 o_3_2 o_3_3 o_3_4 o_3_5 o_3_6 o_3_7 p12 => ?_)
    have g13 : rg o_3_0 0 402 := p12.1
    have g14 : rg o_3_1 0 400 := p12.2.1
    have g15 : nx o_2_1 o_3_0 := p12.2.2.1
    have g16 : mn o_2_3 o_3_3 := p12.2.2.2.1
    have g17 : mn v_r_laterFault o_3_5 := p12.2.2.2.2.1
    have g18 : sp o_3_2 o_3_3 := p12.2.2.2.2.2.1
    have g19 : sn v_r_kind o_3_0 := p12.2.2.2.2.2.2.1
    refine ok_bd5 (s_X5_accept v_r_kind v_r_start o_3_0 o_3_2 o_3_3 o_3_4 (41 : Int32) g13 g18 g19 (n34_rg (show rg (41 : Int32) 41 41 from ⟨by decide, by decide⟩) (by decide))) (fun o_4_0 o_4_1 o_4_2 o_4_3 o_4_4 p20 => ?_)
    have g21 : rg o_4_0 0 1 := p20.1
    have g23 : rg o_4_1 0 402 := p20.2.2.1
    have g24 : nx o_3_0 o_4_1 := p20.2.2.2.1
    have g25 : mn o_3_3 o_4_3 := p20.2.2.2.2.1
    have g26 : sp o_4_2 o_4_3 := p20.2.2.2.2.2.1
    have g27 : sn v_r_kind o_4_1 := p20.2.2.2.2.2.2.1
    exact ok_some ⟨g23, g14, (nx_tr (nx_tr g7 g15) g24), (mn_tr (mn_tr g8 g16) g25), g17, g26, g27, trivial⟩
  · have w29 : rg q1 6 6 := rg_ley (ti_nlt c1) (show rg (6 : Int32) 6 6 from ⟨by decide, by decide⟩) u6
    refine ok_ck (inb_rg u2 (by decide) (by decide)) ?_
    refine ok_bd3 (s_X5_stop v_r_stopped v_r_fault v_r_faultPlace (2 : Int32) (v_r_start v_r_next.toNatClampNeg) u4 (rg_w (show rg (2 : Int32) 2 2 from ⟨by decide, by decide⟩) (by decide) (by decide))) (fun o_6_0 o_6_1 o_6_2 p30 => ?_)
    have g31 : mn v_r_fault o_6_1 := p30.1
    have g32 : sp o_6_0 o_6_1 := p30.2.1
    have g33 : ¬ o_6_1 = 0 := p30.2.2.1
    exact ok_some ⟨u2, u3, nx_rf, g31, mn_rf, g32, u5, trivial⟩

abbrev P_X5_readUnit (z_v_r_next : Int32) (z_v_r_fault : Int32) (z_v_r_laterFault : Int32) (v_r_kind : (Nat → Int32)) : Int32 × Int32 × Int32 × Int32 × Int32 × Int32 × Int32 × (Nat → Int32) → Prop := (fun o : Int32 × Int32 × Int32 × Int32 × Int32 × Int32 × Int32 × (Nat → Int32) => rg o.1 0 402 ∧ rg o.2.1 0 400 ∧ nx z_v_r_next o.1 ∧ mn z_v_r_fault o.2.2.2.1 ∧ mn z_v_r_laterFault o.2.2.2.2.2.1 ∧ sp o.2.2.1 o.2.2.2.1 ∧ sn v_r_kind o.1 ∧ True)
set_option maxRecDepth 100000 in
set_option maxHeartbeats 2000000 in
theorem s_X5_readUnit (R : Int32 → (Nat → Int32) → (Nat → Int32) → (Nat → Int64) → (Nat → Int64) → Int32 → Int32 → Int32 → Int32 → Int32 → Int32 → Int32 → Int32 → (Nat → Int32) → Int32 → Option (Int32 × Int32 × Int32 × Int32 × Int32 × Int32 × Int32 × (Nat → Int32))) (n_ : Nat) (hR : Rok n_ R) (v_r_ownCell : Int32) (v_r_kind : (Nat → Int32)) (v_r_start : (Nat → Int32)) (v_r_value : (Nat → Int64)) (v_r_cellName : (Nat → Int64)) (v_g_cells : Int32) (v_r_next : Int32) (v_r_codeLength : Int32) (v_r_stopped : Int32) (v_r_fault : Int32) (v_r_faultPlace : Int32) (v_r_laterFault : Int32) (v_r_laterPlace : Int32) (v_g_code : (Nat → Int32)) (q1 : Int32) (u0 : rg v_r_ownCell (-1) 11) (u1 : rg v_g_cells 0 12) (u2 : rg v_r_next 0 402) (u3 : rg v_r_codeLength 0 400) (u4 : sp v_r_stopped v_r_fault) (u5 : sn v_r_kind v_r_next) (u6 : rg q1 0 6) (u7 : 7 ≤ q1.toInt + (n_ : Int) + 1) : ok (f_X5_readUnit R v_r_ownCell v_r_kind v_r_start v_r_value v_r_cellName v_g_cells v_r_next v_r_codeLength v_r_stopped v_r_fault v_r_faultPlace v_r_laterFault v_r_laterPlace v_g_code q1) (P_X5_readUnit v_r_next v_r_fault v_r_laterFault v_r_kind) := by
  unfold f_X5_readUnit
  refine ok_if (fun c1 => ?_) (fun c1 => ?_)
  · have w2 : rg v_r_stopped 0 0 := rg_lex (ti_eq c1) (rg_ley (ti_eq2 c1) (show rg (0 : Int32) 0 0 from ⟨by decide, by decide⟩) (rg_any v_r_stopped)) (show rg (0 : Int32) 0 0 from ⟨by decide, by decide⟩)
    refine ok_ck (inb_rg u2 (by decide) (by decide)) ?_
    refine ok_if (fun c3 => ?_) (fun c3 => ?_)
    · have w4 : rg (v_r_kind v_r_next.toNatClampNeg) 2 2 := rg_lex (ti_eq c3) (rg_ley (ti_eq2 c3) (show rg (2 : Int32) 2 2 from ⟨by decide, by decide⟩) (rg_any (v_r_kind v_r_next.toNatClampNeg))) (show rg (2 : Int32) 2 2 from ⟨by decide, by decide⟩)
      refine ok_bd7 (s_X5_number v_r_kind v_r_start v_r_value v_r_next v_r_stopped v_r_fault v_r_faultPlace v_r_laterFault v_r_laterPlace (0 : Int32) (9999 : Int32) u2 u4 u5) (fun o_4_0 o_4_1 o_4_2 o_4_3 o_4_4 o_4_5 o_4_6 p5 => ?_)
      have g6 : rg o_4_1 0 402 := p5.1
      have g7 : nx v_r_next o_4_1 := p5.2.1
      have g8 : mn v_r_fault o_4_3 := p5.2.2.1
      have g9 : mn v_r_laterFault o_4_5 := p5.2.2.2.1
      have g10 : sp o_4_2 o_4_3 := p5.2.2.2.2.1
      have g11 : sn v_r_kind o_4_1 := p5.2.2.2.2.2.1
      refine ok_bd2 (s_X5_emit v_r_codeLength v_g_code o_4_0 u3) (fun o_5_0 o_5_1 p12 => ?_)
      have g13 : rg o_5_0 0 400 := p12.1
      exact ok_some ⟨g6, g13, g7, g8, g9, g10, g11, trivial⟩
    · refine ok_if (fun c14 => ?_) (fun c14 => ?_)
      · have w15 : rg (v_r_kind v_r_next.toNatClampNeg) 10 10 := rg_lex (ti_eq c14) (rg_ley (ti_eq2 c14) (show rg (10 : Int32) 10 10 from ⟨by decide, by decide⟩) (rg_any (v_r_kind v_r_next.toNatClampNeg))) (show rg (10 : Int32) 10 10 from ⟨by decide, by decide⟩)
        refine ok_bd5 (s_X5_accept v_r_kind v_r_start v_r_next v_r_stopped v_r_fault v_r_faultPlace (v_r_kind v_r_next.toNatClampNeg) u2 u4 u5 (n34_rg w15 (by decide))) (fun o_7_0 o_7_1 o_7_2 o_7_3 o_7_4 p16 => ?_)
        have g17 : rg o_7_0 0 1 := p16.1
        have g19 : rg o_7_1 0 402 := p16.2.2.1
        have g20 : nx v_r_next o_7_1 := p16.2.2.2.1
        have g21 : mn v_r_fault o_7_3 := p16.2.2.2.2.1
        have g22 : sp o_7_2 o_7_3 := p16.2.2.2.2.2.1
        have g23 : sn v_r_kind o_7_1 := p16.2.2.2.2.2.2.1
        refine ok_bd7 (s_X5_knownCell v_r_kind v_r_start v_r_value v_r_cellName v_g_cells o_7_1 o_7_2 o_7_3 o_7_4 v_r_laterFault v_r_laterPlace u1 g19 g22 g23) (fun o_8_0 o_8_1 o_8_2 o_8_3 o_8_4 o_8_5 o_8_6 p25 => ?_)
        have g26 : rg o_8_0 (-1) 11 := p25.1
        have g27 : rg o_8_1 0 402 := p25.2.1
        have g28 : nx o_7_1 o_8_1 := p25.2.2.1
        have g29 : mn o_7_3 o_8_3 := p25.2.2.2.1
        have g30 : mn v_r_laterFault o_8_5 := p25.2.2.2.2.1
        have g31 : sp o_8_2 o_8_3 := p25.2.2.2.2.2.1
        have g32 : sn v_r_kind o_8_1 := p25.2.2.2.2.2.2.1
        refine ok_bd2 (s_X5_emit v_r_codeLength v_g_code ((-20 : Int32) - o_8_0) u3) (fun o_9_0 o_9_1 p34 => ?_)
        have g35 : rg o_9_0 0 400 := p34.1
        exact ok_some ⟨g27, g35, (nx_tr g20 g28), (mn_tr g21 g29), g30, g31, g32, trivial⟩
      · refine ok_if (fun c36 => ?_) (fun c36 => ?_)
        · have w37 : rg (v_r_kind v_r_next.toNatClampNeg) 11 11 := rg_lex (ti_eq c36) (rg_ley (ti_eq2 c36) (show rg (11 : Int32) 11 11 from ⟨by decide, by decide⟩) (rg_any (v_r_kind v_r_next.toNatClampNeg))) (show rg (11 : Int32) 11 11 from ⟨by decide, by decide⟩)
          refine ok_bd5 (s_X5_accept v_r_kind v_r_start v_r_next v_r_stopped v_r_fault v_r_faultPlace (v_r_kind v_r_next.toNatClampNeg) u2 u4 u5 (n34_rg w37 (by decide))) (fun o_11_0 o_11_1 o_11_2 o_11_3 o_11_4 p38 => ?_)
          have g39 : rg o_11_0 0 1 := p38.1
          have g41 : rg o_11_1 0 402 := p38.2.2.1
          have g42 : nx v_r_next o_11_1 := p38.2.2.2.1
          have g43 : mn v_r_fault o_11_3 := p38.2.2.2.2.1
          have g44 : sp o_11_2 o_11_3 := p38.2.2.2.2.2.1
          have g45 : sn v_r_kind o_11_1 := p38.2.2.2.2.2.2.1
          refine ok_bd2 (s_X5_emit v_r_codeLength v_g_code ((-20 : Int32) - v_r_ownCell) u3) (fun o_12_0 o_12_1 p47 => ?_)
          have g48 : rg o_12_0 0 400 := p47.1
          exact ok_some ⟨g41, g48, g42, g43, mn_rf, g44, g45, trivial⟩
        · refine ok_if (fun c49 => ?_) (fun c49 => ?_)
          · have w50 : rg (v_r_kind v_r_next.toNatClampNeg) 12 12 := rg_lex (ti_eq c49) (rg_ley (ti_eq2 c49) (show rg (12 : Int32) 12 12 from ⟨by decide, by decide⟩) (rg_any (v_r_kind v_r_next.toNatClampNeg))) (show rg (12 : Int32) 12 12 from ⟨by decide, by decide⟩)
            refine ok_bd5 (s_X5_accept v_r_kind v_r_start v_r_next v_r_stopped v_r_fault v_r_faultPlace (v_r_kind v_r_next.toNatClampNeg) u2 u4 u5 (n34_rg w50 (by decide))) (fun o_14_0 o_14_1 o_14_2 o_14_3 o_14_4 p51 => ?_)
            have g52 : rg o_14_0 0 1 := p51.1
            have g54 : rg o_14_1 0 402 := p51.2.2.1
            have g55 : nx v_r_next o_14_1 := p51.2.2.2.1
            have g56 : mn v_r_fault o_14_3 := p51.2.2.2.2.1
            have g57 : sp o_14_2 o_14_3 := p51.2.2.2.2.2.1
            have g58 : sn v_r_kind o_14_1 := p51.2.2.2.2.2.2.1
            refine ok_bd2 (s_X5_emit v_r_codeLength v_g_code (-5 : Int32) u3) (fun o_15_0 o_15_1 p60 => ?_)
            have g61 : rg o_15_0 0 400 := p60.1
            exact ok_some ⟨g54, g61, g55, g56, mn_rf, g57, g58, trivial⟩
          · refine ok_if (fun c62 => ?_) (fun c62 => ?_)
            · have w63 : rg (v_r_kind v_r_next.toNatClampNeg) 13 13 := rg_lex (ti_eq c62) (rg_ley (ti_eq2 c62) (show rg (13 : Int32) 13 13 from ⟨by decide, by decide⟩) (rg_any (v_r_kind v_r_next.toNatClampNeg))) (show rg (13 : Int32) 13 13 from ⟨by decide, by decide⟩)
              refine ok_bd5 (s_X5_accept v_r_kind v_r_start v_r_next v_r_stopped v_r_fault v_r_faultPlace (v_r_kind v_r_next.toNatClampNeg) u2 u4 u5 (n34_rg w63 (by decide))) (fun o_17_0 o_17_1 o_17_2 o_17_3 o_17_4 p64 => ?_)
              have g65 : rg o_17_0 0 1 := p64.1
              have g67 : rg o_17_1 0 402 := p64.2.2.1
              have g68 : nx v_r_next o_17_1 := p64.2.2.2.1
              have g69 : mn v_r_fault o_17_3 := p64.2.2.2.2.1
              have g70 : sp o_17_2 o_17_3 := p64.2.2.2.2.2.1
              have g71 : sn v_r_kind o_17_1 := p64.2.2.2.2.2.2.1
              refine ok_bd2 (s_X5_emit v_r_codeLength v_g_code (-6 : Int32) u3) (fun o_18_0 o_18_1 p73 => ?_)
              have g74 : rg o_18_0 0 400 := p73.1
              exact ok_some ⟨g67, g74, g68, g69, mn_rf, g70, g71, trivial⟩
            · refine ok_if (fun c75 => ?_) (fun c75 => ?_)
              · have w76 : rg (v_r_kind v_r_next.toNatClampNeg) 14 14 := rg_lex (ti_eq c75) (rg_ley (ti_eq2 c75) (show rg (14 : Int32) 14 14 from ⟨by decide, by decide⟩) (rg_any (v_r_kind v_r_next.toNatClampNeg))) (show rg (14 : Int32) 14 14 from ⟨by decide, by decide⟩)
                refine ok_bd5 (s_X5_accept v_r_kind v_r_start v_r_next v_r_stopped v_r_fault v_r_faultPlace (v_r_kind v_r_next.toNatClampNeg) u2 u4 u5 (n34_rg w76 (by decide))) (fun o_20_0 o_20_1 o_20_2 o_20_3 o_20_4 p77 => ?_)
                have g78 : rg o_20_0 0 1 := p77.1
                have g80 : rg o_20_1 0 402 := p77.2.2.1
                have g81 : nx v_r_next o_20_1 := p77.2.2.2.1
                have g82 : mn v_r_fault o_20_3 := p77.2.2.2.2.1
                have g83 : sp o_20_2 o_20_3 := p77.2.2.2.2.2.1
                have g84 : sn v_r_kind o_20_1 := p77.2.2.2.2.2.2.1
                refine ok_bd2 (s_X5_emit v_r_codeLength v_g_code (-7 : Int32) u3) (fun o_21_0 o_21_1 p86 => ?_)
                have g87 : rg o_21_0 0 400 := p86.1
                exact ok_some ⟨g80, g87, g81, g82, mn_rf, g83, g84, trivial⟩
              · refine ok_if (fun c88 => ?_) (fun c88 => ?_)
                · have w89 : rg (v_r_kind v_r_next.toNatClampNeg) 15 15 := rg_lex (ti_eq c88) (rg_ley (ti_eq2 c88) (show rg (15 : Int32) 15 15 from ⟨by decide, by decide⟩) (rg_any (v_r_kind v_r_next.toNatClampNeg))) (show rg (15 : Int32) 15 15 from ⟨by decide, by decide⟩)
                  refine ok_bd5 (s_X5_accept v_r_kind v_r_start v_r_next v_r_stopped v_r_fault v_r_faultPlace (v_r_kind v_r_next.toNatClampNeg) u2 u4 u5 (n34_rg w89 (by decide))) (fun o_23_0 o_23_1 o_23_2 o_23_3 o_23_4 p90 => ?_)
                  have g91 : rg o_23_0 0 1 := p90.1
                  have g93 : rg o_23_1 0 402 := p90.2.2.1
                  have g94 : nx v_r_next o_23_1 := p90.2.2.2.1
                  have g95 : mn v_r_fault o_23_3 := p90.2.2.2.2.1
                  have g96 : sp o_23_2 o_23_3 := p90.2.2.2.2.2.1
                  have g97 : sn v_r_kind o_23_1 := p90.2.2.2.2.2.2.1
                  refine ok_bd2 (s_X5_emit v_r_codeLength v_g_code (-8 : Int32) u3) (fun o_24_0 o_24_1 p99 => ?_)
                  have g100 : rg o_24_0 0 400 := p99.1
                  exact ok_some ⟨g93, g100, g94, g95, mn_rf, g96, g97, trivial⟩
                · refine ok_if (fun c101 => ?_) (fun c101 => ?_)
                  · have w102 : rg (v_r_kind v_r_next.toNatClampNeg) 40 40 := rg_lex (ti_eq c101) (rg_ley (ti_eq2 c101) (show rg (40 : Int32) 40 40 from ⟨by decide, by decide⟩) (rg_any (v_r_kind v_r_next.toNatClampNeg))) (show rg (40 : Int32) 40 40 from ⟨by decide, by decide⟩)
                    refine ok_bd8 (s_X5_readNested R n_ hR v_r_ownCell v_r_kind v_r_start v_r_value v_r_cellName v_g_cells v_r_next v_r_codeLength v_r_stopped v_r_fault v_r_faultPlace v_r_laterFault v_r_laterPlace v_g_code q1 u0 u1 u2 u3 u4 u5 u6 u7) (fun o_26_0 o_26_1 o_26_2 o_26_3 o_26_4 o_26_5 o_26_6 o_26_7 p103 => ?_)
                    have g104 : rg o_26_0 0 402 := p103.1
                    have g105 : rg o_26_1 0 400 := p103.2.1
                    have g106 : nx v_r_next o_26_0 := p103.2.2.1
                    have g107 : mn v_r_fault o_26_3 := p103.2.2.2.1
                    have g108 : mn v_r_laterFault o_26_5 := p103.2.2.2.2.1
                    have g109 : sp o_26_2 o_26_3 := p103.2.2.2.2.2.1
                    have g110 : sn v_r_kind o_26_0 := p103.2.2.2.2.2.2.1
                    exact ok_some ⟨g104, g105, g106, g107, g108, g109, g110, trivial⟩
                  · refine ok_ck (inb_rg u2 (by decide) (by decide)) ?_
                    refine ok_bd3 (s_X5_stop v_r_stopped v_r_fault v_r_faultPlace (1 : Int32) (v_r_start v_r_next.toNatClampNeg) u4 (rg_w (show rg (1 : Int32) 1 1 from ⟨by decide, by decide⟩) (by decide) (by decide))) (fun o_28_0 o_28_1 o_28_2 p111 => ?_)
                    have g112 : mn v_r_fault o_28_1 := p111.1
                    have g113 : sp o_28_0 o_28_1 := p111.2.1
                    have g114 : ¬ o_28_1 = 0 := p111.2.2.1
                    exact ok_some ⟨u2, u3, nx_rf, g112, mn_rf, g113, u5, trivial⟩
  · exact ok_some ⟨u2, u3, nx_rf, mn_rf, mn_rf, u4, u5, trivial⟩

abbrev P_X5_readProduct (z_v_r_next : Int32) (z_v_r_fault : Int32) (z_v_r_laterFault : Int32) (v_r_kind : (Nat → Int32)) : Int32 × Int32 × Int32 × Int32 × Int32 × Int32 × Int32 × (Nat → Int32) → Prop := (fun o : Int32 × Int32 × Int32 × Int32 × Int32 × Int32 × Int32 × (Nat → Int32) => rg o.1 0 402 ∧ rg o.2.1 0 400 ∧ nx z_v_r_next o.1 ∧ mn z_v_r_fault o.2.2.2.1 ∧ mn z_v_r_laterFault o.2.2.2.2.2.1 ∧ sp o.2.2.1 o.2.2.2.1 ∧ sn v_r_kind o.1 ∧ True)
set_option maxRecDepth 100000 in
set_option maxHeartbeats 2000000 in
theorem s_X5_readProduct_b70 (R : Int32 → (Nat → Int32) → (Nat → Int32) → (Nat → Int64) → (Nat → Int64) → Int32 → Int32 → Int32 → Int32 → Int32 → Int32 → Int32 → Int32 → (Nat → Int32) → Int32 → Option (Int32 × Int32 × Int32 × Int32 × Int32 × Int32 × Int32 × (Nat → Int32))) (n_ : Nat) (hR : Rok n_ R) (k7 : Int32 → Int32 → Int32 → Int32 → Int32 → Int32 → Int32 → (Nat → Int32) → Int32 → Int32 → Option (Int32 × Int32 × Int32 × Int32 × Int32 × Int32 × Int32 × (Nat → Int32))) (z_v_r_next : Int32) (z_v_r_fault : Int32) (z_v_r_laterFault : Int32) (v_r_ownCell : Int32) (v_r_kind : (Nat → Int32)) (v_r_start : (Nat → Int32)) (v_r_value : (Nat → Int64)) (v_r_cellName : (Nat → Int64)) (v_g_cells : Int32) (v_r_next : Int32) (v_r_codeLength : Int32) (v_r_stopped : Int32) (v_r_fault : Int32) (v_r_faultPlace : Int32) (v_r_laterFault : Int32) (v_r_laterPlace : Int32) (v_g_code : (Nat → Int32)) (x1 : Int32) (x2 : Int32) (t0 : Int32) (u0 : rg v_r_ownCell (-1) 11) (u1 : rg v_g_cells 0 12) (u2 : rg v_r_next 0 402) (u3 : rg v_r_codeLength 0 400) (u4 : rg v_r_stopped 0 0) (u5 : rg x1 0 6) (u6 : rg x2 0 402) (u7 : rg t0 (-4) (-3)) (u8 : nx z_v_r_next v_r_next) (u9 : mn z_v_r_fault v_r_fault) (u10 : mn z_v_r_laterFault v_r_laterFault) (u11 : 7 ≤ x1.toInt + (n_ : Int) + 1) (u12 : sp v_r_stopped v_r_fault) (u13 : sn v_r_kind v_r_next) (u14 : v_r_stopped.toInt ≤ v_g_cells.toInt) (u15 : v_r_stopped.toInt ≤ v_r_codeLength.toInt) (u16 : v_r_stopped.toInt ≤ v_r_next.toInt) (u17 : v_r_stopped.toInt ≤ x1.toInt) (u18 : v_r_stopped.toInt ≤ x2.toInt) (u19 : t0.toInt < v_g_cells.toInt) (u20 : t0.toInt < v_r_codeLength.toInt) (u21 : t0.toInt < v_r_next.toInt) (u22 : t0.toInt < v_r_ownCell.toInt) (u23 : t0.toInt < v_r_stopped.toInt) (u24 : t0.toInt < x1.toInt) (u25 : t0.toInt < x2.toInt) (u26 : rg (v_r_kind v_r_next.toNatClampNeg) 42 47) (hk7 : ∀ (v_r_next' : Int32) (v_r_codeLength' : Int32) (v_r_stopped' : Int32) (v_r_fault' : Int32) (v_r_faultPlace' : Int32) (v_r_laterFault' : Int32) (v_r_laterPlace' : Int32) (v_g_code' : (Nat → Int32)) (x1' : Int32) (x2' : Int32), rg v_r_next' 0 402 → rg v_r_codeLength' 0 400 → rg x1' 0 6 → rg x2' 0 403 → nx z_v_r_next v_r_next' → mn z_v_r_fault v_r_fault' → mn z_v_r_laterFault v_r_laterFault' → 7 ≤ x1'.toInt + (n_ : Int) + 1 → sp v_r_stopped' v_r_fault' → sn v_r_kind v_r_next' → x2.toInt < x2'.toInt → ok (k7 v_r_next' v_r_codeLength' v_r_stopped' v_r_fault' v_r_faultPlace' v_r_laterFault' v_r_laterPlace' v_g_code' x1' x2') (P_X5_readProduct z_v_r_next z_v_r_fault z_v_r_laterFault v_r_kind)) : ok (f_X5_readProduct_b70 R k7 v_r_ownCell v_r_kind v_r_start v_r_value v_r_cellName v_g_cells v_r_next v_r_codeLength v_r_stopped v_r_fault v_r_faultPlace v_r_laterFault v_r_laterPlace v_g_code x1 x2 t0) (P_X5_readProduct z_v_r_next z_v_r_fault z_v_r_laterFault v_r_kind) := by
  unfold f_X5_readProduct_b70
  refine ok_ck (inb_rg u2 (by decide) (by decide)) ?_
  refine ok_bd5 (s_X5_accept v_r_kind v_r_start v_r_next v_r_stopped v_r_fault v_r_faultPlace (v_r_kind v_r_next.toNatClampNeg) u2 u12 u13 (n34_rg u26 (by decide))) (fun o_2_0 o_2_1 o_2_2 o_2_3 o_2_4 p1 => ?_)
  have g2 : rg o_2_0 0 1 := p1.1
  have g4 : rg o_2_1 0 402 := p1.2.2.1
  have g5 : nx v_r_next o_2_1 := p1.2.2.2.1
  have g6 : mn v_r_fault o_2_3 := p1.2.2.2.2.1
  have g7 : sp o_2_2 o_2_3 := p1.2.2.2.2.2.1
  have g8 : sn v_r_kind o_2_1 := p1.2.2.2.2.2.2.1
  refine ok_bd8 (s_X5_readUnit R n_ hR v_r_ownCell v_r_kind v_r_start v_r_value v_r_cellName v_g_cells o_2_1 v_r_codeLength o_2_2 o_2_3 o_2_4 v_r_laterFault v_r_laterPlace v_g_code x1 u0 u1 g4 u3 g7 g8 u5 u11) (fun o_3_0 o_3_1 o_3_2 o_3_3 o_3_4 o_3_5 o_3_6 o_3_7 p10 => ?_)
  have g11 : rg o_3_0 0 402 := p10.1
  have g12 : rg o_3_1 0 400 := p10.2.1
  have g13 : nx o_2_1 o_3_0 := p10.2.2.1
  have g14 : mn o_2_3 o_3_3 := p10.2.2.2.1
  have g15 : mn v_r_laterFault o_3_5 := p10.2.2.2.2.1
  have g16 : sp o_3_2 o_3_3 := p10.2.2.2.2.2.1
  have g17 : sn v_r_kind o_3_0 := p10.2.2.2.2.2.2.1
  refine ok_bd2 (s_X5_emit o_3_1 o_3_7 t0 g12) (fun o_4_0 o_4_1 p18 => ?_)
  have g19 : rg o_4_0 0 400 := p18.1
  exact hk7 o_3_0 o_4_0 o_3_2 o_3_3 o_3_4 o_3_5 o_3_6 o_4_1 x1 (x2 + (1 : Int32)) g11 g19 u5 (rg_w (rg_add (e := 1) (f := 403) u6 (show rg (1 : Int32) 1 1 from ⟨by decide, by decide⟩) (by decide) (by decide) (by decide) (by decide)) (by decide) (by decide)) (nx_tr (nx_tr u8 g5) g13) (mn_tr (mn_tr u9 g6) g14) (mn_tr u10 g15) u11 g16 g17 (lt_ad u6 (show rg (1 : Int32) 1 1 from ⟨by decide, by decide⟩) (by decide) (by decide) (by decide))
set_option maxRecDepth 100000 in
set_option maxHeartbeats 2000000 in
theorem s_X5_readProduct_b49 (R : Int32 → (Nat → Int32) → (Nat → Int32) → (Nat → Int64) → (Nat → Int64) → Int32 → Int32 → Int32 → Int32 → Int32 → Int32 → Int32 → Int32 → (Nat → Int32) → Int32 → Option (Int32 × Int32 × Int32 × Int32 × Int32 × Int32 × Int32 × (Nat → Int32))) (n_ : Nat) (hR : Rok n_ R) (k7 : Int32 → Int32 → Int32 → Int32 → Int32 → Int32 → Int32 → (Nat → Int32) → Int32 → Int32 → Option (Int32 × Int32 × Int32 × Int32 × Int32 × Int32 × Int32 × (Nat → Int32))) (z_v_r_next : Int32) (z_v_r_fault : Int32) (z_v_r_laterFault : Int32) (v_r_ownCell : Int32) (v_r_kind : (Nat → Int32)) (v_r_start : (Nat → Int32)) (v_r_value : (Nat → Int64)) (v_r_cellName : (Nat → Int64)) (v_g_cells : Int32) (v_r_next : Int32) (v_r_codeLength : Int32) (v_r_stopped : Int32) (v_r_fault : Int32) (v_r_faultPlace : Int32) (v_r_laterFault : Int32) (v_r_laterPlace : Int32) (v_g_code : (Nat → Int32)) (x1 : Int32) (x2 : Int32) (u0 : rg v_r_ownCell (-1) 11) (u1 : rg v_g_cells 0 12) (u2 : rg v_r_next 0 402) (u3 : rg v_r_codeLength 0 400) (u4 : rg v_r_stopped 0 0) (u5 : rg x1 0 6) (u6 : rg x2 0 402) (u7 : nx z_v_r_next v_r_next) (u8 : mn z_v_r_fault v_r_fault) (u9 : mn z_v_r_laterFault v_r_laterFault) (u10 : 7 ≤ x1.toInt + (n_ : Int) + 1) (u11 : sp v_r_stopped v_r_fault) (u12 : sn v_r_kind v_r_next) (u13 : v_r_stopped.toInt ≤ v_g_cells.toInt) (u14 : v_r_stopped.toInt ≤ v_r_codeLength.toInt) (u15 : v_r_stopped.toInt ≤ v_r_next.toInt) (u16 : v_r_stopped.toInt ≤ x1.toInt) (u17 : v_r_stopped.toInt ≤ x2.toInt) (u18 : rg (v_r_kind v_r_next.toNatClampNeg) 42 47) (hk7 : ∀ (v_r_next' : Int32) (v_r_codeLength' : Int32) (v_r_stopped' : Int32) (v_r_fault' : Int32) (v_r_faultPlace' : Int32) (v_r_laterFault' : Int32) (v_r_laterPlace' : Int32) (v_g_code' : (Nat → Int32)) (x1' : Int32) (x2' : Int32), rg v_r_next' 0 402 → rg v_r_codeLength' 0 400 → rg x1' 0 6 → rg x2' 0 403 → nx z_v_r_next v_r_next' → mn z_v_r_fault v_r_fault' → mn z_v_r_laterFault v_r_laterFault' → 7 ≤ x1'.toInt + (n_ : Int) + 1 → sp v_r_stopped' v_r_fault' → sn v_r_kind v_r_next' → x2.toInt < x2'.toInt → ok (k7 v_r_next' v_r_codeLength' v_r_stopped' v_r_fault' v_r_faultPlace' v_r_laterFault' v_r_laterPlace' v_g_code' x1' x2') (P_X5_readProduct z_v_r_next z_v_r_fault z_v_r_laterFault v_r_kind)) : ok (f_X5_readProduct_b49 R k7 v_r_ownCell v_r_kind v_r_start v_r_value v_r_cellName v_g_cells v_r_next v_r_codeLength v_r_stopped v_r_fault v_r_faultPlace v_r_laterFault v_r_laterPlace v_g_code x1 x2) (P_X5_readProduct z_v_r_next z_v_r_fault z_v_r_laterFault v_r_kind) := by
  unfold f_X5_readProduct_b49
  refine ok_ck (inb_rg u2 (by decide) (by decide)) ?_
  refine ok_if (fun c1 => ?_) (fun c1 => ?_)
  · have w2 : rg (v_r_kind v_r_next.toNatClampNeg) 42 42 := rg_lex (ti_eq c1) (rg_ley (ti_eq2 c1) (show rg (42 : Int32) 42 42 from ⟨by decide, by decide⟩) u18) (show rg (42 : Int32) 42 42 from ⟨by decide, by decide⟩)
    exact s_X5_readProduct_b70 R n_ hR k7 z_v_r_next z_v_r_fault z_v_r_laterFault v_r_ownCell v_r_kind v_r_start v_r_value v_r_cellName v_g_cells v_r_next v_r_codeLength v_r_stopped v_r_fault v_r_faultPlace v_r_laterFault v_r_laterPlace v_g_code x1 x2 (-3 : Int32) u0 u1 u2 u3 u4 u5 u6 (rg_w (show rg (-3 : Int32) (-3) (-3) from ⟨by decide, by decide⟩) (by decide) (by decide)) u7 u8 u9 u10 u11 u12 u13 u14 u15 u16 u17 (Int.lt_of_le_of_lt (show rg (-3 : Int32) (-3) (-3) from ⟨by decide, by decide⟩).2 (Int.lt_of_lt_of_le (by decide) u1.1)) (Int.lt_of_le_of_lt (show rg (-3 : Int32) (-3) (-3) from ⟨by decide, by decide⟩).2 (Int.lt_of_lt_of_le (by decide) u3.1)) (Int.lt_of_le_of_lt (show rg (-3 : Int32) (-3) (-3) from ⟨by decide, by decide⟩).2 (Int.lt_of_lt_of_le (by decide) u2.1)) (Int.lt_of_le_of_lt (show rg (-3 : Int32) (-3) (-3) from ⟨by decide, by decide⟩).2 (Int.lt_of_lt_of_le (by decide) u0.1)) (Int.lt_of_le_of_lt (show rg (-3 : Int32) (-3) (-3) from ⟨by decide, by decide⟩).2 (Int.lt_of_lt_of_le (by decide) u4.1)) (Int.lt_of_le_of_lt (show rg (-3 : Int32) (-3) (-3) from ⟨by decide, by decide⟩).2 (Int.lt_of_lt_of_le (by decide) u5.1)) (Int.lt_of_le_of_lt (show rg (-3 : Int32) (-3) (-3) from ⟨by decide, by decide⟩).2 (Int.lt_of_lt_of_le (by decide) u6.1)) (rg_w w2 (by decide) (by decide)) hk7
  · have w3 : rg (v_r_kind v_r_next.toNatClampNeg) 43 47 := rg_nel 43 c1 u18 (show rg (42 : Int32) 42 42 from ⟨by decide, by decide⟩) (by decide)
    exact s_X5_readProduct_b70 R n_ hR k7 z_v_r_next z_v_r_fault z_v_r_laterFault v_r_ownCell v_r_kind v_r_start v_r_value v_r_cellName v_g_cells v_r_next v_r_codeLength v_r_stopped v_r_fault v_r_faultPlace v_r_laterFault v_r_laterPlace v_g_code x1 x2 (-4 : Int32) u0 u1 u2 u3 u4 u5 u6 (rg_w (show rg (-4 : Int32) (-4) (-4) from ⟨by decide, by decide⟩) (by decide) (by decide)) u7 u8 u9 u10 u11 u12 u13 u14 u15 u16 u17 (Int.lt_of_le_of_lt (show rg (-4 : Int32) (-4) (-4) from ⟨by decide, by decide⟩).2 (Int.lt_of_lt_of_le (by decide) u1.1)) (Int.lt_of_le_of_lt (show rg (-4 : Int32) (-4) (-4) from ⟨by decide, by decide⟩).2 (Int.lt_of_lt_of_le (by decide) u3.1)) (Int.lt_of_le_of_lt (show rg (-4 : Int32) (-4) (-4) from ⟨by decide, by decide⟩).2 (Int.lt_of_lt_of_le (by decide) u2.1)) (Int.lt_of_le_of_lt (show rg (-4 : Int32) (-4) (-4) from ⟨by decide, by decide⟩).2 (Int.lt_of_lt_of_le (by decide) u0.1)) (Int.lt_of_le_of_lt (show rg (-4 : Int32) (-4) (-4) from ⟨by decide, by decide⟩).2 (Int.lt_of_lt_of_le (by decide) u4.1)) (Int.lt_of_le_of_lt (show rg (-4 : Int32) (-4) (-4) from ⟨by decide, by decide⟩).2 (Int.lt_of_lt_of_le (by decide) u5.1)) (Int.lt_of_le_of_lt (show rg (-4 : Int32) (-4) (-4) from ⟨by decide, by decide⟩).2 (Int.lt_of_lt_of_le (by decide) u6.1)) (rg_w w3 (by decide) (by decide)) hk7
set_option maxRecDepth 100000 in
set_option maxHeartbeats 2000000 in
theorem s_X5_readProduct_b7 (R : Int32 → (Nat → Int32) → (Nat → Int32) → (Nat → Int64) → (Nat → Int64) → Int32 → Int32 → Int32 → Int32 → Int32 → Int32 → Int32 → Int32 → (Nat → Int32) → Int32 → Option (Int32 × Int32 × Int32 × Int32 × Int32 × Int32 × Int32 × (Nat → Int32))) (n_ : Nat) (hR : Rok n_ R)  (z_v_r_next : Int32) (z_v_r_fault : Int32) (z_v_r_laterFault : Int32) (v_r_ownCell : Int32) (v_r_kind : (Nat → Int32)) (v_r_start : (Nat → Int32)) (v_r_value : (Nat → Int64)) (v_r_cellName : (Nat → Int64)) (v_g_cells : Int32) (u0 : rg v_r_ownCell (-1) 11) (u1 : rg v_g_cells 0 12) : ∀ (n : Nat) (v_r_next : Int32) (v_r_codeLength : Int32) (v_r_stopped : Int32) (v_r_fault : Int32) (v_r_faultPlace : Int32) (v_r_laterFault : Int32) (v_r_laterPlace : Int32) (v_g_code : (Nat → Int32)) (x1 : Int32) (x2 : Int32) (u2 : rg v_r_next 0 402) (u3 : rg v_r_codeLength 0 400) (u4 : rg x1 0 6) (u5 : rg x2 0 403) (u6 : nx z_v_r_next v_r_next) (u7 : mn z_v_r_fault v_r_fault) (u8 : mn z_v_r_laterFault v_r_laterFault) (u9 : 7 ≤ x1.toInt + (n_ : Int) + 1) (u10 : sp v_r_stopped v_r_fault) (u11 : sn v_r_kind v_r_next)  (hm : (403 - x2.toInt).toNat < n), ok (f_X5_readProduct_b7 R v_r_ownCell v_r_kind v_r_start v_r_value v_r_cellName v_g_cells n v_r_next v_r_codeLength v_r_stopped v_r_fault v_r_faultPlace v_r_laterFault v_r_laterPlace v_g_code x1 x2) (P_X5_readProduct z_v_r_next z_v_r_fault z_v_r_laterFault v_r_kind) := by
  intro n
  induction n with
  | zero =>
    intro v_r_next v_r_codeLength v_r_stopped v_r_fault v_r_faultPlace v_r_laterFault v_r_laterPlace v_g_code x1 x2 u2 u3 u4 u5 u6 u7 u8 u9 u10 u11 hm
    exact absurd hm (Nat.not_lt_zero _)
  | succ n ih =>
    intro v_r_next v_r_codeLength v_r_stopped v_r_fault v_r_faultPlace v_r_laterFault v_r_laterPlace v_g_code x1 x2 u2 u3 u4 u5 u6 u7 u8 u9 u10 u11 hm
    show ok (f_X5_readProduct_b7_st (f_X5_readProduct_b7 R v_r_ownCell v_r_kind v_r_start v_r_value v_r_cellName v_g_cells n) R v_r_ownCell v_r_kind v_r_start v_r_value v_r_cellName v_g_cells v_r_next v_r_codeLength v_r_stopped v_r_fault v_r_faultPlace v_r_laterFault v_r_laterPlace v_g_code x1 x2) (P_X5_readProduct z_v_r_next z_v_r_fault z_v_r_laterFault v_r_kind)
    unfold f_X5_readProduct_b7_st
    refine ok_if (fun c1 => ?_) (fun c1 => ?_)
    · have w2 : rg x2 403 403 := rg_ley (ti_le c1) (show rg (403 : Int32) 403 403 from ⟨by decide, by decide⟩) u5
      exact ok_some ⟨u2, u3, u6, u7, u8, u10, u11, trivial⟩
    · have w3 : rg x2 0 402 := rg_ltx 402 (ti_nle c1) u5 (show rg (403 : Int32) 403 403 from ⟨by decide, by decide⟩) (by decide)
      refine ok_if (fun c4 => ?_) (fun c4 => ?_)
      · have w5 : rg v_r_stopped 0 0 := rg_lex (ti_eq c4) (rg_ley (ti_eq2 c4) (show rg (0 : Int32) 0 0 from ⟨by decide, by decide⟩) (rg_any v_r_stopped)) (show rg (0 : Int32) 0 0 from ⟨by decide, by decide⟩)
        refine ok_ck (inb_rg u2 (by decide) (by decide)) ?_
        refine ok_if (fun c6 => ?_) (fun c6 => ?_)
        · have w7 : rg (v_r_kind v_r_next.toNatClampNeg) 42 42 := rg_lex (ti_eq c6) (rg_ley (ti_eq2 c6) (show rg (42 : Int32) 42 42 from ⟨by decide, by decide⟩) (rg_any (v_r_kind v_r_next.toNatClampNeg))) (show rg (42 : Int32) 42 42 from ⟨by decide, by decide⟩)
          exact s_X5_readProduct_b49 R n_ hR _ z_v_r_next z_v_r_fault z_v_r_laterFault v_r_ownCell v_r_kind v_r_start v_r_value v_r_cellName v_g_cells v_r_next v_r_codeLength v_r_stopped v_r_fault v_r_faultPlace v_r_laterFault v_r_laterPlace v_g_code x1 x2 u0 u1 u2 u3 w5 u4 w3 u6 u7 u8 u9 u10 u11 (Int.le_trans w5.2 (Int.le_trans (by decide) u1.1)) (Int.le_trans w5.2 (Int.le_trans (by decide) u3.1)) (Int.le_trans w5.2 (Int.le_trans (by decide) u2.1)) (Int.le_trans w5.2 (Int.le_trans (by decide) u4.1)) (Int.le_trans w5.2 (Int.le_trans (by decide) w3.1)) (rg_w w7 (by decide) (by decide)) (by intro v_r_next' v_r_codeLength' v_r_stopped' v_r_fault' v_r_faultPlace' v_r_laterFault' v_r_laterPlace' v_g_code' x1' x2' f0 f1 f2 f3 f4 f5 f6 f7 f8 f9 lt; exact ih _ _ _ _ _ _ _ _ _ _ f0 f1 f2 f3 f4 f5 f6 f7 f8 f9 (ms_up hm lt f3))
        · refine ok_ck (inb_rg u2 (by decide) (by decide)) ?_
          refine ok_if (fun c8 => ?_) (fun c8 => ?_)
          · have w9 : rg (v_r_kind v_r_next.toNatClampNeg) 47 47 := rg_lex (ti_eq c8) (rg_ley (ti_eq2 c8) (show rg (47 : Int32) 47 47 from ⟨by decide, by decide⟩) (rg_any (v_r_kind v_r_next.toNatClampNeg))) (show rg (47 : Int32) 47 47 from ⟨by decide, by decide⟩)
            exact s_X5_readProduct_b49 R n_ hR _ z_v_r_next z_v_r_fault z_v_r_laterFault v_r_ownCell v_r_kind v_r_start v_r_value v_r_cellName v_g_cells v_r_next v_r_codeLength v_r_stopped v_r_fault v_r_faultPlace v_r_laterFault v_r_laterPlace v_g_code x1 x2 u0 u1 u2 u3 w5 u4 w3 u6 u7 u8 u9 u10 u11 (Int.le_trans w5.2 (Int.le_trans (by decide) u1.1)) (Int.le_trans w5.2 (Int.le_trans (by decide) u3.1)) (Int.le_trans w5.2 (Int.le_trans (by decide) u2.1)) (Int.le_trans w5.2 (Int.le_trans (by decide) u4.1)) (Int.le_trans w5.2 (Int.le_trans (by decide) w3.1)) (rg_w w9 (by decide) (by decide)) (by intro v_r_next' v_r_codeLength' v_r_stopped' v_r_fault' v_r_faultPlace' v_r_laterFault' v_r_laterPlace' v_g_code' x1' x2' f0 f1 f2 f3 f4 f5 f6 f7 f8 f9 lt; exact ih _ _ _ _ _ _ _ _ _ _ f0 f1 f2 f3 f4 f5 f6 f7 f8 f9 (ms_up hm lt f3))
          · exact ok_some ⟨u2, u3, u6, u7, u8, u10, u11, trivial⟩
      · exact ok_some ⟨u2, u3, u6, u7, u8, u10, u11, trivial⟩
set_option maxRecDepth 100000 in
set_option maxHeartbeats 2000000 in
theorem s_X5_readProduct (R : Int32 → (Nat → Int32) → (Nat → Int32) → (Nat → Int64) → (Nat → Int64) → Int32 → Int32 → Int32 → Int32 → Int32 → Int32 → Int32 → Int32 → (Nat → Int32) → Int32 → Option (Int32 × Int32 × Int32 × Int32 × Int32 × Int32 × Int32 × (Nat → Int32))) (n_ : Nat) (hR : Rok n_ R) (v_r_ownCell : Int32) (v_r_kind : (Nat → Int32)) (v_r_start : (Nat → Int32)) (v_r_value : (Nat → Int64)) (v_r_cellName : (Nat → Int64)) (v_g_cells : Int32) (v_r_next : Int32) (v_r_codeLength : Int32) (v_r_stopped : Int32) (v_r_fault : Int32) (v_r_faultPlace : Int32) (v_r_laterFault : Int32) (v_r_laterPlace : Int32) (v_g_code : (Nat → Int32)) (q1 : Int32) (u0 : rg v_r_ownCell (-1) 11) (u1 : rg v_g_cells 0 12) (u2 : rg v_r_next 0 402) (u3 : rg v_r_codeLength 0 400) (u4 : sp v_r_stopped v_r_fault) (u5 : sn v_r_kind v_r_next) (u6 : rg q1 0 6) (u7 : 7 ≤ q1.toInt + (n_ : Int) + 1) : ok (f_X5_readProduct R v_r_ownCell v_r_kind v_r_start v_r_value v_r_cellName v_g_cells v_r_next v_r_codeLength v_r_stopped v_r_fault v_r_faultPlace v_r_laterFault v_r_laterPlace v_g_code q1) (P_X5_readProduct v_r_next v_r_fault v_r_laterFault v_r_kind) := by
  unfold f_X5_readProduct
  refine ok_bd8 (s_X5_readUnit R n_ hR v_r_ownCell v_r_kind v_r_start v_r_value v_r_cellName v_g_cells v_r_next v_r_codeLength v_r_stopped v_r_fault v_r_faultPlace v_r_laterFault v_r_laterPlace v_g_code q1 u0 u1 u2 u3 u4 u5 u6 u7) (fun o_1_0 o_1_1 o_1_2 o_1_3 o_1_4 o_1_5 o_1_6 o_1_7 p1 => ?_)
  have g2 : rg o_1_0 0 402 := p1.1
  have g3 : rg o_1_1 0 400 := p1.2.1
  have g4 : nx v_r_next o_1_0 := p1.2.2.1
  have g5 : mn v_r_fault o_1_3 := p1.2.2.2.1
  have g6 : mn v_r_laterFault o_1_5 := p1.2.2.2.2.1
  have g7 : sp o_1_2 o_1_3 := p1.2.2.2.2.2.1
  have g8 : sn v_r_kind o_1_0 := p1.2.2.2.2.2.2.1
  exact s_X5_readProduct_b7 R n_ hR v_r_next v_r_fault v_r_laterFault v_r_ownCell v_r_kind v_r_start v_r_value v_r_cellName v_g_cells u0 u1 _ o_1_0 o_1_1 o_1_2 o_1_3 o_1_4 o_1_5 o_1_6 o_1_7 q1 (0 : Int32) g2 g3 u6 (rg_w (show rg (0 : Int32) 0 0 from ⟨by decide, by decide⟩) (by decide) (by decide)) g4 g5 g6 u7 g7 g8 (fu_up (a := 0) (h := 403) (rg_w (show rg (0 : Int32) 0 0 from ⟨by decide, by decide⟩) (by decide) (by decide)) (by decide))

set_option maxRecDepth 100000 in
set_option maxHeartbeats 2000000 in
theorem s_X5_readSum_b69 (R : Int32 → (Nat → Int32) → (Nat → Int32) → (Nat → Int64) → (Nat → Int64) → Int32 → Int32 → Int32 → Int32 → Int32 → Int32 → Int32 → Int32 → (Nat → Int32) → Int32 → Option (Int32 × Int32 × Int32 × Int32 × Int32 × Int32 × Int32 × (Nat → Int32))) (n_ : Nat) (hR : Rok n_ R) (k7 : Int32 → Int32 → Int32 → Int32 → Int32 → Int32 → Int32 → (Nat → Int32) → Int32 → Int32 → Option (Int32 × Int32 × Int32 × Int32 × Int32 × Int32 × Int32 × (Nat → Int32))) (z_v_r_next : Int32) (z_v_r_fault : Int32) (z_v_r_laterFault : Int32) (v_r_ownCell : Int32) (v_r_kind : (Nat → Int32)) (v_r_start : (Nat → Int32)) (v_r_value : (Nat → Int64)) (v_r_cellName : (Nat → Int64)) (v_g_cells : Int32) (v_r_next : Int32) (v_r_codeLength : Int32) (v_r_stopped : Int32) (v_r_fault : Int32) (v_r_faultPlace : Int32) (v_r_laterFault : Int32) (v_r_laterPlace : Int32) (v_g_code : (Nat → Int32)) (x1 : Int32) (x2 : Int32) (t0 : Int32) (u0 : rg v_r_ownCell (-1) 11) (u1 : rg v_g_cells 0 12) (u2 : rg v_r_next 0 402) (u3 : rg v_r_codeLength 0 400) (u4 : rg v_r_stopped 0 0) (u5 : rg x1 0 6) (u6 : rg x2 0 402) (u7 : rg t0 (-2) (-1)) (u8 : nx z_v_r_next v_r_next) (u9 : mn z_v_r_fault v_r_fault) (u10 : mn z_v_r_laterFault v_r_laterFault) (u11 : 7 ≤ x1.toInt + (n_ : Int) + 1) (u12 : sp v_r_stopped v_r_fault) (u13 : sn v_r_kind v_r_next) (u14 : t0.toInt ≤ v_r_ownCell.toInt) (u15 : v_r_stopped.toInt ≤ v_g_cells.toInt) (u16 : v_r_stopped.toInt ≤ v_r_codeLength.toInt) (u17 : v_r_stopped.toInt ≤ v_r_next.toInt) (u18 : v_r_stopped.toInt ≤ x1.toInt) (u19 : v_r_stopped.toInt ≤ x2.toInt) (u20 : t0.toInt < v_g_cells.toInt) (u21 : t0.toInt < v_r_codeLength.toInt) (u22 : t0.toInt < v_r_next.toInt) (u23 : t0.toInt < v_r_stopped.toInt) (u24 : t0.toInt < x1.toInt) (u25 : t0.toInt < x2.toInt) (u26 : rg (v_r_kind v_r_next.toNatClampNeg) 43 45) (hk7 : ∀ (v_r_next' : Int32) (v_r_codeLength' : Int32) (v_r_stopped' : Int32) (v_r_fault' : Int32) (v_r_faultPlace' : Int32) (v_r_laterFault' : Int32) (v_r_laterPlace' : Int32) (v_g_code' : (Nat → Int32)) (x1' : Int32) (x2' : Int32), rg v_r_next' 0 402 → rg v_r_codeLength' 0 400 → rg x1' 0 6 → rg x2' 0 403 → nx z_v_r_next v_r_next' → mn z_v_r_fault v_r_fault' → mn z_v_r_laterFault v_r_laterFault' → 7 ≤ x1'.toInt + (n_ : Int) + 1 → sp v_r_stopped' v_r_fault' → sn v_r_kind v_r_next' → x2.toInt < x2'.toInt → ok (k7 v_r_next' v_r_codeLength' v_r_stopped' v_r_fault' v_r_faultPlace' v_r_laterFault' v_r_laterPlace' v_g_code' x1' x2') (P_X5_readSum z_v_r_next z_v_r_fault z_v_r_laterFault v_r_kind)) : ok (f_X5_readSum_b69 R k7 v_r_ownCell v_r_kind v_r_start v_r_value v_r_cellName v_g_cells v_r_next v_r_codeLength v_r_stopped v_r_fault v_r_faultPlace v_r_laterFault v_r_laterPlace v_g_code x1 x2 t0) (P_X5_readSum z_v_r_next z_v_r_fault z_v_r_laterFault v_r_kind) := by
  unfold f_X5_readSum_b69
  refine ok_ck (inb_rg u2 (by decide) (by decide)) ?_
  refine ok_bd5 (s_X5_accept v_r_kind v_r_start v_r_next v_r_stopped v_r_fault v_r_faultPlace (v_r_kind v_r_next.toNatClampNeg) u2 u12 u13 (n34_rg u26 (by decide))) (fun o_2_0 o_2_1 o_2_2 o_2_3 o_2_4 p1 => ?_)
  have g2 : rg o_2_0 0 1 := p1.1
  have g4 : rg o_2_1 0 402 := p1.2.2.1
  have g5 : nx v_r_next o_2_1 := p1.2.2.2.1
  have g6 : mn v_r_fault o_2_3 := p1.2.2.2.2.1
  have g7 : sp o_2_2 o_2_3 := p1.2.2.2.2.2.1
  have g8 : sn v_r_kind o_2_1 := p1.2.2.2.2.2.2.1
  refine ok_bd8 (s_X5_readProduct R n_ hR v_r_ownCell v_r_kind v_r_start v_r_value v_r_cellName v_g_cells o_2_1 v_r_codeLength o_2_2 o_2_3 o_2_4 v_r_laterFault v_r_laterPlace v_g_code x1 u0 u1 g4 u3 g7 g8 u5 u11) (fun o_3_0 o_3_1 o_3_2 o_3_3 o_3_4 o_3_5 o_3_6 o_3_7 p10 => ?_)
  have g11 : rg o_3_0 0 402 := p10.1
  have g12 : rg o_3_1 0 400 := p10.2.1
  have g13 : nx o_2_1 o_3_0 := p10.2.2.1
  have g14 : mn o_2_3 o_3_3 := p10.2.2.2.1
  have g15 : mn v_r_laterFault o_3_5 := p10.2.2.2.2.1
  have g16 : sp o_3_2 o_3_3 := p10.2.2.2.2.2.1
  have g17 : sn v_r_kind o_3_0 := p10.2.2.2.2.2.2.1
  refine ok_bd2 (s_X5_emit o_3_1 o_3_7 t0 g12) (fun o_4_0 o_4_1 p18 => ?_)
  have g19 : rg o_4_0 0 400 := p18.1
  exact hk7 o_3_0 o_4_0 o_3_2 o_3_3 o_3_4 o_3_5 o_3_6 o_4_1 x1 (x2 + (1 : Int32)) g11 g19 u5 (rg_w (rg_add (e := 1) (f := 403) u6 (show rg (1 : Int32) 1 1 from ⟨by decide, by decide⟩) (by decide) (by decide) (by decide) (by decide)) (by decide) (by decide)) (nx_tr (nx_tr u8 g5) g13) (mn_tr (mn_tr u9 g6) g14) (mn_tr u10 g15) u11 g16 g17 (lt_ad u6 (show rg (1 : Int32) 1 1 from ⟨by decide, by decide⟩) (by decide) (by decide) (by decide))
set_option maxRecDepth 100000 in
set_option maxHeartbeats 2000000 in
theorem s_X5_readSum_b49 (R : Int32 → (Nat → Int32) → (Nat → Int32) → (Nat → Int64) → (Nat → Int64) → Int32 → Int32 → Int32 → Int32 → Int32 → Int32 → Int32 → Int32 → (Nat → Int32) → Int32 → Option (Int32 × Int32 × Int32 × Int32 × Int32 × Int32 × Int32 × (Nat → Int32))) (n_ : Nat) (hR : Rok n_ R) (k7 : Int32 → Int32 → Int32 → Int32 → Int32 → Int32 → Int32 → (Nat → Int32) → Int32 → Int32 → Option (Int32 × Int32 × Int32 × Int32 × Int32 × Int32 × Int32 × (Nat → Int32))) (z_v_r_next : Int32) (z_v_r_fault : Int32) (z_v_r_laterFault : Int32) (v_r_ownCell : Int32) (v_r_kind : (Nat → Int32)) (v_r_start : (Nat → Int32)) (v_r_value : (Nat → Int64)) (v_r_cellName : (Nat → Int64)) (v_g_cells : Int32) (v_r_next : Int32) (v_r_codeLength : Int32) (v_r_stopped : Int32) (v_r_fault : Int32) (v_r_faultPlace : Int32) (v_r_laterFault : Int32) (v_r_laterPlace : Int32) (v_g_code : (Nat → Int32)) (x1 : Int32) (x2 : Int32) (u0 : rg v_r_ownCell (-1) 11) (u1 : rg v_g_cells 0 12) (u2 : rg v_r_next 0 402) (u3 : rg v_r_codeLength 0 400) (u4 : rg v_r_stopped 0 0) (u5 : rg x1 0 6) (u6 : rg x2 0 402) (u7 : nx z_v_r_next v_r_next) (u8 : mn z_v_r_fault v_r_fault) (u9 : mn z_v_r_laterFault v_r_laterFault) (u10 : 7 ≤ x1.toInt + (n_ : Int) + 1) (u11 : sp v_r_stopped v_r_fault) (u12 : sn v_r_kind v_r_next) (u13 : v_r_stopped.toInt ≤ v_g_cells.toInt) (u14 : v_r_stopped.toInt ≤ v_r_codeLength.toInt) (u15 : v_r_stopped.toInt ≤ v_r_next.toInt) (u16 : v_r_stopped.toInt ≤ x1.toInt) (u17 : v_r_stopped.toInt ≤ x2.toInt) (u18 : rg (v_r_kind v_r_next.toNatClampNeg) 43 45) (hk7 : ∀ (v_r_next' : Int32) (v_r_codeLength' : Int32) (v_r_stopped' : Int32) (v_r_fault' : Int32) (v_r_faultPlace' : Int32) (v_r_laterFault' : Int32) (v_r_laterPlace' : Int32) (v_g_code' : (Nat → Int32)) (x1' : Int32) (x2' : Int32), rg v_r_next' 0 402 → rg v_r_codeLength' 0 400 → rg x1' 0 6 → rg x2' 0 403 → nx z_v_r_next v_r_next' → mn z_v_r_fault v_r_fault' → mn z_v_r_laterFault v_r_laterFault' → 7 ≤ x1'.toInt + (n_ : Int) + 1 → sp v_r_stopped' v_r_fault' → sn v_r_kind v_r_next' → x2.toInt < x2'.toInt → ok (k7 v_r_next' v_r_codeLength' v_r_stopped' v_r_fault' v_r_faultPlace' v_r_laterFault' v_r_laterPlace' v_g_code' x1' x2') (P_X5_readSum z_v_r_next z_v_r_fault z_v_r_laterFault v_r_kind)) : ok (f_X5_readSum_b49 R k7 v_r_ownCell v_r_kind v_r_start v_r_value v_r_cellName v_g_cells v_r_next v_r_codeLength v_r_stopped v_r_fault v_r_faultPlace v_r_laterFault v_r_laterPlace v_g_code x1 x2) (P_X5_readSum z_v_r_next z_v_r_fault z_v_r_laterFault v_r_kind) := by
  unfold f_X5_readSum_b49
  refine ok_ck (inb_rg u2 (by decide) (by decide)) ?_
  refine ok_if (fun c1 => ?_) (fun c1 => ?_)
  · have w2 : rg (v_r_kind v_r_next.toNatClampNeg) 43 43 := rg_lex (ti_eq c1) (rg_ley (ti_eq2 c1) (show rg (43 : Int32) 43 43 from ⟨by decide, by decide⟩) u18) (show rg (43 : Int32) 43 43 from ⟨by decide, by decide⟩)
    exact s_X5_readSum_b69 R n_ hR k7 z_v_r_next z_v_r_fault z_v_r_laterFault v_r_ownCell v_r_kind v_r_start v_r_value v_r_cellName v_g_cells v_r_next v_r_codeLength v_r_stopped v_r_fault v_r_faultPlace v_r_laterFault v_r_laterPlace v_g_code x1 x2 (-1 : Int32) u0 u1 u2 u3 u4 u5 u6 (rg_w (show rg (-1 : Int32) (-1) (-1) from ⟨by decide, by decide⟩) (by decide) (by decide)) u7 u8 u9 u10 u11 u12 (Int.le_trans (show rg (-1 : Int32) (-1) (-1) from ⟨by decide, by decide⟩).2 (Int.le_trans (by decide) u0.1)) u13 u14 u15 u16 u17 (Int.lt_of_le_of_lt (show rg (-1 : Int32) (-1) (-1) from ⟨by decide, by decide⟩).2 (Int.lt_of_lt_of_le (by decide) u1.1)) (Int.lt_of_le_of_lt (show rg (-1 : Int32) (-1) (-1) from ⟨by decide, by decide⟩).2 (Int.lt_of_lt_of_le (by decide) u3.1)) (Int.lt_of_le_of_lt (show rg (-1 : Int32) (-1) (-1) from ⟨by decide, by decide⟩).2 (Int.lt_of_lt_of_le (by decide) u2.1)) (Int.lt_of_le_of_lt (show rg (-1 : Int32) (-1) (-1) from ⟨by decide, by decide⟩).2 (Int.lt_of_lt_of_le (by decide) u4.1)) (Int.lt_of_le_of_lt (show rg (-1 : Int32) (-1) (-1) from ⟨by decide, by decide⟩).2 (Int.lt_of_lt_of_le (by decide) u5.1)) (Int.lt_of_le_of_lt (show rg (-1 : Int32) (-1) (-1) from ⟨by decide, by decide⟩).2 (Int.lt_of_lt_of_le (by decide) u6.1)) (rg_w w2 (by decide) (by decide)) hk7
  · have w3 : rg (v_r_kind v_r_next.toNatClampNeg) 44 45 := rg_nel 44 c1 u18 (show rg (43 : Int32) 43 43 from ⟨by decide, by decide⟩) (by decide)
    exact s_X5_readSum_b69 R n_ hR k7 z_v_r_next z_v_r_fault z_v_r_laterFault v_r_ownCell v_r_kind v_r_start v_r_value v_r_cellName v_g_cells v_r_next v_r_codeLength v_r_stopped v_r_fault v_r_faultPlace v_r_laterFault v_r_laterPlace v_g_code x1 x2 (-2 : Int32) u0 u1 u2 u3 u4 u5 u6 (rg_w (show rg (-2 : Int32) (-2) (-2) from ⟨by decide, by decide⟩) (by decide) (by decide)) u7 u8 u9 u10 u11 u12 (Int.le_trans (show rg (-2 : Int32) (-2) (-2) from ⟨by decide, by decide⟩).2 (Int.le_trans (by decide) u0.1)) u13 u14 u15 u16 u17 (Int.lt_of_le_of_lt (show rg (-2 : Int32) (-2) (-2) from ⟨by decide, by decide⟩).2 (Int.lt_of_lt_of_le (by decide) u1.1)) (Int.lt_of_le_of_lt (show rg (-2 : Int32) (-2) (-2) from ⟨by decide, by decide⟩).2 (Int.lt_of_lt_of_le (by decide) u3.1)) (Int.lt_of_le_of_lt (show rg (-2 : Int32) (-2) (-2) from ⟨by decide, by decide⟩).2 (Int.lt_of_lt_of_le (by decide) u2.1)) (Int.lt_of_le_of_lt (show rg (-2 : Int32) (-2) (-2) from ⟨by decide, by decide⟩).2 (Int.lt_of_lt_of_le (by decide) u4.1)) (Int.lt_of_le_of_lt (show rg (-2 : Int32) (-2) (-2) from ⟨by decide, by decide⟩).2 (Int.lt_of_lt_of_le (by decide) u5.1)) (Int.lt_of_le_of_lt (show rg (-2 : Int32) (-2) (-2) from ⟨by decide, by decide⟩).2 (Int.lt_of_lt_of_le (by decide) u6.1)) (rg_w w3 (by decide) (by decide)) hk7
set_option maxRecDepth 100000 in
set_option maxHeartbeats 2000000 in
theorem s_X5_readSum_b7 (R : Int32 → (Nat → Int32) → (Nat → Int32) → (Nat → Int64) → (Nat → Int64) → Int32 → Int32 → Int32 → Int32 → Int32 → Int32 → Int32 → Int32 → (Nat → Int32) → Int32 → Option (Int32 × Int32 × Int32 × Int32 × Int32 × Int32 × Int32 × (Nat → Int32))) (n_ : Nat) (hR : Rok n_ R)  (z_v_r_next : Int32) (z_v_r_fault : Int32) (z_v_r_laterFault : Int32) (v_r_ownCell : Int32) (v_r_kind : (Nat → Int32)) (v_r_start : (Nat → Int32)) (v_r_value : (Nat → Int64)) (v_r_cellName : (Nat → Int64)) (v_g_cells : Int32) (u0 : rg v_r_ownCell (-1) 11) (u1 : rg v_g_cells 0 12) : ∀ (n : Nat) (v_r_next : Int32) (v_r_codeLength : Int32) (v_r_stopped : Int32) (v_r_fault : Int32) (v_r_faultPlace : Int32) (v_r_laterFault : Int32) (v_r_laterPlace : Int32) (v_g_code : (Nat → Int32)) (x1 : Int32) (x2 : Int32) (u2 : rg v_r_next 0 402) (u3 : rg v_r_codeLength 0 400) (u4 : rg x1 0 6) (u5 : rg x2 0 403) (u6 : nx z_v_r_next v_r_next) (u7 : mn z_v_r_fault v_r_fault) (u8 : mn z_v_r_laterFault v_r_laterFault) (u9 : 7 ≤ x1.toInt + (n_ : Int) + 1) (u10 : sp v_r_stopped v_r_fault) (u11 : sn v_r_kind v_r_next)  (hm : (403 - x2.toInt).toNat < n), ok (f_X5_readSum_b7 R v_r_ownCell v_r_kind v_r_start v_r_value v_r_cellName v_g_cells n v_r_next v_r_codeLength v_r_stopped v_r_fault v_r_faultPlace v_r_laterFault v_r_laterPlace v_g_code x1 x2) (P_X5_readSum z_v_r_next z_v_r_fault z_v_r_laterFault v_r_kind) := by
  intro n
  induction n with
  | zero =>
    intro v_r_next v_r_codeLength v_r_stopped v_r_fault v_r_faultPlace v_r_laterFault v_r_laterPlace v_g_code x1 x2 u2 u3 u4 u5 u6 u7 u8 u9 u10 u11 hm
    exact absurd hm (Nat.not_lt_zero _)
  | succ n ih =>
    intro v_r_next v_r_codeLength v_r_stopped v_r_fault v_r_faultPlace v_r_laterFault v_r_laterPlace v_g_code x1 x2 u2 u3 u4 u5 u6 u7 u8 u9 u10 u11 hm
    show ok (f_X5_readSum_b7_st (f_X5_readSum_b7 R v_r_ownCell v_r_kind v_r_start v_r_value v_r_cellName v_g_cells n) R v_r_ownCell v_r_kind v_r_start v_r_value v_r_cellName v_g_cells v_r_next v_r_codeLength v_r_stopped v_r_fault v_r_faultPlace v_r_laterFault v_r_laterPlace v_g_code x1 x2) (P_X5_readSum z_v_r_next z_v_r_fault z_v_r_laterFault v_r_kind)
    unfold f_X5_readSum_b7_st
    refine ok_if (fun c1 => ?_) (fun c1 => ?_)
    · have w2 : rg x2 403 403 := rg_ley (ti_le c1) (show rg (403 : Int32) 403 403 from ⟨by decide, by decide⟩) u5
      exact ok_some ⟨u2, u3, u6, u7, u8, u10, u11, trivial⟩
    · have w3 : rg x2 0 402 := rg_ltx 402 (ti_nle c1) u5 (show rg (403 : Int32) 403 403 from ⟨by decide, by decide⟩) (by decide)
      refine ok_if (fun c4 => ?_) (fun c4 => ?_)
      · have w5 : rg v_r_stopped 0 0 := rg_lex (ti_eq c4) (rg_ley (ti_eq2 c4) (show rg (0 : Int32) 0 0 from ⟨by decide, by decide⟩) (rg_any v_r_stopped)) (show rg (0 : Int32) 0 0 from ⟨by decide, by decide⟩)
        refine ok_ck (inb_rg u2 (by decide) (by decide)) ?_
        refine ok_if (fun c6 => ?_) (fun c6 => ?_)
        · have w7 : rg (v_r_kind v_r_next.toNatClampNeg) 43 43 := rg_lex (ti_eq c6) (rg_ley (ti_eq2 c6) (show rg (43 : Int32) 43 43 from ⟨by decide, by decide⟩) (rg_any (v_r_kind v_r_next.toNatClampNeg))) (show rg (43 : Int32) 43 43 from ⟨by decide, by decide⟩)
          exact s_X5_readSum_b49 R n_ hR _ z_v_r_next z_v_r_fault z_v_r_laterFault v_r_ownCell v_r_kind v_r_start v_r_value v_r_cellName v_g_cells v_r_next v_r_codeLength v_r_stopped v_r_fault v_r_faultPlace v_r_laterFault v_r_laterPlace v_g_code x1 x2 u0 u1 u2 u3 w5 u4 w3 u6 u7 u8 u9 u10 u11 (Int.le_trans w5.2 (Int.le_trans (by decide) u1.1)) (Int.le_trans w5.2 (Int.le_trans (by decide) u3.1)) (Int.le_trans w5.2 (Int.le_trans (by decide) u2.1)) (Int.le_trans w5.2 (Int.le_trans (by decide) u4.1)) (Int.le_trans w5.2 (Int.le_trans (by decide) w3.1)) (rg_w w7 (by decide) (by decide)) (by intro v_r_next' v_r_codeLength' v_r_stopped' v_r_fault' v_r_faultPlace' v_r_laterFault' v_r_laterPlace' v_g_code' x1' x2' f0 f1 f2 f3 f4 f5 f6 f7 f8 f9 lt; exact ih _ _ _ _ _ _ _ _ _ _ f0 f1 f2 f3 f4 f5 f6 f7 f8 f9 (ms_up hm lt f3))
        · refine ok_ck (inb_rg u2 (by decide) (by decide)) ?_
          refine ok_if (fun c8 => ?_) (fun c8 => ?_)
          · have w9 : rg (v_r_kind v_r_next.toNatClampNeg) 45 45 := rg_lex (ti_eq c8) (rg_ley (ti_eq2 c8) (show rg (45 : Int32) 45 45 from ⟨by decide, by decide⟩) (rg_any (v_r_kind v_r_next.toNatClampNeg))) (show rg (45 : Int32) 45 45 from ⟨by decide, by decide⟩)
            exact s_X5_readSum_b49 R n_ hR _ z_v_r_next z_v_r_fault z_v_r_laterFault v_r_ownCell v_r_kind v_r_start v_r_value v_r_cellName v_g_cells v_r_next v_r_codeLength v_r_stopped v_r_fault v_r_faultPlace v_r_laterFault v_r_laterPlace v_g_code x1 x2 u0 u1 u2 u3 w5 u4 w3 u6 u7 u8 u9 u10 u11 (Int.le_trans w5.2 (Int.le_trans (by decide) u1.1)) (Int.le_trans w5.2 (Int.le_trans (by decide) u3.1)) (Int.le_trans w5.2 (Int.le_trans (by decide) u2.1)) (Int.le_trans w5.2 (Int.le_trans (by decide) u4.1)) (Int.le_trans w5.2 (Int.le_trans (by decide) w3.1)) (rg_w w9 (by decide) (by decide)) (by intro v_r_next' v_r_codeLength' v_r_stopped' v_r_fault' v_r_faultPlace' v_r_laterFault' v_r_laterPlace' v_g_code' x1' x2' f0 f1 f2 f3 f4 f5 f6 f7 f8 f9 lt; exact ih _ _ _ _ _ _ _ _ _ _ f0 f1 f2 f3 f4 f5 f6 f7 f8 f9 (ms_up hm lt f3))
          · exact ok_some ⟨u2, u3, u6, u7, u8, u10, u11, trivial⟩
      · exact ok_some ⟨u2, u3, u6, u7, u8, u10, u11, trivial⟩
set_option maxRecDepth 100000 in
set_option maxHeartbeats 2000000 in
theorem s_X5_readSum (R : Int32 → (Nat → Int32) → (Nat → Int32) → (Nat → Int64) → (Nat → Int64) → Int32 → Int32 → Int32 → Int32 → Int32 → Int32 → Int32 → Int32 → (Nat → Int32) → Int32 → Option (Int32 × Int32 × Int32 × Int32 × Int32 × Int32 × Int32 × (Nat → Int32))) (n_ : Nat) (hR : Rok n_ R) (v_r_ownCell : Int32) (v_r_kind : (Nat → Int32)) (v_r_start : (Nat → Int32)) (v_r_value : (Nat → Int64)) (v_r_cellName : (Nat → Int64)) (v_g_cells : Int32) (v_r_next : Int32) (v_r_codeLength : Int32) (v_r_stopped : Int32) (v_r_fault : Int32) (v_r_faultPlace : Int32) (v_r_laterFault : Int32) (v_r_laterPlace : Int32) (v_g_code : (Nat → Int32)) (q1 : Int32) (u0 : rg v_r_ownCell (-1) 11) (u1 : rg v_g_cells 0 12) (u2 : rg v_r_next 0 402) (u3 : rg v_r_codeLength 0 400) (u4 : sp v_r_stopped v_r_fault) (u5 : sn v_r_kind v_r_next) (u6 : rg q1 0 6) (u7 : 7 ≤ q1.toInt + (n_ : Int) + 1) : ok (f_X5_readSum R v_r_ownCell v_r_kind v_r_start v_r_value v_r_cellName v_g_cells v_r_next v_r_codeLength v_r_stopped v_r_fault v_r_faultPlace v_r_laterFault v_r_laterPlace v_g_code q1) (P_X5_readSum v_r_next v_r_fault v_r_laterFault v_r_kind) := by
  unfold f_X5_readSum
  refine ok_bd8 (s_X5_readProduct R n_ hR v_r_ownCell v_r_kind v_r_start v_r_value v_r_cellName v_g_cells v_r_next v_r_codeLength v_r_stopped v_r_fault v_r_faultPlace v_r_laterFault v_r_laterPlace v_g_code q1 u0 u1 u2 u3 u4 u5 u6 u7) (fun o_1_0 o_1_1 o_1_2 o_1_3 o_1_4 o_1_5 o_1_6 o_1_7 p1 => ?_)
  have g2 : rg o_1_0 0 402 := p1.1
  have g3 : rg o_1_1 0 400 := p1.2.1
  have g4 : nx v_r_next o_1_0 := p1.2.2.1
  have g5 : mn v_r_fault o_1_3 := p1.2.2.2.1
  have g6 : mn v_r_laterFault o_1_5 := p1.2.2.2.2.1
  have g7 : sp o_1_2 o_1_3 := p1.2.2.2.2.2.1
  have g8 : sn v_r_kind o_1_0 := p1.2.2.2.2.2.2.1
  exact s_X5_readSum_b7 R n_ hR v_r_next v_r_fault v_r_laterFault v_r_ownCell v_r_kind v_r_start v_r_value v_r_cellName v_g_cells u0 u1 _ o_1_0 o_1_1 o_1_2 o_1_3 o_1_4 o_1_5 o_1_6 o_1_7 q1 (0 : Int32) g2 g3 u6 (rg_w (show rg (0 : Int32) 0 0 from ⟨by decide, by decide⟩) (by decide) (by decide)) g4 g5 g6 u7 g7 g8 (fu_up (a := 0) (h := 403) (rg_w (show rg (0 : Int32) 0 0 from ⟨by decide, by decide⟩) (by decide) (by decide)) (by decide))

theorem s_fLr : ∀ n, Rok n (fLr n) := by
  intro n
  induction n with
  | zero =>
    intro v_r_ownCell v_r_kind v_r_start v_r_value v_r_cellName v_g_cells v_r_next v_r_codeLength v_r_stopped v_r_fault v_r_faultPlace v_r_laterFault v_r_laterPlace v_g_code q1 u0 u1 u2 u3 u4 u5 u6 hd
    have := u6.2
    omega
  | succ n ih =>
    intro v_r_ownCell v_r_kind v_r_start v_r_value v_r_cellName v_g_cells v_r_next v_r_codeLength v_r_stopped v_r_fault v_r_faultPlace v_r_laterFault v_r_laterPlace v_g_code q1 u0 u1 u2 u3 u4 u5 u6 hd
    exact s_X5_readSum (fLr n) n ih v_r_ownCell v_r_kind v_r_start v_r_value v_r_cellName v_g_cells v_r_next v_r_codeLength v_r_stopped v_r_fault v_r_faultPlace v_r_laterFault v_r_laterPlace v_g_code q1 u0 u1 u2 u3 u4 u5 u6 (by omega)
theorem s_fLr7 (v_r_ownCell : Int32) (v_r_kind : (Nat → Int32)) (v_r_start : (Nat → Int32)) (v_r_value : (Nat → Int64)) (v_r_cellName : (Nat → Int64)) (v_g_cells : Int32) (v_r_next : Int32) (v_r_codeLength : Int32) (v_r_stopped : Int32) (v_r_fault : Int32) (v_r_faultPlace : Int32) (v_r_laterFault : Int32) (v_r_laterPlace : Int32) (v_g_code : (Nat → Int32)) (q1 : Int32) (u0 : rg v_r_ownCell (-1) 11) (u1 : rg v_g_cells 0 12) (u2 : rg v_r_next 0 402) (u3 : rg v_r_codeLength 0 400) (u4 : sp v_r_stopped v_r_fault) (u5 : sn v_r_kind v_r_next) (u6 : rg q1 0 6) : ok (fLr 7 v_r_ownCell v_r_kind v_r_start v_r_value v_r_cellName v_g_cells v_r_next v_r_codeLength v_r_stopped v_r_fault v_r_faultPlace v_r_laterFault v_r_laterPlace v_g_code q1) (P_X5_readSum v_r_next v_r_fault v_r_laterFault v_r_kind) := s_fLr 7 v_r_ownCell v_r_kind v_r_start v_r_value v_r_cellName v_g_cells v_r_next v_r_codeLength v_r_stopped v_r_fault v_r_faultPlace v_r_laterFault v_r_laterPlace v_g_code q1 u0 u1 u2 u3 u4 u5 u6 (by have := u6.1; omega)
abbrev P_X5_readCell (z_v_r_next : Int32) (z_v_r_fault : Int32) (z_v_r_laterFault : Int32) (v_r_kind : (Nat → Int32)) : Int32 × Int32 × Int32 × Int32 × Int32 × Int32 × (Nat → Int64) × Int32 × (Nat → Int32) × (Nat → Int32) → Prop := (fun o : Int32 × Int32 × Int32 × Int32 × Int32 × Int32 × (Nat → Int64) × Int32 × (Nat → Int32) × (Nat → Int32) => rg o.1 0 402 ∧ rg o.2.2.2.2.2.2.2.1 0 12 ∧ nx z_v_r_next o.1 ∧ mn z_v_r_fault o.2.2.1 ∧ mn z_v_r_laterFault o.2.2.2.2.1 ∧ sp o.2.1 o.2.2.1 ∧ sn v_r_kind o.1 ∧ True)
set_option maxRecDepth 100000 in
set_option maxHeartbeats 2000000 in
theorem s_X5_readCell (v_r_kind : (Nat → Int32)) (v_r_start : (Nat → Int32)) (v_r_value : (Nat → Int64)) (v_r_villageName : (Nat → Int64)) (v_g_villages : Int32) (v_r_next : Int32) (v_r_stopped : Int32) (v_r_fault : Int32) (v_r_faultPlace : Int32) (v_r_laterFault : Int32) (v_r_laterPlace : Int32) (v_r_cellName : (Nat → Int64)) (v_g_cells : Int32) (v_g_room : (Nat → Int32)) (v_g_water : (Nat → Int32)) (u0 : rg v_g_villages 0 6) (u1 : rg v_r_next 0 402) (u2 : rg v_g_cells 0 12) (u3 : sp v_r_stopped v_r_fault) (u4 : sn v_r_kind v_r_next) (u5 : rg (v_r_kind v_r_next.toNatClampNeg) 5 2147483647) : ok (f_X5_readCell v_r_kind v_r_start v_r_value v_r_villageName v_g_villages v_r_next v_r_stopped v_r_fault v_r_faultPlace v_r_laterFault v_r_laterPlace v_r_cellName v_g_cells v_g_room v_g_water) (P_X5_readCell v_r_next v_r_fault v_r_laterFault v_r_kind) := by
  unfold f_X5_readCell
  refine ok_bd5 (s_X5_opens v_r_kind v_r_start v_r_next v_r_stopped v_r_fault v_r_faultPlace v_g_cells (12 : Int32) u1 u3 u4 u5) (fun o_1_0 o_1_1 o_1_2 o_1_3 o_1_4 p1 => ?_)
  have g2 : rg o_1_0 0 1 := p1.1
  have g4 : rg o_1_1 0 402 := p1.2.2.1
  have g5 : nx v_r_next o_1_1 := p1.2.2.2.1
  have g6 : mn v_r_fault o_1_3 := p1.2.2.2.2.1
  have g7 : sp o_1_2 o_1_3 := p1.2.2.2.2.2.1
  have g8 : sn v_r_kind o_1_1 := p1.2.2.2.2.2.2.1
  refine ok_if (fun c9 => ?_) (fun c9 => ?_)
  · have w10 : rg o_1_0 0 0 := rg_lex (ti_eq c9) (rg_ley (ti_eq2 c9) (show rg (0 : Int32) 0 0 from ⟨by decide, by decide⟩) g2) (show rg (0 : Int32) 0 0 from ⟨by decide, by decide⟩)
    exact ok_some ⟨g4, u2, g5, g6, mn_rf, g7, g8, trivial⟩
  · obtain ⟨i11_0, i11_1⟩ := p1.2.1.resolve_left c9
    have w12 : rg v_g_cells 0 11 := rg_ltx 11 i11_0 u2 (show rg (12 : Int32) 12 12 from ⟨by decide, by decide⟩) (by decide)
    have w13 : rg o_1_0 1 1 := rg_nel 1 c9 g2 (show rg (0 : Int32) 0 0 from ⟨by decide, by decide⟩) (by decide)
    refine ok_bd7 (s_X5_newName v_r_kind v_r_start v_r_value v_r_cellName v_r_villageName v_g_cells v_g_villages o_1_1 o_1_2 o_1_3 o_1_4 v_r_laterFault v_r_laterPlace (rg_w w12 (by decide) (by decide)) u0 (rg_w i11_1 (by decide) (by decide)) g7 g8) (fun o_3_0 o_3_1 o_3_2 o_3_3 o_3_4 o_3_5 o_3_6 p14 => ?_)
    have g15 : rg o_3_1 0 402 := p14.1
    have g16 : nx o_1_1 o_3_1 := p14.2.1
    have g17 : mn o_1_3 o_3_3 := p14.2.2.1
    have g18 : mn v_r_laterFault o_3_5 := p14.2.2.2.1
    have g19 : sp o_3_2 o_3_3 := p14.2.2.2.2.1
    have g20 : sn v_r_kind o_3_1 := p14.2.2.2.2.2.1
    refine ok_ck (inb_rg w12 (by decide) (by decide)) ?_
    refine ok_nm (fun a_5 ea_5 => ?_)
    refine ok_bd7 (s_X5_number v_r_kind v_r_start v_r_value o_3_1 o_3_2 o_3_3 o_3_4 o_3_5 o_3_6 (1 : Int32) (9 : Int32) (rg_w (rg_ley g16 i11_1 g15) (by decide) (by decide)) g19 g20) (fun o_6_0 o_6_1 o_6_2 o_6_3 o_6_4 o_6_5 o_6_6 p21 => ?_)
    have g22 : rg o_6_1 0 402 := p21.1
    have g23 : nx o_3_1 o_6_1 := p21.2.1
    have g24 : mn o_3_3 o_6_3 := p21.2.2.1
    have g25 : mn o_3_5 o_6_5 := p21.2.2.2.1
    have g26 : sp o_6_2 o_6_3 := p21.2.2.2.2.1
    have g27 : sn v_r_kind o_6_1 := p21.2.2.2.2.2.1
    refine ok_ck (inb_rg w12 (by decide) (by decide)) ?_
    refine ok_nm (fun a_8 ea_8 => ?_)
    refine ok_bd7 (s_X5_number v_r_kind v_r_start v_r_value o_6_1 o_6_2 o_6_3 o_6_4 o_6_5 o_6_6 (0 : Int32) (9999 : Int32) (rg_w (rg_ley g23 (rg_ley g16 i11_1 g15) g22) (by decide) (by decide)) g26 g27) (fun o_9_0 o_9_1 o_9_2 o_9_3 o_9_4 o_9_5 o_9_6 p28 => ?_)
    have g29 : rg o_9_1 0 402 := p28.1
    have g30 : nx o_6_1 o_9_1 := p28.2.1
    have g31 : mn o_6_3 o_9_3 := p28.2.2.1
    have g32 : mn o_6_5 o_9_5 := p28.2.2.2.1
    have g33 : sp o_9_2 o_9_3 := p28.2.2.2.2.1
    have g34 : sn v_r_kind o_9_1 := p28.2.2.2.2.2.1
    refine ok_ck (inb_rg w12 (by decide) (by decide)) ?_
    refine ok_nm (fun a_11 ea_11 => ?_)
    refine ok_bd5 (s_X5_accept v_r_kind v_r_start o_9_1 o_9_2 o_9_3 o_9_4 (59 : Int32) (rg_w (rg_ley g30 (rg_ley g23 (rg_ley g16 i11_1 g15) g22) g29) (by decide) (by decide)) g33 g34 (n34_rg (show rg (59 : Int32) 59 59 from ⟨by decide, by decide⟩) (by decide))) (fun o_12_0 o_12_1 o_12_2 o_12_3 o_12_4 p35 => ?_)
    have g36 : rg o_12_0 0 1 := p35.1
    have g38 : rg o_12_1 0 402 := p35.2.2.1
    have g39 : nx o_9_1 o_12_1 := p35.2.2.2.1
    have g40 : mn o_9_3 o_12_3 := p35.2.2.2.2.1
    have g41 : sp o_12_2 o_12_3 := p35.2.2.2.2.2.1
    have g42 : sn v_r_kind o_12_1 := p35.2.2.2.2.2.2.1
    exact ok_some ⟨(rg_w (rg_ley g39 (rg_ley g30 (rg_ley g23 (rg_ley g16 i11_1 g15) g22) g29) g38) (by decide) (by decide)), (rg_w (rg_add (e := 1) (f := 12) w12 (show rg (1 : Int32) 1 1 from ⟨by decide, by decide⟩) (by decide) (by decide) (by decide) (by decide)) (by decide) (by decide)), (nx_tr (nx_tr (nx_tr (nx_tr g5 g16) g23) g30) g39), (mn_tr (mn_tr (mn_tr (mn_tr g6 g17) g24) g31) g40), (mn_tr (mn_tr g18 g25) g32), g41, g42, trivial⟩

abbrev P_X5_readPass (z_v_r_next : Int32) (z_v_r_fault : Int32) (z_v_r_laterFault : Int32) (v_r_kind : (Nat → Int32)) : Int32 × Int32 × Int32 × Int32 × Int32 × Int32 × Int32 × (Nat → Int32) × (Nat → Int32) × (Nat → Int32) × (Nat → Int32) → Prop := (fun o : Int32 × Int32 × Int32 × Int32 × Int32 × Int32 × Int32 × (Nat → Int32) × (Nat → Int32) × (Nat → Int32) × (Nat → Int32) => rg o.1 0 402 ∧ rg o.2.2.2.2.2.2.1 0 20 ∧ nx z_v_r_next o.1 ∧ mn z_v_r_fault o.2.2.1 ∧ mn z_v_r_laterFault o.2.2.2.2.1 ∧ sp o.2.1 o.2.2.1 ∧ sn v_r_kind o.1 ∧ ca (o.2.2.1) (o.2.2.2.2.1) (o.2.2.2.2.2.2.2.2.1) (o.2.2.2.2.2.2.1) ∧ ca (o.2.2.1) (o.2.2.2.2.1) (o.2.2.2.2.2.2.2.2.2.1) (o.2.2.2.2.2.2.1) ∧ True)
set_option maxRecDepth 100000 in
set_option maxHeartbeats 2000000 in
theorem s_X5_readPass (v_r_kind : (Nat → Int32)) (v_r_start : (Nat → Int32)) (v_r_value : (Nat → Int64)) (v_r_cellName : (Nat → Int64)) (v_g_cells : Int32) (v_r_next : Int32) (v_r_stopped : Int32) (v_r_fault : Int32) (v_r_faultPlace : Int32) (v_r_laterFault : Int32) (v_r_laterPlace : Int32) (v_g_passes : Int32) (v_g_ways : (Nat → Int32)) (v_g_passFrom : (Nat → Int32)) (v_g_passTo : (Nat → Int32)) (v_g_passWidth : (Nat → Int32)) (u0 : rg v_g_cells 0 12) (u1 : rg v_r_next 0 402) (u2 : rg v_g_passes 0 20) (u3 : sp v_r_stopped v_r_fault) (u4 : sn v_r_kind v_r_next) (u5 : ca v_r_fault v_r_laterFault v_g_passFrom v_g_passes) (u6 : ca v_r_fault v_r_laterFault v_g_passTo v_g_passes) (u7 : rg (v_r_kind v_r_next.toNatClampNeg) 5 2147483647) : ok (f_X5_readPass v_r_kind v_r_start v_r_value v_r_cellName v_g_cells v_r_next v_r_stopped v_r_fault v_r_faultPlace v_r_laterFault v_r_laterPlace v_g_passes v_g_ways v_g_passFrom v_g_passTo v_g_passWidth) (P_X5_readPass v_r_next v_r_fault v_r_laterFault v_r_kind) := by
  unfold f_X5_readPass
  refine ok_ck (inb_rg u1 (by decide) (by decide)) ?_
  refine ok_bd5 (s_X5_opens v_r_kind v_r_start v_r_next v_r_stopped v_r_fault v_r_faultPlace v_g_passes (20 : Int32) u1 u3 u4 u7) (fun o_2_0 o_2_1 o_2_2 o_2_3 o_2_4 p1 => ?_)
  have g2 : rg o_2_0 0 1 := p1.1
  have g4 : rg o_2_1 0 402 := p1.2.2.1
  have g5 : nx v_r_next o_2_1 := p1.2.2.2.1
  have g6 : mn v_r_fault o_2_3 := p1.2.2.2.2.1
  have g7 : sp o_2_2 o_2_3 := p1.2.2.2.2.2.1
  have g8 : sn v_r_kind o_2_1 := p1.2.2.2.2.2.2.1
  refine ok_if (fun c9 => ?_) (fun c9 => ?_)
  · have w10 : rg o_2_0 0 0 := rg_lex (ti_eq c9) (rg_ley (ti_eq2 c9) (show rg (0 : Int32) 0 0 from ⟨by decide, by decide⟩) g2) (show rg (0 : Int32) 0 0 from ⟨by decide, by decide⟩)
    exact ok_some ⟨g4, u2, g5, g6, mn_rf, g7, g8, (ca_mn u5 g6 mn_rf), (ca_mn u6 g6 mn_rf), trivial⟩
  · obtain ⟨i11_0, i11_1⟩ := p1.2.1.resolve_left c9
    have w12 : rg v_g_passes 0 19 := rg_ltx 19 i11_0 u2 (show rg (20 : Int32) 20 20 from ⟨by decide, by decide⟩) (by decide)
    have w13 : rg o_2_0 1 1 := rg_nel 1 c9 g2 (show rg (0 : Int32) 0 0 from ⟨by decide, by decide⟩) (by decide)
    refine ok_bd7 (s_X5_knownCell v_r_kind v_r_start v_r_value v_r_cellName v_g_cells o_2_1 o_2_2 o_2_3 o_2_4 v_r_laterFault v_r_laterPlace u0 (rg_w i11_1 (by decide) (by decide)) g7 g8) (fun o_4_0 o_4_1 o_4_2 o_4_3 o_4_4 o_4_5 o_4_6 p14 => ?_)
    have g15 : rg o_4_0 (-1) 11 := p14.1
    have g16 : rg o_4_1 0 402 := p14.2.1
    have g17 : nx o_2_1 o_4_1 := p14.2.2.1
    have g18 : mn o_2_3 o_4_3 := p14.2.2.2.1
    have g19 : mn v_r_laterFault o_4_5 := p14.2.2.2.2.1
    have g20 : sp o_4_2 o_4_3 := p14.2.2.2.2.2.1
    have g21 : sn v_r_kind o_4_1 := p14.2.2.2.2.2.2.1
    refine ok_bd7 (s_X5_knownCell v_r_kind v_r_start v_r_value v_r_cellName v_g_cells o_4_1 o_4_2 o_4_3 o_4_4 o_4_5 o_4_6 u0 (rg_w (rg_ley g17 i11_1 g16) (by decide) (by decide)) g20 g21) (fun o_5_0 o_5_1 o_5_2 o_5_3 o_5_4 o_5_5 o_5_6 p23 => ?_)
    have g24 : rg o_5_0 (-1) 11 := p23.1
    have g25 : rg o_5_1 0 402 := p23.2.1
    have g26 : nx o_4_1 o_5_1 := p23.2.2.1
    have g27 : mn o_4_3 o_5_3 := p23.2.2.2.1
    have g28 : mn o_4_5 o_5_5 := p23.2.2.2.2.1
    have g29 : sp o_5_2 o_5_3 := p23.2.2.2.2.2.1
    have g30 : sn v_r_kind o_5_1 := p23.2.2.2.2.2.2.1
    refine ok_if (fun c32 => ?_) (fun c32 => ?_)
    · have w33 : rg o_4_0 (-1) (-1) := rg_lex (ti_eq c32) (rg_ley (ti_eq2 c32) (show rg (-1 : Int32) (-1) (-1) from ⟨by decide, by decide⟩) g15) (show rg (-1 : Int32) (-1) (-1) from ⟨by decide, by decide⟩)
      unfold f_X5_readPass_b65
      refine ok_if (fun c34 => ?_) (fun c34 => ?_)
      · unfold f_X5_readPass_b89
        refine ok_ck (inb_rg w12 (by decide) (by decide)) ?_
        refine ok_nm (fun a_2_i89 ea_2_i89 => ?_)
        refine ok_ck (inb_rg w12 (by decide) (by decide)) ?_
        refine ok_nm (fun a_4_i89 ea_4_i89 => ?_)
        refine ok_bd7 (s_X5_number v_r_kind v_r_start v_r_value o_5_1 o_5_2 o_5_3 o_5_4 o_5_5 o_5_6 (1 : Int32) (10 : Int32) (rg_w (rg_ley g26 (rg_ley g17 i11_1 g16) g25) (by decide) (by decide)) g29 g30) (fun o_5_0_i89 o_5_1_i89 o_5_2_i89 o_5_3_i89 o_5_4_i89 o_5_5_i89 o_5_6_i89 p35 => ?_)
        have g36 : rg o_5_1_i89 0 402 := p35.1
        have g37 : nx o_5_1 o_5_1_i89 := p35.2.1
        have g38 : mn o_5_3 o_5_3_i89 := p35.2.2.1
        have g39 : mn o_5_5 o_5_5_i89 := p35.2.2.2.1
        have g40 : sp o_5_2_i89 o_5_3_i89 := p35.2.2.2.2.1
        have g41 : sn v_r_kind o_5_1_i89 := p35.2.2.2.2.2.1
        refine ok_ck (inb_rg w12 (by decide) (by decide)) ?_
        refine ok_nm (fun a_7_i89 ea_7_i89 => ?_)
        refine ok_bd5 (s_X5_accept v_r_kind v_r_start o_5_1_i89 o_5_2_i89 o_5_3_i89 o_5_4_i89 (59 : Int32) (rg_w (rg_ley g37 (rg_ley g26 (rg_ley g17 i11_1 g16) g25) g36) (by decide) (by decide)) g40 g41 (n34_rg (show rg (59 : Int32) 59 59 from ⟨by decide, by decide⟩) (by decide))) (fun o_8_0_i89 o_8_1_i89 o_8_2_i89 o_8_3_i89 o_8_4_i89 p42 => ?_)
        have g43 : rg o_8_0_i89 0 1 := p42.1
        have g45 : rg o_8_1_i89 0 402 := p42.2.2.1
        have g46 : nx o_5_1_i89 o_8_1_i89 := p42.2.2.2.1
        have g47 : mn o_5_3_i89 o_8_3_i89 := p42.2.2.2.2.1
        have g48 : sp o_8_2_i89 o_8_3_i89 := p42.2.2.2.2.2.1
        have g49 : sn v_r_kind o_8_1_i89 := p42.2.2.2.2.2.2.1
        exact ok_some ⟨(rg_w (rg_ley g46 (rg_ley g37 (rg_ley g26 (rg_ley g17 i11_1 g16) g25) g36) g45) (by decide) (by decide)), (rg_w (rg_add (e := 1) (f := 20) w12 (show rg (1 : Int32) 1 1 from ⟨by decide, by decide⟩) (by decide) (by decide) (by decide) (by decide)) (by decide) (by decide)), (nx_tr (nx_tr (nx_tr (nx_tr g5 g17) g26) g37) g46), (mn_tr (mn_tr (mn_tr (mn_tr g6 g18) g27) g38) g47), (mn_tr (mn_tr g19 g28) g39), g48, g49, (ca_up ea_2_i89 (ca_mn u5 (mn_tr (mn_tr (mn_tr (mn_tr g6 g18) g27) g38) g47) (mn_tr (mn_tr g19 g28) g39)) (nfo_rg p14.2.2.2.2.2.2.2.1 (mn_tr (mn_tr g27 g38) g47) (mn_tr g28 g39) (rg_w w33 (by decide) (by decide))) w12 (by decide) (by decide)), (ca_up ea_4_i89 (ca_mn u6 (mn_tr (mn_tr (mn_tr (mn_tr g6 g18) g27) g38) g47) (mn_tr (mn_tr g19 g28) g39)) (nfo_rg p23.2.2.2.2.2.2.2.1 (mn_tr g38 g47) g39 (rg_w g24 (by decide) (by decide))) w12 (by decide) (by decide)), trivial⟩
      · have w51 : rg o_4_0 0 (-1) := rg_nel 0 c34 w33 (show rg (-1 : Int32) (-1) (-1) from ⟨by decide, by decide⟩) (by decide)
        exact rg_no w51 (by decide)
    · have w52 : rg o_4_0 0 11 := rg_nel 0 c32 g15 (show rg (-1 : Int32) (-1) (-1) from ⟨by decide, by decide⟩) (by decide)
      refine ok_if (fun c53 => ?_) (fun c53 => ?_)
      · have w54 : rg o_5_0 0 11 := rg_lex (ti_eq2 c53) (rg_ley (ti_eq c53) w52 g24) w52
        refine ok_bd2 (s_X5_later o_5_1 v_r_start o_5_5 o_5_6 (5 : Int32) (rg_w (rg_ley g26 (rg_ley g17 i11_1 g16) g25) (by decide) (by decide)) (rg_w (show rg (5 : Int32) 5 5 from ⟨by decide, by decide⟩) (by decide) (by decide)) (rg_ley g26 (rg_ley g17 i11_1 g16) g25)) (fun o_8_0 o_8_1 p55 => ?_)
        have g56 : mn o_5_5 o_8_0 := p55.1
        have g57 : ¬ o_8_0 = 0 := p55.2.1
        unfold f_X5_readPass_b89
        refine ok_ck (inb_rg w12 (by decide) (by decide)) ?_
        refine ok_nm (fun a_2_i89 ea_2_i89 => ?_)
        refine ok_ck (inb_rg w12 (by decide) (by decide)) ?_
        refine ok_nm (fun a_4_i89 ea_4_i89 => ?_)
        refine ok_bd7 (s_X5_number v_r_kind v_r_start v_r_value o_5_1 o_5_2 o_5_3 o_5_4 o_8_0 o_8_1 (1 : Int32) (10 : Int32) (rg_w (rg_ley g26 (rg_ley g17 i11_1 g16) g25) (by decide) (by decide)) g29 g30) (fun o_5_0_i89 o_5_1_i89 o_5_2_i89 o_5_3_i89 o_5_4_i89 o_5_5_i89 o_5_6_i89 p58 => ?_)
        have g59 : rg o_5_1_i89 0 402 := p58.1
        have g60 : nx o_5_1 o_5_1_i89 := p58.2.1
        have g61 : mn o_5_3 o_5_3_i89 := p58.2.2.1
        have g62 : mn o_8_0 o_5_5_i89 := p58.2.2.2.1
        have g63 : sp o_5_2_i89 o_5_3_i89 := p58.2.2.2.2.1
        have g64 : sn v_r_kind o_5_1_i89 := p58.2.2.2.2.2.1
        refine ok_ck (inb_rg w12 (by decide) (by decide)) ?_
        refine ok_nm (fun a_7_i89 ea_7_i89 => ?_)
        refine ok_bd5 (s_X5_accept v_r_kind v_r_start o_5_1_i89 o_5_2_i89 o_5_3_i89 o_5_4_i89 (59 : Int32) (rg_w (rg_ley g60 (rg_ley g26 (rg_ley g17 i11_1 g16) g25) g59) (by decide) (by decide)) g63 g64 (n34_rg (show rg (59 : Int32) 59 59 from ⟨by decide, by decide⟩) (by decide))) (fun o_8_0_i89 o_8_1_i89 o_8_2_i89 o_8_3_i89 o_8_4_i89 p65 => ?_)
        have g66 : rg o_8_0_i89 0 1 := p65.1
        have g68 : rg o_8_1_i89 0 402 := p65.2.2.1
        have g69 : nx o_5_1_i89 o_8_1_i89 := p65.2.2.2.1
        have g70 : mn o_5_3_i89 o_8_3_i89 := p65.2.2.2.2.1
        have g71 : sp o_8_2_i89 o_8_3_i89 := p65.2.2.2.2.2.1
        have g72 : sn v_r_kind o_8_1_i89 := p65.2.2.2.2.2.2.1
        exact ok_some ⟨(rg_w (rg_ley g69 (rg_ley g60 (rg_ley g26 (rg_ley g17 i11_1 g16) g25) g59) g68) (by decide) (by decide)), (rg_w (rg_add (e := 1) (f := 20) w12 (show rg (1 : Int32) 1 1 from ⟨by decide, by decide⟩) (by decide) (by decide) (by decide) (by decide)) (by decide) (by decide)), (nx_tr (nx_tr (nx_tr (nx_tr g5 g17) g26) g60) g69), (mn_tr (mn_tr (mn_tr (mn_tr g6 g18) g27) g61) g70), (mn_tr (mn_of g57) g62), g71, g72, (ca_up ea_2_i89 (ca_mn u5 (mn_tr (mn_tr (mn_tr (mn_tr g6 g18) g27) g61) g70) (mn_tr (mn_of g57) g62)) (fun _ _ => rg_w w52 (by decide) (by decide)) w12 (by decide) (by decide)), (ca_up ea_4_i89 (ca_mn u6 (mn_tr (mn_tr (mn_tr (mn_tr g6 g18) g27) g61) g70) (mn_tr (mn_of g57) g62)) (fun _ _ => rg_w w54 (by decide) (by decide)) w12 (by decide) (by decide)), trivial⟩
      · unfold f_X5_readPass_b65
        refine ok_if (fun c74 => ?_) (fun c74 => ?_)
        · have w75 : rg o_4_0 0 (-1) := rg_lex (ti_eq c74) w52 (show rg (-1 : Int32) (-1) (-1) from ⟨by decide, by decide⟩)
          exact rg_no w75 (by decide)
        · refine ok_if (fun c76 => ?_) (fun c76 => ?_)
          · have w77 : rg o_5_0 (-1) (-1) := rg_lex (ti_eq c76) (rg_ley (ti_eq2 c76) (show rg (-1 : Int32) (-1) (-1) from ⟨by decide, by decide⟩) g24) (show rg (-1 : Int32) (-1) (-1) from ⟨by decide, by decide⟩)
            unfold f_X5_readPass_b89
            refine ok_ck (inb_rg w12 (by decide) (by decide)) ?_
            refine ok_nm (fun a_2_i89 ea_2_i89 => ?_)
            refine ok_ck (inb_rg w12 (by decide) (by decide)) ?_
            refine ok_nm (fun a_4_i89 ea_4_i89 => ?_)
            refine ok_bd7 (s_X5_number v_r_kind v_r_start v_r_value o_5_1 o_5_2 o_5_3 o_5_4 o_5_5 o_5_6 (1 : Int32) (10 : Int32) (rg_w (rg_ley g26 (rg_ley g17 i11_1 g16) g25) (by decide) (by decide)) g29 g30) (fun o_5_0_i89 o_5_1_i89 o_5_2_i89 o_5_3_i89 o_5_4_i89 o_5_5_i89 o_5_6_i89 p78 => ?_)
            have g79 : rg o_5_1_i89 0 402 := p78.1
            have g80 : nx o_5_1 o_5_1_i89 := p78.2.1
            have g81 : mn o_5_3 o_5_3_i89 := p78.2.2.1
            have g82 : mn o_5_5 o_5_5_i89 := p78.2.2.2.1
            have g83 : sp o_5_2_i89 o_5_3_i89 := p78.2.2.2.2.1
            have g84 : sn v_r_kind o_5_1_i89 := p78.2.2.2.2.2.1
            refine ok_ck (inb_rg w12 (by decide) (by decide)) ?_
            refine ok_nm (fun a_7_i89 ea_7_i89 => ?_)
            refine ok_bd5 (s_X5_accept v_r_kind v_r_start o_5_1_i89 o_5_2_i89 o_5_3_i89 o_5_4_i89 (59 : Int32) (rg_w (rg_ley g80 (rg_ley g26 (rg_ley g17 i11_1 g16) g25) g79) (by decide) (by decide)) g83 g84 (n34_rg (show rg (59 : Int32) 59 59 from ⟨by decide, by decide⟩) (by decide))) (fun o_8_0_i89 o_8_1_i89 o_8_2_i89 o_8_3_i89 o_8_4_i89 p85 => ?_)
            have g86 : rg o_8_0_i89 0 1 := p85.1
            have g88 : rg o_8_1_i89 0 402 := p85.2.2.1
            have g89 : nx o_5_1_i89 o_8_1_i89 := p85.2.2.2.1
            have g90 : mn o_5_3_i89 o_8_3_i89 := p85.2.2.2.2.1
            have g91 : sp o_8_2_i89 o_8_3_i89 := p85.2.2.2.2.2.1
            have g92 : sn v_r_kind o_8_1_i89 := p85.2.2.2.2.2.2.1
            exact ok_some ⟨(rg_w (rg_ley g89 (rg_ley g80 (rg_ley g26 (rg_ley g17 i11_1 g16) g25) g79) g88) (by decide) (by decide)), (rg_w (rg_add (e := 1) (f := 20) w12 (show rg (1 : Int32) 1 1 from ⟨by decide, by decide⟩) (by decide) (by decide) (by decide) (by decide)) (by decide) (by decide)), (nx_tr (nx_tr (nx_tr (nx_tr g5 g17) g26) g80) g89), (mn_tr (mn_tr (mn_tr (mn_tr g6 g18) g27) g81) g90), (mn_tr (mn_tr g19 g28) g82), g91, g92, (ca_up ea_2_i89 (ca_mn u5 (mn_tr (mn_tr (mn_tr (mn_tr g6 g18) g27) g81) g90) (mn_tr (mn_tr g19 g28) g82)) (fun _ _ => rg_w w52 (by decide) (by decide)) w12 (by decide) (by decide)), (ca_up ea_4_i89 (ca_mn u6 (mn_tr (mn_tr (mn_tr (mn_tr g6 g18) g27) g81) g90) (mn_tr (mn_tr g19 g28) g82)) (nfo_rg p23.2.2.2.2.2.2.2.1 (mn_tr g81 g90) g82 (rg_w w77 (by decide) (by decide))) w12 (by decide) (by decide)), trivial⟩
          · have w94 : rg o_5_0 0 11 := rg_nel 0 c76 g24 (show rg (-1 : Int32) (-1) (-1) from ⟨by decide, by decide⟩) (by decide)
            refine ok_bd4 (s_X5_addWay o_5_2 o_5_3 o_5_4 v_g_ways o_4_0 (v_r_start v_r_next.toNatClampNeg) g29 w52) (fun o_3_0_i65 o_3_1_i65 o_3_2_i65 o_3_3_i65 p95 => ?_)
            have g96 : mn o_5_3 o_3_1_i65 := p95.1
            have g97 : sp o_3_0_i65 o_3_1_i65 := p95.2.1
            refine ok_bd4 (s_X5_addWay o_3_0_i65 o_3_1_i65 o_3_2_i65 o_3_3_i65 o_5_0 (v_r_start v_r_next.toNatClampNeg) g97 w94) (fun o_4_0_i65 o_4_1_i65 o_4_2_i65 o_4_3_i65 p98 => ?_)
            have g99 : mn o_3_1_i65 o_4_1_i65 := p98.1
            have g100 : sp o_4_0_i65 o_4_1_i65 := p98.2.1
            unfold f_X5_readPass_b89
            refine ok_ck (inb_rg w12 (by decide) (by decide)) ?_
            refine ok_nm (fun a_2_i89 ea_2_i89 => ?_)
            refine ok_ck (inb_rg w12 (by decide) (by decide)) ?_
            refine ok_nm (fun a_4_i89 ea_4_i89 => ?_)
            refine ok_bd7 (s_X5_number v_r_kind v_r_start v_r_value o_5_1 o_4_0_i65 o_4_1_i65 o_4_2_i65 o_5_5 o_5_6 (1 : Int32) (10 : Int32) (rg_w (rg_ley g26 (rg_ley g17 i11_1 g16) g25) (by decide) (by decide)) g100 g30) (fun o_5_0_i89 o_5_1_i89 o_5_2_i89 o_5_3_i89 o_5_4_i89 o_5_5_i89 o_5_6_i89 p101 => ?_)
            have g102 : rg o_5_1_i89 0 402 := p101.1
            have g103 : nx o_5_1 o_5_1_i89 := p101.2.1
            have g104 : mn o_4_1_i65 o_5_3_i89 := p101.2.2.1
            have g105 : mn o_5_5 o_5_5_i89 := p101.2.2.2.1
            have g106 : sp o_5_2_i89 o_5_3_i89 := p101.2.2.2.2.1
            have g107 : sn v_r_kind o_5_1_i89 := p101.2.2.2.2.2.1
            refine ok_ck (inb_rg w12 (by decide) (by decide)) ?_
            refine ok_nm (fun a_7_i89 ea_7_i89 => ?_)
            refine ok_bd5 (s_X5_accept v_r_kind v_r_start o_5_1_i89 o_5_2_i89 o_5_3_i89 o_5_4_i89 (59 : Int32) (rg_w (rg_ley g103 (rg_ley g26 (rg_ley g17 i11_1 g16) g25) g102) (by decide) (by decide)) g106 g107 (n34_rg (show rg (59 : Int32) 59 59 from ⟨by decide, by decide⟩) (by decide))) (fun o_8_0_i89 o_8_1_i89 o_8_2_i89 o_8_3_i89 o_8_4_i89 p108 => ?_)
            have g109 : rg o_8_0_i89 0 1 := p108.1
            have g111 : rg o_8_1_i89 0 402 := p108.2.2.1
            have g112 : nx o_5_1_i89 o_8_1_i89 := p108.2.2.2.1
            have g113 : mn o_5_3_i89 o_8_3_i89 := p108.2.2.2.2.1
            have g114 : sp o_8_2_i89 o_8_3_i89 := p108.2.2.2.2.2.1
            have g115 : sn v_r_kind o_8_1_i89 := p108.2.2.2.2.2.2.1
            exact ok_some ⟨(rg_w (rg_ley g112 (rg_ley g103 (rg_ley g26 (rg_ley g17 i11_1 g16) g25) g102) g111) (by decide) (by decide)), (rg_w (rg_add (e := 1) (f := 20) w12 (show rg (1 : Int32) 1 1 from ⟨by decide, by decide⟩) (by decide) (by decide) (by decide) (by decide)) (by decide) (by decide)), (nx_tr (nx_tr (nx_tr (nx_tr g5 g17) g26) g103) g112), (mn_tr (mn_tr (mn_tr (mn_tr (mn_tr (mn_tr g6 g18) g27) g96) g99) g104) g113), (mn_tr (mn_tr g19 g28) g105), g114, g115, (ca_up ea_2_i89 (ca_mn u5 (mn_tr (mn_tr (mn_tr (mn_tr (mn_tr (mn_tr g6 g18) g27) g96) g99) g104) g113) (mn_tr (mn_tr g19 g28) g105)) (fun _ _ => rg_w w52 (by decide) (by decide)) w12 (by decide) (by decide)), (ca_up ea_4_i89 (ca_mn u6 (mn_tr (mn_tr (mn_tr (mn_tr (mn_tr (mn_tr g6 g18) g27) g96) g99) g104) g113) (mn_tr (mn_tr g19 g28) g105)) (fun _ _ => rg_w w94 (by decide) (by decide)) w12 (by decide) (by decide)), trivial⟩
