abbrev P_X7_hidden  : Int32 × Int32 × Int32 × Int32 × Int32 × Int32 × Int32 × Int32 × Int64 × Int64 × (Nat → Int32) × (Nat → Int32) × (Nat → Int64) × (Nat → Int32) × (Nat → Int32) × (Nat → Int32) × (Nat → Int32) × (Nat → Int64) × (Nat → Int32) × (Nat → Int32) × (Nat → Int64) × (Nat → Int64) × (Nat → Int32) × (Nat → Int32) → Prop := (fun o : Int32 × Int32 × Int32 × Int32 × Int32 × Int32 × Int32 × Int32 × Int64 × Int64 × (Nat → Int32) × (Nat → Int32) × (Nat → Int64) × (Nat → Int32) × (Nat → Int32) × (Nat → Int32) × (Nat → Int32) × (Nat → Int64) × (Nat → Int32) × (Nat → Int32) × (Nat → Int64) × (Nat → Int64) × (Nat → Int32) × (Nat → Int32) => True)
set_option maxRecDepth 100000 in
set_option maxHeartbeats 2000000 in
theorem s_X7_hidden (v_m_live : Int32) (v_m_changedAt : Int32) (v_m_told : Int32) (v_m_cells : (Nat → Int32)) (v_m_room : (Nat → Int32)) (v_m_water : (Nat → Int32)) (v_m_passes : (Nat → Int32)) (v_m_passOne : (Nat → Int32)) (v_m_passOther : (Nat → Int32)) (v_m_passWide : (Nat → Int32)) (v_m_rivers : (Nat → Int32)) (v_m_riverCell : (Nat → Int32)) (v_m_riverLevel : (Nat → Int32)) (v_m_riverWide : (Nat → Int32)) (v_m_riverSalt : (Nat → Int32)) (v_m_rains : (Nat → Int32)) (v_m_rain : (Nat → Int32)) (v_m_villages : (Nat → Int32)) (v_m_home : (Nat → Int32)) (v_m_need : (Nat → Int32)) (v_m_lawFrom : (Nat → Int32)) (v_m_lawTo : (Nat → Int32)) (v_m_code : (Nat → Int32)) (v_m_codeInt : (Nat → Int32)) (v_m_toldDay : (Nat → Int32)) (v_m_toldCell : (Nat → Int32)) (v_m_toldLevel : (Nat → Int32)) (v_m_isBroken : Int32) (v_m_rowDay : Int32) (v_m_changed : Int32) (v_m_pumpCell : Int32) (v_m_pumpMuch : Int32) (v_m_pumpFrom : Int32) (v_m_pumpTo : Int32) (v_m_takenAll : Int64) (v_m_riversAll : Int64) (v_m_variables : (Nat → Int32)) (v_m_pile : (Nat → Int32)) (v_m_row : (Nat → Int64)) (v_m_wants : (Nat → Int32)) (v_m_isOff : (Nat → Int32)) (v_m_wide : (Nat → Int32)) (v_m_rainNow : (Nat → Int32)) (v_m_taken : (Nat → Int64)) (v_m_isDry : (Nat → Int32)) (v_m_wouldLack : (Nat → Int32)) (v_m_more : (Nat → Int64)) (v_m_moreSalt : (Nat → Int64)) (v_m_isOffTold : (Nat → Int32)) (v_m_best : (Nat → Int32)) (q1 : Int32) (q2 : Int32) (u0 : rg v_m_live 0 1) (u1 : rg v_m_told 0 20) (u2 : al v_m_toldDay 0 199) (u3 : rg (v_m_cells v_m_live.toNatClampNeg) 0 12) (u4 : rg (v_m_passes v_m_live.toNatClampNeg) 0 20) (u5 : rg (v_m_rivers v_m_live.toNatClampNeg) 0 3) (u6 : rg (v_m_villages v_m_live.toNatClampNeg) 0 6) (u7 : rg (v_m_rains v_m_live.toNatClampNeg) 0 14) (u8 : DY v_m_live v_m_cells v_m_room v_m_passes v_m_passOne v_m_passOther v_m_rivers v_m_riverCell v_m_riverLevel v_m_riverWide v_m_rains v_m_villages v_m_home v_m_lawFrom v_m_lawTo v_m_code v_m_codeInt) (u9 : GX v_m_live v_m_passes v_m_passWide v_m_rains v_m_rain) (u10 : WA v_m_live v_m_cells v_m_water) (u11 : NE v_m_live v_m_villages v_m_need) (u12 : GC v_m_live v_m_cells v_m_room) (u13 : TK v_m_live v_m_cells v_m_toldCell v_m_told) : ok (f_X7_hidden v_m_live v_m_changedAt v_m_told v_m_cells v_m_room v_m_water v_m_passes v_m_passOne v_m_passOther v_m_passWide v_m_rivers v_m_riverCell v_m_riverLevel v_m_riverWide v_m_riverSalt v_m_rains v_m_rain v_m_villages v_m_home v_m_need v_m_lawFrom v_m_lawTo v_m_code v_m_codeInt v_m_toldDay v_m_toldCell v_m_toldLevel v_m_isBroken v_m_rowDay v_m_changed v_m_pumpCell v_m_pumpMuch v_m_pumpFrom v_m_pumpTo v_m_takenAll v_m_riversAll v_m_variables v_m_pile v_m_row v_m_wants v_m_isOff v_m_wide v_m_rainNow v_m_taken v_m_isDry v_m_wouldLack v_m_more v_m_moreSalt v_m_isOffTold v_m_best q1 q2) P_X7_hidden := by
  unfold f_X7_hidden
  refine ok_bd (s_X7_in q1 (0 : Int32) v_m_told) (fun o_1 p1 => ?_)
  have g2 : rg o_1 0 1 := p1.1
  refine ok_if (fun c4 => ?_) (fun c4 => ?_)
  · have w5 : rg o_1 0 0 := rg_lex (ti_eq c4) (rg_ley (ti_eq2 c4) (show rg (0 : Int32) 0 0 from ⟨by decide, by decide⟩) g2) (show rg (0 : Int32) 0 0 from ⟨by decide, by decide⟩)
    exact ok_some trivial
  · obtain ⟨i6_0, i6_1⟩ := p1.2.1.resolve_left c4
    have w7 : rg q1 0 2147483647 := rg_ley i6_0 (show rg (0 : Int32) 0 0 from ⟨by decide, by decide⟩) (rg_any q1)
    have w8 : rg q1 0 20 := rg_lex i6_1 w7 u1
    have w9 : rg o_1 1 1 := rg_nel 1 c4 g2 (show rg (0 : Int32) 0 0 from ⟨by decide, by decide⟩) (by decide)
    refine ok_bd (s_X7_in q2 (0 : Int32) (3 : Int32)) (fun o_3 p10 => ?_)
    have g11 : rg o_3 0 1 := p10.1
    refine ok_if (fun c13 => ?_) (fun c13 => ?_)
    · have w14 : rg o_3 0 0 := rg_lex (ti_eq c13) (rg_ley (ti_eq2 c13) (show rg (0 : Int32) 0 0 from ⟨by decide, by decide⟩) g11) (show rg (0 : Int32) 0 0 from ⟨by decide, by decide⟩)
      exact ok_some trivial
    · obtain ⟨i15_0, i15_1⟩ := p10.2.1.resolve_left c13
      have w16 : rg q2 0 2147483647 := rg_ley i15_0 (show rg (0 : Int32) 0 0 from ⟨by decide, by decide⟩) (rg_any q2)
      have w17 : rg q2 0 3 := rg_lex i15_1 w16 (show rg (3 : Int32) 3 3 from ⟨by decide, by decide⟩)
      have w18 : rg o_3 1 1 := rg_nel 1 c13 g11 (show rg (0 : Int32) 0 0 from ⟨by decide, by decide⟩) (by decide)
      refine ok_bd24 (s_X7_seeksPump v_m_live v_m_changedAt v_m_cells v_m_room v_m_water v_m_passes v_m_passOne v_m_passOther v_m_passWide v_m_rivers v_m_riverCell v_m_riverLevel v_m_riverWide v_m_riverSalt v_m_rains v_m_rain v_m_villages v_m_home v_m_need v_m_lawFrom v_m_lawTo v_m_code v_m_codeInt v_m_toldDay v_m_toldCell v_m_toldLevel v_m_isBroken v_m_rowDay v_m_changed v_m_pumpCell v_m_pumpMuch v_m_pumpFrom v_m_pumpTo v_m_takenAll v_m_riversAll v_m_variables v_m_pile v_m_row v_m_wants v_m_isOff v_m_wide v_m_rainNow v_m_taken v_m_isDry v_m_wouldLack v_m_more v_m_moreSalt v_m_isOffTold v_m_best q1 u0 u2 u3 u4 u5 u6 u7 u8 u9 u10 u11 u12 w8 (TK_le u13 i6_1)) (fun o_5_0 o_5_1 o_5_2 o_5_3 o_5_4 o_5_5 o_5_6 o_5_7 o_5_8 o_5_9 o_5_10 o_5_11 o_5_12 o_5_13 o_5_14 o_5_15 o_5_16 o_5_17 o_5_18 o_5_19 o_5_20 o_5_21 o_5_22 o_5_23 p19 => ?_)
      have g20 : rg o_5_0 (-3) 0 := p19.1
      refine ok_if (fun c21 => ?_) (fun c21 => ?_)
      · have w22 : rg o_5_0 0 0 := rg_ley (ti_le c21) (show rg (0 : Int32) 0 0 from ⟨by decide, by decide⟩) g20
        refine ok_ck (inb_rg w17 (by decide) (by decide)) ?_
        exact ok_some trivial
      · have w23 : rg o_5_0 (-3) (-1) := rg_ltx (-1) (ti_nle c21) g20 (show rg (0 : Int32) 0 0 from ⟨by decide, by decide⟩) (by decide)
        exact ok_some trivial

abbrev P_X7_count  : Int32 → Prop := (fun o : Int32 => True)
set_option maxRecDepth 100000 in
set_option maxHeartbeats 2000000 in
theorem s_X7_count_b171  (v_m_live : Int32) (v_m_cells : (Nat → Int32)) (v_m_now : (Nat → Int64)) (u0 : rg (v_m_cells v_m_live.toNatClampNeg) 0 12) (u1 : rg v_m_live 0 1) : ∀ (n : Nat) (x2 : Int64) (x4 : Int32) (u2 : rg x4 0 12)  (hm : (12 - x4.toInt).toNat < n), ok (f_X7_count_b171 v_m_live v_m_cells v_m_now n x2 x4) P_X7_count := by
  intro n
  induction n with
  | zero =>
    intro x2 x4 u2 hm
    exact absurd hm (Nat.not_lt_zero _)
  | succ n ih =>
    intro x2 x4 u2 hm
    show ok (f_X7_count_b171_st (f_X7_count_b171 v_m_live v_m_cells v_m_now n) v_m_live v_m_cells v_m_now x2 x4) P_X7_count
    unfold f_X7_count_b171_st
    refine ok_bd (s_X7_n v_m_live v_m_cells u1) (fun o_1 p1 => ?_)
    subst p1
    refine ok_if (fun c2 => ?_) (fun c2 => ?_)
    · refine ok_bd (s_X7_whole x2) (fun o_3_ p3 => ?_)
      exact ok_some trivial
    · have w4 : rg x4 0 11 := rg_ltx 11 (ti_nle c2) u2 u0 (by decide)
      have w5 : rg (v_m_cells v_m_live.toNatClampNeg) 1 12 := rg_lty 1 (ti_nle c2) u2 u0 (by decide)
      refine ok_ck (inb_rg w4 (by decide) (by decide)) ?_
      exact ih (x2 + (v_m_now x4.toNatClampNeg)) (x4 + (1 : Int32)) (rg_w (rg_add (e := 1) (f := 12) w4 (show rg (1 : Int32) 1 1 from ⟨by decide, by decide⟩) (by decide) (by decide) (by decide) (by decide)) (by decide) (by decide)) (ms_up (y := (x4 + (1 : Int32))) (a := 0) hm (lt_ad w4 (show rg (1 : Int32) 1 1 from ⟨by decide, by decide⟩) (by decide) (by decide) (by decide)) (rg_w (rg_add (e := 1) (f := 12) w4 (show rg (1 : Int32) 1 1 from ⟨by decide, by decide⟩) (by decide) (by decide) (by decide) (by decide)) (by decide) (by decide)))
set_option maxRecDepth 100000 in
set_option maxHeartbeats 2000000 in
theorem s_X7_count_b149  (v_m_isHeld : (Nat → Int32)) (t0 : Int32) (t1 : Int32)  (u0 : rg t0 0 1) (u1 : rg t1 0 1)  : ok (f_X7_count_b149 v_m_isHeld t0 t1) P_X7_count := by
  unfold f_X7_count_b149
  refine ok_ck (inb_rg (show rg (2 : Int32) 2 2 from ⟨by decide, by decide⟩) (by decide) (by decide)) ?_
  refine ok_if (fun c1 => ?_) (fun c1 => ?_)
  · have w2 : rg (v_m_isHeld (2 : Int32).toNatClampNeg) 0 0 := rg_lex (ti_eq c1) (rg_ley (ti_eq2 c1) (show rg (0 : Int32) 0 0 from ⟨by decide, by decide⟩) (rg_any (v_m_isHeld (2 : Int32).toNatClampNeg))) (show rg (0 : Int32) 0 0 from ⟨by decide, by decide⟩)
    exact ok_some trivial
  · exact ok_some trivial
set_option maxRecDepth 100000 in
set_option maxHeartbeats 2000000 in
theorem s_X7_count_b135  (v_m_isHeld : (Nat → Int32)) (t0 : Int32)  (u0 : rg t0 0 1)  : ok (f_X7_count_b135 v_m_isHeld t0) P_X7_count := by
  unfold f_X7_count_b135
  refine ok_ck (inb_rg (show rg (1 : Int32) 1 1 from ⟨by decide, by decide⟩) (by decide) (by decide)) ?_
  refine ok_if (fun c1 => ?_) (fun c1 => ?_)
  · have w2 : rg (v_m_isHeld (1 : Int32).toNatClampNeg) 0 0 := rg_lex (ti_eq c1) (rg_ley (ti_eq2 c1) (show rg (0 : Int32) 0 0 from ⟨by decide, by decide⟩) (rg_any (v_m_isHeld (1 : Int32).toNatClampNeg))) (show rg (0 : Int32) 0 0 from ⟨by decide, by decide⟩)
    exact s_X7_count_b149 v_m_isHeld t0 (0 : Int32) u0 (rg_w (show rg (0 : Int32) 0 0 from ⟨by decide, by decide⟩) (by decide) (by decide))
  · exact s_X7_count_b149 v_m_isHeld t0 (1 : Int32) u0 (rg_w (show rg (1 : Int32) 1 1 from ⟨by decide, by decide⟩) (by decide) (by decide))
set_option maxRecDepth 100000 in
set_option maxHeartbeats 2000000 in
theorem s_X7_count (v_m_taped : Int32) (v_m_live : Int32) (v_m_day : Int32) (v_m_told : Int32) (v_m_cells : (Nat → Int32)) (v_m_passes : (Nat → Int32)) (v_m_rivers : (Nat → Int32)) (v_m_rains : (Nat → Int32)) (v_m_villages : (Nat → Int32)) (v_m_now : (Nat → Int64)) (v_m_isHeld : (Nat → Int32)) (q1 : Int32) (u0 : rg v_m_live 0 1) (u1 : rg v_m_told 0 20) (u2 : rg (v_m_cells v_m_live.toNatClampNeg) 0 12) (u3 : rg (v_m_passes v_m_live.toNatClampNeg) 0 20) (u4 : rg (v_m_rivers v_m_live.toNatClampNeg) 0 3) (u5 : rg (v_m_villages v_m_live.toNatClampNeg) 0 6) (u6 : rg (v_m_rains v_m_live.toNatClampNeg) 0 14) : ok (f_X7_count v_m_taped v_m_live v_m_day v_m_told v_m_cells v_m_passes v_m_rivers v_m_rains v_m_villages v_m_now v_m_isHeld q1) P_X7_count := by
  unfold f_X7_count
  refine ok_if (fun c1 => ?_) (fun c1 => ?_)
  · have w2 : rg q1 0 0 := rg_lex (ti_eq c1) (rg_ley (ti_eq2 c1) (show rg (0 : Int32) 0 0 from ⟨by decide, by decide⟩) (rg_any q1)) (show rg (0 : Int32) 0 0 from ⟨by decide, by decide⟩)
    refine ok_ck (inb_rg u0 (by decide) (by decide)) ?_
    exact ok_some trivial
  · refine ok_if (fun c3 => ?_) (fun c3 => ?_)
    · have w4 : rg q1 1 1 := rg_lex (ti_eq c3) (rg_ley (ti_eq2 c3) (show rg (1 : Int32) 1 1 from ⟨by decide, by decide⟩) (rg_any q1)) (show rg (1 : Int32) 1 1 from ⟨by decide, by decide⟩)
      refine ok_ck (inb_rg u0 (by decide) (by decide)) ?_
      exact ok_some trivial
    · refine ok_if (fun c5 => ?_) (fun c5 => ?_)
      · have w6 : rg q1 2 2 := rg_lex (ti_eq c5) (rg_ley (ti_eq2 c5) (show rg (2 : Int32) 2 2 from ⟨by decide, by decide⟩) (rg_any q1)) (show rg (2 : Int32) 2 2 from ⟨by decide, by decide⟩)
        refine ok_ck (inb_rg u0 (by decide) (by decide)) ?_
        exact ok_some trivial
      · refine ok_if (fun c7 => ?_) (fun c7 => ?_)
        · have w8 : rg q1 3 3 := rg_lex (ti_eq c7) (rg_ley (ti_eq2 c7) (show rg (3 : Int32) 3 3 from ⟨by decide, by decide⟩) (rg_any q1)) (show rg (3 : Int32) 3 3 from ⟨by decide, by decide⟩)
          refine ok_ck (inb_rg u0 (by decide) (by decide)) ?_
          exact ok_some trivial
        · refine ok_if (fun c9 => ?_) (fun c9 => ?_)
          · have w10 : rg q1 4 4 := rg_lex (ti_eq c9) (rg_ley (ti_eq2 c9) (show rg (4 : Int32) 4 4 from ⟨by decide, by decide⟩) (rg_any q1)) (show rg (4 : Int32) 4 4 from ⟨by decide, by decide⟩)
            exact ok_some trivial
          · refine ok_if (fun c11 => ?_) (fun c11 => ?_)
            · have w12 : rg q1 5 5 := rg_lex (ti_eq c11) (rg_ley (ti_eq2 c11) (show rg (5 : Int32) 5 5 from ⟨by decide, by decide⟩) (rg_any q1)) (show rg (5 : Int32) 5 5 from ⟨by decide, by decide⟩)
              refine ok_ck (inb_rg u0 (by decide) (by decide)) ?_
              exact ok_some trivial
            · refine ok_if (fun c13 => ?_) (fun c13 => ?_)
              · have w14 : rg q1 6 6 := rg_lex (ti_eq c13) (rg_ley (ti_eq2 c13) (show rg (6 : Int32) 6 6 from ⟨by decide, by decide⟩) (rg_any q1)) (show rg (6 : Int32) 6 6 from ⟨by decide, by decide⟩)
                exact ok_some trivial
              · refine ok_if (fun c15 => ?_) (fun c15 => ?_)
                · have w16 : rg q1 7 7 := rg_lex (ti_eq c15) (rg_ley (ti_eq2 c15) (show rg (7 : Int32) 7 7 from ⟨by decide, by decide⟩) (rg_any q1)) (show rg (7 : Int32) 7 7 from ⟨by decide, by decide⟩)
                  exact ok_some trivial
                · refine ok_if (fun c17 => ?_) (fun c17 => ?_)
                  · have w18 : rg q1 8 8 := rg_lex (ti_eq c17) (rg_ley (ti_eq2 c17) (show rg (8 : Int32) 8 8 from ⟨by decide, by decide⟩) (rg_any q1)) (show rg (8 : Int32) 8 8 from ⟨by decide, by decide⟩)
                    refine ok_ck (inb_rg (show rg (0 : Int32) 0 0 from ⟨by decide, by decide⟩) (by decide) (by decide)) ?_
                    refine ok_if (fun c19 => ?_) (fun c19 => ?_)
                    · have w20 : rg (v_m_isHeld (0 : Int32).toNatClampNeg) 0 0 := rg_lex (ti_eq c19) (rg_ley (ti_eq2 c19) (show rg (0 : Int32) 0 0 from ⟨by decide, by decide⟩) (rg_any (v_m_isHeld (0 : Int32).toNatClampNeg))) (show rg (0 : Int32) 0 0 from ⟨by decide, by decide⟩)
                      exact s_X7_count_b135 v_m_isHeld (0 : Int32) (rg_w (show rg (0 : Int32) 0 0 from ⟨by decide, by decide⟩) (by decide) (by decide))
                    · exact s_X7_count_b135 v_m_isHeld (1 : Int32) (rg_w (show rg (1 : Int32) 1 1 from ⟨by decide, by decide⟩) (by decide) (by decide))
                  · refine ok_if (fun c21 => ?_) (fun c21 => ?_)
                    · have w22 : rg q1 9 9 := rg_lex (ti_eq c21) (rg_ley (ti_eq2 c21) (show rg (9 : Int32) 9 9 from ⟨by decide, by decide⟩) (rg_any q1)) (show rg (9 : Int32) 9 9 from ⟨by decide, by decide⟩)
                      exact s_X7_count_b171 v_m_live v_m_cells v_m_now u2 u0 _ (0 : Int64) (0 : Int32) (rg_w (show rg (0 : Int32) 0 0 from ⟨by decide, by decide⟩) (by decide) (by decide)) (fu_up (a := 0) (h := 12) (rg_w (show rg (0 : Int32) 0 0 from ⟨by decide, by decide⟩) (by decide) (by decide)) (by decide))
                    · exact ok_some trivial
