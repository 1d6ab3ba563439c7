section
variable {p : Program} {l : Launch} {e : Env} {s : State} {m : MethodId} {below : List Frame} {meth : Method} {c : Code} {b L : Nat} {xs : Nat → Int32} {dC : Nat → ClassId} {dI : Nat → Nat → Nat} {cyI cyJ cyZ cyB cyO : ClassId} {tO : Nat} {vF : Value} {adK adV : Nat → Nat}
theorem p2_exit (hx : p.tables.exec = Jvm.exec) (hb : c.code = cL_law) (hr : meth.sig.returnType = ret) (hlocks : meth.locks = false) {H : Heap} {locs : List Loc} {ls : Array Slot} {kc ns : Nat} (hk : kc ≤ 600000) (hn : ns ≤ 7302250) (hS : va_S (fun q : Nat => s.heap.size ≤ q) s.heap H locs) : W p l e room_1 s m #[Value.ref b] below meth c H locs kc ns (lw_Z below #[Value.ref b] s) (F0 m 1352 ls []) := by
  refine lv_iconst (v := (1 : Int32)) hx hb dL_law_1352 (by decide) ?_
  refine va_forget (fun q hq => hS.2.2 q hq) ?_
  refine W.widen (k := 600000) (n := 7302250) hk hn ?_
  exact lw_ret hx hb hr hlocks dL_law_1353
set_option maxRecDepth 100000 in
set_option maxHeartbeats 8000000 in
theorem p2_loop (hx : p.tables.exec = Jvm.exec) (hb : c.code = cL_law) (hml : c.maxLocals = 4) (hown : s.vm.findClass RL = some m.cls) (hts : ∀ w ∈ (Cond.classLink RL 7 RX6 :: wsL_law), w.before #[Value.ref b] s = true) (hX : va_X b L xs s s.heap) (hbl : b < s.heap.size) (hK : va_K (dC, dI) vwCl (tyG cyI cyJ cyZ cyB cyO) s) (hE : xE tO vF adK adV (fun q : Nat => s.heap.size ≤ q) s s.heap) (hr : meth.sig.returnType = ret) (hlocks : meth.locks = false) (hL : L ≤ 3072) : ∀ n, Loop p l e s m below meth c b L dC dI cyI cyJ cyZ cyB cyO n := by
  have hbA : ¬ (fun q : Nat => s.heap.size ≤ q) b := Nat.not_le.mpr hbl
  have tL : (Int32.ofNat L).toInt = L := by rw [Int32.toInt_ofNat_of_lt (by omega)]
  have t6 : (Int32.ofNat L - 6).toInt = L - 6 := by rw [sub_k (k := 6) rfl (by omega) (by omega), tL]
  intro n
  induction n with
  | zero =>
    intro i D kc ns h_w m_w h_r m_r h_rg m_rg h_g m_g h_p m_p h_c m_c h_n m_n h_d m_d h_e m_e h_ep m_ep h_ed m_ed h_ec m_ec h_s0 m_s0 h_s1 m_s1 h_s2 m_s2 h_m m_m v_w_length v_w_faultPlace v_w_tape v_w_held v_r_next v_r_codeLength v_r_ownCell v_r_stopped v_r_fault v_r_faultPlace v_r_laterFault v_r_laterPlace v_r_kind v_r_start v_r_value v_r_cellName v_r_villageName v_rg_cells v_rg_passes v_rg_rivers v_rg_villages v_rg_rains v_rg_room v_rg_water v_rg_ways v_rg_passFrom v_rg_passTo v_rg_passWidth v_rg_riverCell v_rg_riverLevel v_rg_riverWidth v_rg_riverSalt v_rg_villageCell v_rg_need v_rg_lawEnd v_rg_code v_rg_rain v_g_cells v_g_passes v_g_rivers v_g_villages v_g_rains v_g_room v_g_water v_g_ways v_g_passFrom v_g_passTo v_g_passWidth v_g_riverCell v_g_riverLevel v_g_riverWidth v_g_riverSalt v_g_villageCell v_g_need v_g_lawEnd v_g_code v_g_rain v_p_pumpCell v_p_pumpTakes v_p_pumpFrom v_p_pumpTo v_p_wanting v_p_passWidth v_p_riverWidth v_p_rain v_c_pumped v_c_today v_c_lacked v_c_level v_c_water v_c_salt v_c_stack v_n_day v_n_water v_n_salt v_n_seen v_n_took v_n_dryDays v_n_firstDry v_n_total v_d_day v_d_water v_d_salt v_d_seen v_d_took v_d_dryDays v_d_firstDry v_d_total v_s0_day v_s0_water v_s0_salt v_s0_seen v_s0_took v_s0_dryDays v_s0_firstDry v_s0_total v_s1_day v_s1_water v_s1_salt v_s1_seen v_s1_took v_s1_dryDays v_s1_firstDry v_s1_total v_s2_day v_s2_water v_s2_salt v_s2_seen v_s2_took v_s2_dryDays v_s2_firstDry v_s2_total v_e_told v_e_fitting v_e_firstPair v_e_pairLevels v_e_begins v_e_toldDay v_e_toldCell v_e_toldLevel v_e_pumps v_ep_pumpCell v_ep_pumpTakes v_ep_pumpFrom v_ep_pumpTo v_ep_wanting v_ep_passWidth v_ep_riverWidth v_ep_rain v_ec_pumped v_ec_today v_ec_lacked v_ec_level v_ec_water v_ec_salt v_ec_stack v_ed_day v_ed_water v_ed_salt v_ed_seen v_ed_took v_ed_dryDays v_ed_firstDry v_ed_total v_m_thrown v_m_taped v_m_size v_m_tokens v_m_t v_m_open v_m_fault v_m_faultPlace v_m_worst v_m_worstPlace v_m_place v_m_live v_m_side v_m_names v_m_codes v_m_waiting v_m_isBroken v_m_day v_m_rowDay v_m_changed v_m_changedAt v_m_pumpCell v_m_pumpMuch v_m_pumpFrom v_m_pumpTo v_m_takenAll v_m_riversAll v_m_told v_m_tape v_m_text v_m_tKind v_m_tPlace v_m_tValue v_m_tName v_m_keys v_m_nameOf v_m_nameAt v_m_cells v_m_room v_m_water v_m_ways v_m_passes v_m_passOne v_m_passOther v_m_passWide v_m_rivers v_m_riverCell v_m_riverLevel v_m_riverWide v_m_riverSalt v_m_rains v_m_rain v_m_villages v_m_home v_m_need v_m_lawFrom v_m_lawTo v_m_code v_m_codeInt v_m_waits v_m_variables v_m_pile v_m_now v_m_held v_m_heldDay v_m_isHeld v_m_row v_m_wants v_m_isOff v_m_wide v_m_rainNow v_m_taken v_m_isDry v_m_wouldLack v_m_more v_m_moreSalt v_m_part v_m_toldDay v_m_toldCell v_m_toldLevel v_m_isOffTold v_m_levels v_m_best ex H locs ls hi0 hi2 hn hD0 hD1 hk1 hn1 hP hD hS hl hj6 hj7 hmd heq
    refine lv_iload_n hx hb dL_law_18 rfl (lv_at hl 0 rfl) ?_
    refine lv_aload_n hx hb dL_law_19 rfl (lv_at hl 3 rfl) ?_
    refine va_slen hx hb hX hbl hbA hS dL_law_20 ?_
    refine lv_bipush (v := (6 : Int32)) hx hb dL_law_21 (by decide) ?_
    refine lv_isub hx hb dL_law_23 ?_
    refine lv_icmp_gt (tgt := 1352) hx hb dL_law_24 (by decide) (fun _ => p2_exit hx hb hr hlocks (by omega) (by omega) hS) (fun c_ => ?_)
    have c2 := ti_nlt c_
    omega
  | succ n kk =>
    intro i D kc ns h_w m_w h_r m_r h_rg m_rg h_g m_g h_p m_p h_c m_c h_n m_n h_d m_d h_e m_e h_ep m_ep h_ed m_ed h_ec m_ec h_s0 m_s0 h_s1 m_s1 h_s2 m_s2 h_m m_m v_w_length v_w_faultPlace v_w_tape v_w_held v_r_next v_r_codeLength v_r_ownCell v_r_stopped v_r_fault v_r_faultPlace v_r_laterFault v_r_laterPlace v_r_kind v_r_start v_r_value v_r_cellName v_r_villageName v_rg_cells v_rg_passes v_rg_rivers v_rg_villages v_rg_rains v_rg_room v_rg_water v_rg_ways v_rg_passFrom v_rg_passTo v_rg_passWidth v_rg_riverCell v_rg_riverLevel v_rg_riverWidth v_rg_riverSalt v_rg_villageCell v_rg_need v_rg_lawEnd v_rg_code v_rg_rain v_g_cells v_g_passes v_g_rivers v_g_villages v_g_rains v_g_room v_g_water v_g_ways v_g_passFrom v_g_passTo v_g_passWidth v_g_riverCell v_g_riverLevel v_g_riverWidth v_g_riverSalt v_g_villageCell v_g_need v_g_lawEnd v_g_code v_g_rain v_p_pumpCell v_p_pumpTakes v_p_pumpFrom v_p_pumpTo v_p_wanting v_p_passWidth v_p_riverWidth v_p_rain v_c_pumped v_c_today v_c_lacked v_c_level v_c_water v_c_salt v_c_stack v_n_day v_n_water v_n_salt v_n_seen v_n_took v_n_dryDays v_n_firstDry v_n_total v_d_day v_d_water v_d_salt v_d_seen v_d_took v_d_dryDays v_d_firstDry v_d_total v_s0_day v_s0_water v_s0_salt v_s0_seen v_s0_took v_s0_dryDays v_s0_firstDry v_s0_total v_s1_day v_s1_water v_s1_salt v_s1_seen v_s1_took v_s1_dryDays v_s1_firstDry v_s1_total v_s2_day v_s2_water v_s2_salt v_s2_seen v_s2_took v_s2_dryDays v_s2_firstDry v_s2_total v_e_told v_e_fitting v_e_firstPair v_e_pairLevels v_e_begins v_e_toldDay v_e_toldCell v_e_toldLevel v_e_pumps v_ep_pumpCell v_ep_pumpTakes v_ep_pumpFrom v_ep_pumpTo v_ep_wanting v_ep_passWidth v_ep_riverWidth v_ep_rain v_ec_pumped v_ec_today v_ec_lacked v_ec_level v_ec_water v_ec_salt v_ec_stack v_ed_day v_ed_water v_ed_salt v_ed_seen v_ed_took v_ed_dryDays v_ed_firstDry v_ed_total v_m_thrown v_m_taped v_m_size v_m_tokens v_m_t v_m_open v_m_fault v_m_faultPlace v_m_worst v_m_worstPlace v_m_place v_m_live v_m_side v_m_names v_m_codes v_m_waiting v_m_isBroken v_m_day v_m_rowDay v_m_changed v_m_changedAt v_m_pumpCell v_m_pumpMuch v_m_pumpFrom v_m_pumpTo v_m_takenAll v_m_riversAll v_m_told v_m_tape v_m_text v_m_tKind v_m_tPlace v_m_tValue v_m_tName v_m_keys v_m_nameOf v_m_nameAt v_m_cells v_m_room v_m_water v_m_ways v_m_passes v_m_passOne v_m_passOther v_m_passWide v_m_rivers v_m_riverCell v_m_riverLevel v_m_riverWide v_m_riverSalt v_m_rains v_m_rain v_m_villages v_m_home v_m_need v_m_lawFrom v_m_lawTo v_m_code v_m_codeInt v_m_waits v_m_variables v_m_pile v_m_now v_m_held v_m_heldDay v_m_isHeld v_m_row v_m_wants v_m_isOff v_m_wide v_m_rainNow v_m_taken v_m_isDry v_m_wouldLack v_m_more v_m_moreSalt v_m_part v_m_toldDay v_m_toldCell v_m_toldLevel v_m_isOffTold v_m_levels v_m_best ex H locs ls hi0 hi2 hn hD0 hD1 hk1 hn1 hP hD hS hl hj6 hj7 hmd heq
    refine lv_iload_n hx hb dL_law_18 rfl (lv_at hl 0 rfl) ?_
    refine lv_aload_n hx hb dL_law_19 rfl (lv_at hl 3 rfl) ?_
    refine va_slen hx hb hX hbl hbA hS dL_law_20 ?_
    refine lv_bipush (v := (6 : Int32)) hx hb dL_law_21 (by decide) ?_
    refine lv_isub hx hb dL_law_23 ?_
    refine lv_icmp_gt (tgt := 1352) hx hb dL_law_24 (by decide) (fun _ => p2_exit hx hb hr hlocks (by omega) (by omega) hS) (fun c_ => ?_)
    have c2 := ti_nlt c_
    have hi1 : i.toInt + 6 ≤ L := by omega
    have hn' : (L : Int) < i.toInt + 6 * (n : Int) + 12 := by omega
    have hD1' : D + 400 * ((n : Int) + 1) ≤ 900000 := by omega
    refine lv_aload_n hx hb dL_law_27 rfl (lv_at hl 3 rfl) ?_
    refine lv_iload_n hx hb dL_law_28 rfl (lv_at hl 0 rfl) ?_
    refine va_sld (i := i) hx hb hX hbl hbA hS (inb_in (inb_k hi0 (by omega))) dL_law_29 ?_
    refine lv_bipush (v := (63 : Int32)) hx hb dL_law_30 (by decide) ?_
    refine lv_iand hx hb dL_law_32 ?_
    generalize (xs i.toNatClampNeg) &&& (63 : Int32) = y
    by_cases c0 : y = (0 : Int32)
    · have t : y.toInt = 0 := by rw [c0]; rfl
      refine lv_tableIn (off := 159) (tgt := 192) hx hb dL_law_33 (by omega) (by omega) (by rw [t]; rfl) (by decide) ?_
      exact p2_c0 hx hb hml hown hts hX hbl hK hE kk hi0 hi1 hL hn' hD0 hD1' hk1 hn1 hP hD hS hl hj6 hj7 hmd heq
    by_cases c1 : y = (1 : Int32)
    · have t : y.toInt = 1 := by rw [c1]; rfl
      refine lv_tableIn (off := 222) (tgt := 255) hx hb dL_law_33 (by omega) (by omega) (by rw [t]; rfl) (by decide) ?_
      exact p2_c1 hx hb hml hown hts hX hbl hK hE kk hi0 hi1 hL hn' hD0 hD1' hk1 hn1 hP hD hS hl hj6 hj7 hmd heq
    by_cases c2 : y = (2 : Int32)
    · have t : y.toInt = 2 := by rw [c2]; rfl
      refine lv_tableIn (off := 245) (tgt := 278) hx hb dL_law_33 (by omega) (by omega) (by rw [t]; rfl) (by decide) ?_
      exact p2_c2 hx hb hml hown hts hX hbl hK hE kk hi0 hi1 hL hn' hD0 hD1' hk1 hn1 hP hD hS hl hj6 hj7 hmd heq
    by_cases c3 : y = (3 : Int32)
    · have t : y.toInt = 3 := by rw [c3]; rfl
      refine lv_tableIn (off := 258) (tgt := 291) hx hb dL_law_33 (by omega) (by omega) (by rw [t]; rfl) (by decide) ?_
      exact p2_c3 hx hb hml hown hts hX hbl hK hE kk hi0 hi1 hL hn' hD0 hD1' hk1 hn1 hP hD hS hl hj6 hj7 hmd heq
    by_cases c4 : y = (4 : Int32)
    · have t : y.toInt = 4 := by rw [c4]; rfl
      refine lv_tableIn (off := 271) (tgt := 304) hx hb dL_law_33 (by omega) (by omega) (by rw [t]; rfl) (by decide) ?_
      exact p2_c4 hx hb hml hown hts hX hbl hK hE kk hi0 hi1 hL hn' hD0 hD1' hk1 hn1 hP hD hS hl hj6 hj7 hmd heq
    by_cases c5 : y = (5 : Int32)
    · have t : y.toInt = 5 := by rw [c5]; rfl
      refine lv_tableIn (off := 304) (tgt := 337) hx hb dL_law_33 (by omega) (by omega) (by rw [t]; rfl) (by decide) ?_
      exact p2_c5 hx hb hml hown hts hX hbl hK hE kk hi0 hi1 hL hn' hD0 hD1' hk1 hn1 hP hD hS hl hj6 hj7 hmd heq
    by_cases c6 : y = (6 : Int32)
    · have t : y.toInt = 6 := by rw [c6]; rfl
      refine lv_tableIn (off := 337) (tgt := 370) hx hb dL_law_33 (by omega) (by omega) (by rw [t]; rfl) (by decide) ?_
      exact p2_c6 hx hb hml hown hts hX hbl hK hE kk hi0 hi1 hL hn' hD0 hD1' hk1 hn1 hP hD hS hl hj6 hj7 hmd heq
    by_cases c7 : y = (7 : Int32)
    · have t : y.toInt = 7 := by rw [c7]; rfl
      refine lv_tableIn (off := 360) (tgt := 393) hx hb dL_law_33 (by omega) (by omega) (by rw [t]; rfl) (by decide) ?_
      exact p2_c7 hx hb hml hown hts hX hbl hK hE kk hi0 hi1 hL hn' hD0 hD1' hk1 hn1 hP hD hS hl hj6 hj7 hmd heq
    by_cases c8 : y = (8 : Int32)
    · have t : y.toInt = 8 := by rw [c8]; rfl
      refine lv_tableIn (off := 383) (tgt := 416) hx hb dL_law_33 (by omega) (by omega) (by rw [t]; rfl) (by decide) ?_
      exact p2_c8 hx hb hml hown hts hX hbl hK hE kk hi0 hi1 hL hn' hD0 hD1' hk1 hn1 hP hD hS hl hj6 hj7 hmd heq
    by_cases c9 : y = (9 : Int32)
    · have t : y.toInt = 9 := by rw [c9]; rfl
      refine lv_tableIn (off := 432) (tgt := 465) hx hb dL_law_33 (by omega) (by omega) (by rw [t]; rfl) (by decide) ?_
      exact p2_c9 hx hb hml hown hts hX hbl hK hE kk hi0 hi1 hL hn' hD0 hD1' hk1 hn1 hP hD hS hl hj6 hj7 hmd heq
    by_cases c10 : y = (10 : Int32)
    · have t : y.toInt = 10 := by rw [c10]; rfl
      refine lv_tableIn (off := 465) (tgt := 498) hx hb dL_law_33 (by omega) (by omega) (by rw [t]; rfl) (by decide) ?_
      exact p2_c10 hx hb hml hown hts hX hbl hK hE kk hi0 hi1 hL hn' hD0 hD1' hk1 hn1 hP hD hS hl hj6 hj7 hmd heq
    by_cases c11 : y = (11 : Int32)
    · have t : y.toInt = 11 := by rw [c11]; rfl
      refine lv_tableIn (off := 498) (tgt := 531) hx hb dL_law_33 (by omega) (by omega) (by rw [t]; rfl) (by decide) ?_
      exact p2_c11 hx hb hml hown hts hX hbl hK hE kk hi0 hi1 hL hn' hD0 hD1' hk1 hn1 hP hD hS hl hj6 hj7 hmd heq
    by_cases c12 : y = (12 : Int32)
    · have t : y.toInt = 12 := by rw [c12]; rfl
      refine lv_tableIn (off := 531) (tgt := 564) hx hb dL_law_33 (by omega) (by omega) (by rw [t]; rfl) (by decide) ?_
      exact p2_c12 hx hb hml hown hts hX hbl hK hE kk hi0 hi1 hL hn' hD0 hD1' hk1 hn1 hP hD hS hl hj6 hj7 hmd heq
    by_cases c13 : y = (13 : Int32)
    · have t : y.toInt = 13 := by rw [c13]; rfl
      refine lv_tableIn (off := 574) (tgt := 607) hx hb dL_law_33 (by omega) (by omega) (by rw [t]; rfl) (by decide) ?_
      exact p2_c13 hx hb hml hown hts hX hbl hK hE kk hi0 hi1 hL hn' hD0 hD1' hk1 hn1 hP hD hS hl hj6 hj7 hmd heq
    by_cases c14 : y = (14 : Int32)
    · have t : y.toInt = 14 := by rw [c14]; rfl
      refine lv_tableIn (off := 627) (tgt := 660) hx hb dL_law_33 (by omega) (by omega) (by rw [t]; rfl) (by decide) ?_
      exact p2_c14 hx hb hml hown hts hX hbl hK hE kk hi0 hi1 hL hn' hD0 hD1' hk1 hn1 hP hD hS hl hj6 hj7 hmd heq
    by_cases c15 : y = (15 : Int32)
    · have t : y.toInt = 15 := by rw [c15]; rfl
      refine lv_tableIn (off := 680) (tgt := 713) hx hb dL_law_33 (by omega) (by omega) (by rw [t]; rfl) (by decide) ?_
      exact p2_c15 hx hb hml hown hts hX hbl hK hE kk hi0 hi1 hL hn' hD0 hD1' hk1 hn1 hP hD hS hl hj6 hj7 hmd heq
    by_cases c16 : y = (16 : Int32)
    · have t : y.toInt = 16 := by rw [c16]; rfl
      refine lv_tableIn (off := 703) (tgt := 736) hx hb dL_law_33 (by omega) (by omega) (by rw [t]; rfl) (by decide) ?_
      exact p2_c16 hx hb hml hown hts hX hbl hK hE kk hi0 hi1 hL hn' hD0 hD1' hk1 hn1 hP hD hS hl hj6 hj7 hmd heq
    by_cases c17 : y = (17 : Int32)
    · have t : y.toInt = 17 := by rw [c17]; rfl
      refine lv_tableIn (off := 736) (tgt := 769) hx hb dL_law_33 (by omega) (by omega) (by rw [t]; rfl) (by decide) ?_
      exact p2_c17 hx hb hml hown hts hX hbl hK hE kk hi0 hi1 hL hn' hD0 hD1' hk1 hn1 hP hD hS hl hj6 hj7 hmd heq
    by_cases c18 : y = (18 : Int32)
    · have t : y.toInt = 18 := by rw [c18]; rfl
      refine lv_tableIn (off := 759) (tgt := 792) hx hb dL_law_33 (by omega) (by omega) (by rw [t]; rfl) (by decide) ?_
      exact p2_c18 hx hb hml hown hts hX hbl hK hE kk hi0 hi1 hL hn' hD0 hD1' hk1 hn1 hP hD hS hl hj6 hj7 hmd heq
    by_cases c19 : y = (19 : Int32)
    · have t : y.toInt = 19 := by rw [c19]; rfl
      refine lv_tableIn (off := 782) (tgt := 815) hx hb dL_law_33 (by omega) (by omega) (by rw [t]; rfl) (by decide) ?_
      exact p2_c19 hx hb hml hown hts hX hbl hK hE kk hi0 hi1 hL hn' hD0 hD1' hk1 hn1 hP hD hS hl hj6 hj7 hmd heq
    by_cases c20 : y = (20 : Int32)
    · have t : y.toInt = 20 := by rw [c20]; rfl
      refine lv_tableIn (off := 815) (tgt := 848) hx hb dL_law_33 (by omega) (by omega) (by rw [t]; rfl) (by decide) ?_
      exact p2_c20 hx hb hml hown hts hX hbl hK hE kk hi0 hi1 hL hn' hD0 hD1' hk1 hn1 hP hD hS hl hj6 hj7 hmd heq
    by_cases c21 : y = (21 : Int32)
    · have t : y.toInt = 21 := by rw [c21]; rfl
      refine lv_tableIn (off := 848) (tgt := 881) hx hb dL_law_33 (by omega) (by omega) (by rw [t]; rfl) (by decide) ?_
      exact p2_c21 hx hb hml hown hts hX hbl hK hE kk hi0 hi1 hL hn' hD0 hD1' hk1 hn1 hP hD hS hl hj6 hj7 hmd heq
    by_cases c22 : y = (22 : Int32)
    · have t : y.toInt = 22 := by rw [c22]; rfl
      refine lv_tableIn (off := 861) (tgt := 894) hx hb dL_law_33 (by omega) (by omega) (by rw [t]; rfl) (by decide) ?_
      exact p2_c22 hx hb hml hown hts hX hbl hK hE kk hi0 hi1 hL hn' hD0 hD1' hk1 hn1 hP hD hS hl hj6 hj7 hmd heq
    by_cases c23 : y = (23 : Int32)
    · have t : y.toInt = 23 := by rw [c23]; rfl
      refine lv_tableIn (off := 874) (tgt := 907) hx hb dL_law_33 (by omega) (by omega) (by rw [t]; rfl) (by decide) ?_
      exact p2_c23 hx hb hml hown hts hX hbl hK hE kk hi0 hi1 hL hn' hD0 hD1' hk1 hn1 hP hD hS hl hj6 hj7 hmd heq
    by_cases c24 : y = (24 : Int32)
    · have t : y.toInt = 24 := by rw [c24]; rfl
      refine lv_tableIn (off := 917) (tgt := 950) hx hb dL_law_33 (by omega) (by omega) (by rw [t]; rfl) (by decide) ?_
      exact p2_c24 hx hb hml hown hts hX hbl hK hE kk hi0 hi1 hL hn' hD0 hD1' hk1 hn1 hP hD hS hl hj6 hj7 hmd heq
    by_cases c25 : y = (25 : Int32)
    · have t : y.toInt = 25 := by rw [c25]; rfl
      refine lv_tableIn (off := 960) (tgt := 993) hx hb dL_law_33 (by omega) (by omega) (by rw [t]; rfl) (by decide) ?_
      exact p2_c25 hx hb hml hown hts hX hbl hK hE kk hi0 hi1 hL hn' hD0 hD1' hk1 hn1 hP hD hS hl hj6 hj7 hmd heq
    by_cases c26 : y = (26 : Int32)
    · have t : y.toInt = 26 := by rw [c26]; rfl
      refine lv_tableIn (off := 1003) (tgt := 1036) hx hb dL_law_33 (by omega) (by omega) (by rw [t]; rfl) (by decide) ?_
      exact p2_c26 hx hb hml hown hts hX hbl hK hE kk hi0 hi1 hL hn' hD0 hD1' hk1 hn1 hP hD hS hl hj6 hj7 hmd heq
    by_cases c27 : y = (27 : Int32)
    · have t : y.toInt = 27 := by rw [c27]; rfl
      refine lv_tableIn (off := 1016) (tgt := 1049) hx hb dL_law_33 (by omega) (by omega) (by rw [t]; rfl) (by decide) ?_
      exact p2_c27 hx hb hml hown hts hX hbl hK hE kk hi0 hi1 hL hn' hD0 hD1' hk1 hn1 hP hD hS hl hj6 hj7 hmd heq
    by_cases c28 : y = (28 : Int32)
    · have t : y.toInt = 28 := by rw [c28]; rfl
      refine lv_tableIn (off := 1039) (tgt := 1072) hx hb dL_law_33 (by omega) (by omega) (by rw [t]; rfl) (by decide) ?_
      exact p2_c28 hx hb hml hown hts hX hbl hK hE kk hi0 hi1 hL hn' hD0 hD1' hk1 hn1 hP hD hS hl hj6 hj7 hmd heq
    by_cases c29 : y = (29 : Int32)
    · have t : y.toInt = 29 := by rw [c29]; rfl
      refine lv_tableIn (off := 1072) (tgt := 1105) hx hb dL_law_33 (by omega) (by omega) (by rw [t]; rfl) (by decide) ?_
      exact p2_c29 hx hb hml hown hts hX hbl hK hE kk hi0 hi1 hL hn' hD0 hD1' hk1 hn1 hP hD hS hl hj6 hj7 hmd heq
    by_cases c30 : y = (30 : Int32)
    · have t : y.toInt = 30 := by rw [c30]; rfl
      refine lv_tableIn (off := 1105) (tgt := 1138) hx hb dL_law_33 (by omega) (by omega) (by rw [t]; rfl) (by decide) ?_
      exact p2_c30 hx hb hml hown hts hX hbl hK hE kk hi0 hi1 hL hn' hD0 hD1' hk1 hn1 hP hD hS hl hj6 hj7 hmd heq
    by_cases c31 : y = (31 : Int32)
    · have t : y.toInt = 31 := by rw [c31]; rfl
      refine lv_tableIn (off := 1158) (tgt := 1191) hx hb dL_law_33 (by omega) (by omega) (by rw [t]; rfl) (by decide) ?_
      exact p2_c31 hx hb hml hown hts hX hbl hK hE kk hi0 hi1 hL hn' hD0 hD1' hk1 hn1 hP hD hS hl hj6 hj7 hmd heq
    by_cases c32 : y = (32 : Int32)
    · have t : y.toInt = 32 := by rw [c32]; rfl
      refine lv_tableIn (off := 1211) (tgt := 1244) hx hb dL_law_33 (by omega) (by omega) (by rw [t]; rfl) (by decide) ?_
      exact p2_c32 hx hb hml hown hts hX hbl hK hE kk hi0 hi1 hL hn' hD0 hD1' hk1 hn1 hP hD hS hl hj6 hj7 hmd heq
    by_cases c33 : y = (33 : Int32)
    · have t : y.toInt = 33 := by rw [c33]; rfl
      refine lv_tableIn (off := 1244) (tgt := 1277) hx hb dL_law_33 (by omega) (by omega) (by rw [t]; rfl) (by decide) ?_
      exact p2_c33 hx hb hml hown hts hX hbl hK hE kk hi0 hi1 hL hn' hD0 hD1' hk1 hn1 hP hD hS hl hj6 hj7 hmd heq
    by_cases c34 : y = (34 : Int32)
    · have t : y.toInt = 34 := by rw [c34]; rfl
      refine lv_tableIn (off := 1267) (tgt := 1300) hx hb dL_law_33 (by omega) (by omega) (by rw [t]; rfl) (by decide) ?_
      exact p2_c34 hx hb hml hown hts hX hbl hK hE kk hi0 hi1 hL hn' hD0 hD1' hk1 hn1 hP hD hS hl hj6 hj7 hmd heq
    by_cases c35 : y = (35 : Int32)
    · have t : y.toInt = 35 := by rw [c35]; rfl
      refine lv_tableIn (off := 1290) (tgt := 1323) hx hb dL_law_33 (by omega) (by omega) (by rw [t]; rfl) (by decide) ?_
      exact p2_c35 hx hb hml hown hts hX hbl hK hE kk hi0 hi1 hL hn' hD0 hD1' hk1 hn1 hP hD hS hl hj6 hj7 hmd heq
    have n0 : ¬ y.toInt = 0 := lv_neT c0 rfl
    have n1 : ¬ y.toInt = 1 := lv_neT c1 rfl
    have n2 : ¬ y.toInt = 2 := lv_neT c2 rfl
    have n3 : ¬ y.toInt = 3 := lv_neT c3 rfl
    have n4 : ¬ y.toInt = 4 := lv_neT c4 rfl
    have n5 : ¬ y.toInt = 5 := lv_neT c5 rfl
    have n6 : ¬ y.toInt = 6 := lv_neT c6 rfl
    have n7 : ¬ y.toInt = 7 := lv_neT c7 rfl
    have n8 : ¬ y.toInt = 8 := lv_neT c8 rfl
    have n9 : ¬ y.toInt = 9 := lv_neT c9 rfl
    have n10 : ¬ y.toInt = 10 := lv_neT c10 rfl
    have n11 : ¬ y.toInt = 11 := lv_neT c11 rfl
    have n12 : ¬ y.toInt = 12 := lv_neT c12 rfl
    have n13 : ¬ y.toInt = 13 := lv_neT c13 rfl
    have n14 : ¬ y.toInt = 14 := lv_neT c14 rfl
    have n15 : ¬ y.toInt = 15 := lv_neT c15 rfl
    have n16 : ¬ y.toInt = 16 := lv_neT c16 rfl
    have n17 : ¬ y.toInt = 17 := lv_neT c17 rfl
    have n18 : ¬ y.toInt = 18 := lv_neT c18 rfl
    have n19 : ¬ y.toInt = 19 := lv_neT c19 rfl
    have n20 : ¬ y.toInt = 20 := lv_neT c20 rfl
    have n21 : ¬ y.toInt = 21 := lv_neT c21 rfl
    have n22 : ¬ y.toInt = 22 := lv_neT c22 rfl
    have n23 : ¬ y.toInt = 23 := lv_neT c23 rfl
    have n24 : ¬ y.toInt = 24 := lv_neT c24 rfl
    have n25 : ¬ y.toInt = 25 := lv_neT c25 rfl
    have n26 : ¬ y.toInt = 26 := lv_neT c26 rfl
    have n27 : ¬ y.toInt = 27 := lv_neT c27 rfl
    have n28 : ¬ y.toInt = 28 := lv_neT c28 rfl
    have n29 : ¬ y.toInt = 29 := lv_neT c29 rfl
    have n30 : ¬ y.toInt = 30 := lv_neT c30 rfl
    have n31 : ¬ y.toInt = 31 := lv_neT c31 rfl
    have n32 : ¬ y.toInt = 32 := lv_neT c32 rfl
    have n33 : ¬ y.toInt = 33 := lv_neT c33 rfl
    have n34 : ¬ y.toInt = 34 := lv_neT c34 rfl
    have n35 : ¬ y.toInt = 35 := lv_neT c35 rfl
    refine lv_tableOut (tgt := 1346) hx hb dL_law_33 (by omega) (by decide) ?_
    exact p2_end (D' := D + 400) hx hb hml hown hts hX hbl hK hE kk hi0 hi1 hL hn' (by omega) (by omega) (by omega) (by omega) hP hD hS hl hj6 (J7_mono (by omega) hj7) hmd heq
end
