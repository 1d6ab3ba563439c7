/-! a whole read on both sides; the tapes -/
theorem nar_id {x : Int32} (h : rg x (-128) 127) : vp_nar .byte x = x := by
  obtain ⟨a, b⟩ := h
  apply Int32.toInt_inj.mp
  show x.toInt8.toInt32.toInt = _
  rw [Int8.toInt_toInt32, Int32.toInt_toInt8, Int.bmod_def]
  omega
def TA (t5 : Nat → Int32) (len : Int32) (t7 : Nat → Int32) : Prop := ∀ j : Nat, (j : Int) < len.toInt → t5 j = t7 j ∧ rg (t5 j) (-128) 127
theorem TA_0 {t5 t7 : Nat → Int32} {len : Int32} (h : len = 0) : TA t5 len t7 := fun j hj => by
  have e := z_eq (k := 0) rfl h
  omega
theorem m_f12 : ∀ (n : Nat) (tp : Nat → Int32) (x1 x2 x3 : Int32) (i : Nat), x2.toInt = i → x3.toInt = 12 → (∀ j, j < i → tp j = x1) → pa (f_J7_fill_53178_12_b5 n tp x1 x2 x3) (fun o => ∀ j, j < 12 → o j = x1) := by
  intro n
  induction n with
  | zero => intro tp x1 x2 x3 i _ _ _; exact pa_none
  | succ n ih =>
    intro tp x1 x2 x3 i h2 h3 hj
    show pa (f_J7_fill_53178_12_b5_st (f_J7_fill_53178_12_b5 n) tp x1 x2 x3) _
    unfold f_J7_fill_53178_12_b5_st
    refine pa_if (fun c => pa_some (fun j h => hj j ?_)) (fun c => pa_ck (fun _ => pa_nx ?_))
    · have := ti_le c
      omega
    · have c2 := ti_nle c
      have e : (x2.toNatClampNeg : Int) = x2.toInt := cl_k (by omega)
      have t := add_k (x := x2) (v := 1) (k := 1) rfl (by omega) (by omega)
      refine ih _ x1 (x2 + 1) x3 (i + 1) (by omega) h3 (fun j h => ?_)
      unfold upd
      by_cases z : j = x2.toNatClampNeg
      · rw [if_pos z]
      · rw [if_neg z]; exact hj j (by omega)
theorem m_begin (v1 v2 v3 v4 v5 v6 v7 v8 v9 v10 v11 v12 : Int32) (wy : Nat → Int32) : pa (f_X5_begin v1 v2 v3 v4 v5 v6 v7 v8 v9 v10 v11 v12 wy) (fun o => ∃ wz, o = (0, 0, 0, 0, -1, 0, -1, 0, 0, 0, 0, 0, wz) ∧ ∀ j, j < 12 → wz j = 0) := by
  unfold f_X5_begin
  refine pa_bd6 (P := fun o => ∃ wz, o = (0, 0, 0, 0, 0, wz) ∧ ∀ j, j < 12 → wz j = 0) ?_ (fun a b c d e f hp => ?_)
  · unfold f_X3_clear f_J7_fill_53178_12
    exact pa_bd (m_f12 fuel wy 0 0 12 0 rfl rfl (fun j hj => absurd hj (Nat.not_lt_zero _))) (fun o ho => pa_some ⟨o, rfl, ho⟩)
  · obtain ⟨wz, e1, h⟩ := hp
    cases e1
    exact pa_some ⟨_, rfl, h⟩
/-- the reference's copy of the tape -/
theorem j_copy {α : Type} {f : Option α} {RR : α → Int32 × (Int32) × (Int32) × (Int32) × (Int32) × (Int32) × (Int32) × (Int32) × (Int32) × (Int32) × (Int32) × (Int32) × (Int32) × (Int32) × (Int32) × (Int32) × (Int32) × (Int32) × (Int32) × (Int32) × (Int64) × (Int64) × (Int32) × (Nat → Int32) × (Nat → Int32) × (Nat → Int32) × (Nat → Int32) × (Nat → Int64) × (Nat → Int64) × (Nat → Int32) × (Nat → Int32) × (Nat → Int32) × (Nat → Int32) × (Nat → Int32) × (Nat → Int32) × (Nat → Int32) × (Nat → Int32) × (Nat → Int32) × (Nat → Int32) × (Nat → Int32) × (Nat → Int32) × (Nat → Int32) × (Nat → Int32) × (Nat → Int32) × (Nat → Int32) × (Nat → Int32) × (Nat → Int32) × (Nat → Int32) × (Nat → Int32) × (Nat → Int32) × (Nat → Int32) × (Nat → Int32) × (Nat → Int32) × (Nat → Int64) × (Nat → Int32) × (Nat → Int64) × (Nat → Int32) × (Nat → Int32) × (Nat → Int32) × (Nat → Int32) → Prop} {N : Nat} {tape : Nat → Int32} {keys : Nat → Int64} {taped : Int32} {size : Int32} {tokens : Int32} {t : Int32} {op : Int32} {g : Int32} {gp : Int32} {w : Int32} {wp : Int32} {place : Int32} {live : Int32} {side : Int32} {nm_ : Int32} {codes : Int32} {waiting : Int32} {day : Int32} {rd : Int32} {chg : Int32} {pump : Int32} {ta : Int64} {rva : Int64} {told : Int32} {kd : Nat → Int32} {pl : Nat → Int32} {vl : Nat → Int32} {tn : Nat → Int64} {no : Nat → Int64} {na : Nat → Int32} {mc : Nat → Int32} {mro : Nat → Int32} {mwa : Nat → Int32} {mwy : Nat → Int32} {mp : Nat → Int32} {mo : Nat → Int32} {mh : Nat → Int32} {mw : Nat → Int32} {mr : Nat → Int32} {mrc : Nat → Int32} {mrl : Nat → Int32} {mrw : Nat → Int32} {mrs : Nat → Int32} {mra : Nat → Int32} {mrn : Nat → Int32} {mv : Nat → Int32} {mhm : Nat → Int32} {mnd : Nat → Int32} {lwf : Nat → Int32} {lwt : Nat → Int32} {code : Nat → Int32} {ci : Nat → Int32} {waits : Nat → Int32} {now : Nat → Int64} {held : Nat → Int32} {row : Nat → Int64} {wants : Nat → Int32} {off : Nat → Int32} {wide : Nat → Int32} {rnow : Nat → Int32} (hs : size.toInt = N) (hN : N ≤ 2000)
    (ex : ∀ (text : Nat → Int32) (x1 : Int32), (∀ j, j < N → text j = vp_nar .byte (tape j)) → size ≤ x1 → ∀ n, pj f (f_X7_read_b10_st (f_X7_read_b10 tape keys n) tape keys taped size tokens t op g gp w wp place live side nm_ codes waiting day rd chg pump ta rva told text kd pl vl tn no na mc mro mwa mwy mp mo mh mw mr mrc mrl mrw mrs mra mrn mv mhm mnd lwf lwt code ci waits now held row wants off wide rnow x1) RR) : ∀ (n : Nat) (text : Nat → Int32) (x1 : Int32) (i : Nat), x1.toInt = i → i ≤ N → (∀ j, j < i → text j = vp_nar .byte (tape j)) → pj f (f_X7_read_b10 tape keys n taped size tokens t op g gp w wp place live side nm_ codes waiting day rd chg pump ta rva told text kd pl vl tn no na mc mro mwa mwy mp mo mh mw mr mrc mrl mrw mrs mra mrn mv mhm mnd lwf lwt code ci waits now held row wants off wide rnow x1) RR := by
  intro n
  induction n with
  | zero => intro text x1 i _ _ _; exact pj_nr
  | succ n ih =>
    intro text x1 i h1 hi hj
    by_cases c : size ≤ x1
    · exact ex text x1 (fun j h => hj j (by have := ti_le c; omega)) c n
    · show pj f (f_X7_read_b10_st (f_X7_read_b10 tape keys n) tape keys taped size tokens t op g gp w wp place live side nm_ codes waiting day rd chg pump ta rva told text kd pl vl tn no na mc mro mwa mwy mp mo mh mw mr mrc mrl mrw mrs mra mrn mv mhm mnd lwf lwt code ci waits now held row wants off wide rnow x1) RR
      unfold f_X7_read_b10_st
      have c2 := ti_nle c
      have e : (x1.toNatClampNeg : Int) = x1.toInt := cl_k (by omega)
      have en : x1.toNatClampNeg = i := by omega
      have t := add_k (x := x1) (v := 1) (k := 1) rfl (by omega) (by omega)
      refine pj_ifr (fun z => absurd z c) (fun _ => pj_ckr (fun _ => pj_ckr (fun _ => pj_nmr ?_)))
      refine ih _ (x1 + 1) (i + 1) (by omega) (by omega) (fun j h => ?_)
      rw [en]
      unfold upd
      by_cases z : j = i
      · rw [if_pos z, z]
      · rw [if_neg z]; exact hj j (by omega)
set_option maxRecDepth 100000 in
theorem j_readAll {t5 tape : Nat → Int32} {keys : Nat → Int64} {len : Int32} {next : Int32} {cl : Int32} {own : Int32} {s : Int32} {f : Int32} {fp : Int32} {lf : Int32} {lp : Int32} {K : Nat → Int32} {S : Nat → Int32} {V : Nat → Int64} {cn : Nat → Int64} {vn : Nat → Int64} {ce : Int32} {pp : Int32} {ri : Int32} {vi : Int32} {ra : Int32} {room : Nat → Int32} {water : Nat → Int32} {ways : Nat → Int32} {pf : Nat → Int32} {pt : Nat → Int32} {pw : Nat → Int32} {rc : Nat → Int32} {rl : Nat → Int32} {rw : Nat → Int32} {rs : Nat → Int32} {vc : Nat → Int32} {nd : Nat → Int32} {le : Nat → Int32} {code0 : Nat → Int32} {rn : Nat → Int32} {taped : Int32} {size : Int32} {tokens : Int32} {m_t : Int32} {op : Int32} {m_g : Int32} {gp : Int32} {m_w : Int32} {m_wp : Int32} {place : Int32} {live : Int32} {side : Int32} {nm_ : Int32} {codes : Int32} {waiting : Int32} {day : Int32} {rd : Int32} {chg : Int32} {pump : Int32} {m_ta : Int64} {rva : Int64} {told : Int32} {m_text : Nat → Int32} {kd : Nat → Int32} {pl : Nat → Int32} {vl : Nat → Int32} {tn : Nat → Int64} {no : Nat → Int64} {na : Nat → Int32} {mc : Nat → Int32} {mro : Nat → Int32} {mwa : Nat → Int32} {mwy : Nat → Int32} {mp : Nat → Int32} {mo : Nat → Int32} {mh : Nat → Int32} {mw : Nat → Int32} {mr : Nat → Int32} {mrc : Nat → Int32} {mrl : Nat → Int32} {mrw : Nat → Int32} {mrs : Nat → Int32} {mra : Nat → Int32} {mrn : Nat → Int32} {mv : Nat → Int32} {mhm : Nat → Int32} {mnd : Nat → Int32} {lwf : Nat → Int32} {lwt : Nat → Int32} {code : Nat → Int32} {ci : Nat → Int32} {waits : Nat → Int32} {now : Nat → Int64} {held : Nat → Int32} {row : Nat → Int64} {wants : Nat → Int32} {off : Nat → Int32} {wide : Nat → Int32} {rnow : Nat → Int32} (hl : 0 ≤ live.toInt ∧ live.toInt ≤ 1) (ht : 0 ≤ taped.toInt ∧ taped.toInt ≤ 2000) (he : len = taped) (ta : TA t5 len tape) (ky : KY keys) : pj (f_X5_readAll t5 next cl own s f fp lf lp K S V cn vn ce pp ri vi ra room water ways pf pt pw rc rl rw rs vc nd le code0 rn len) (f_X7_read tape keys taped size tokens m_t op m_g gp m_w m_wp place live side nm_ codes waiting day rd chg pump m_ta rva told m_text kd pl vl tn no na mc mro mwa mwy mp mo mh mw mr mrc mrl mrw mrs mra mrn mv mhm mnd lwf lwt code ci waits now held row wants off wide rnow) RTop := by
  obtain ⟨N, hN⟩ : ∃ N : Nat, (N : Int) = taped.toInt := ⟨taped.toInt.toNat, by omega⟩
  unfold f_X7_read
  refine j_copy (N := N) (by omega) (by omega) (fun X x1 hX hx n => ?_) fuel m_text 0 0 rfl (by omega) (fun j hj => absurd hj (Nat.not_lt_zero _))
  unfold f_X5_readAll f_X7_read_b10_st
  refine pj_ifr (fun _ => ?_) (fun z => absurd hx z)
  refine pj_bl13 (m_begin _ _ _ _ _ _ _ _ _ _ _ _ _) (fun a0 a1 a2 a3 a4 a5 a6 a7 a8 a9 a10 a11 a12 hb => ?_)
  obtain ⟨wz, e1, wz0⟩ := hb
  cases e1
  have xl : (if (2000 : Int32) < len then (2000 : Int32) else len) = len := if_neg (fun z => by have := k_lt (k := 2000) rfl z; rw [he] at this; omega)
  rw [xl]
  have bb : ∀ j, (fun j => (t5 j).toInt) j = (t5 j).toInt := fun _ => rfl
  have br : ∀ j, j < N → rg (t5 j) (-128) 127 := fun j hj => (ta j (by rw [he]; omega)).2
  refine pj_bl3 (l_X5_scan (b := fun j => (t5 j).toInt) (N := N) bb br (by omega) (by rw [he]; omega) K S V) (fun b0 b1 b2 hs => ?_)
  have tx : TX X (fun j => (t5 j).toInt) N taped := by
    refine ⟨by omega, by omega, fun j hj => ?_⟩
    have t0 := ta j (by rw [he]; omega)
    have r := br j hj
    have eX : X j = t5 j := by rw [hX j hj, ← t0.1]; exact nar_id r
    exact ⟨by rw [eX], r.1, r.2⟩
  refine pj_br5 (l_X7_cut tx ky _ _ _ _ _) (fun c0 c1 c2 c3 c4 hc => ?_)
  have tk := tk_all hs hc
  have e1 : (1 : Int32).toInt = 1 := rfl
  have sd : ((1 : Int32) - live).toInt = 1 - live.toInt := by rw [Jvm.Kit.i32_sub (by omega) (by omega), e1]
  have z0 : (0 : Int32).toInt = 0 := rfl
  have no : ∀ {P : Prop} (i : Nat), (i : Int) < (0 : Int32).toInt → P := fun i hi => absurd hi (by omega)
  refine pj_ckr (fun _ => pj_nmr (pj_ckr (fun _ => pj_nmr (pj_ckr (fun _ => pj_nmr (pj_ckr (fun _ => pj_nmr (pj_ckr (fun _ => pj_nmr ?_)))))))))
  refine j_17 tk fuel fuel _ _ _ _ _ _ _ _ _ _ _ _ _ _ _ _ _ _ _ _ _ _ _ _ _ _ _ _ _ _ _ _ _ _ _ _ _ _ _ _ _ _ _ _ _ _ _ _ _ _ _ _ _ _ _ _ _ _ _ _ _ _ _ _ _ _ _ _ _ _ _ _ _ _ _ _ _ _ _ _ _ _ _ _ 0 ⟨⟨rfl, ⟨by decide, by decide⟩, fun i hi => absurd hi (Nat.not_lt_zero _), rfl, rfl, rfl, rfl, fun z => absurd rfl z⟩, rfl, ⟨⟨by decide, by decide⟩, ⟨by decide, by decide⟩, rfl, fun i hi => no i hi, fun i hi => no i hi, fun i hi => no i hi, fun k l _ hl => no l hl⟩, ⟨⟨by omega, by omega⟩, ⟨by decide, by decide⟩, up_at, AL_0 (by decide), AL_0 (by decide), AL_0 (by decide), fun i hi => ?_⟩, ⟨⟨by omega, by omega⟩, ⟨by decide, by decide⟩, up_at, AL_0 (by decide), AL_0 (by decide), AL_0 (by decide)⟩, ⟨⟨by omega, by omega⟩, ⟨by decide, by decide⟩, up_at, AL_0 (by decide), AL_0 (by decide), AL_0 (by decide), AL_0 (by decide)⟩, ⟨⟨by omega, by omega⟩, ⟨by decide, by decide⟩, up_at, AL_0 (by decide)⟩, ⟨⟨by omega, by omega⟩, ⟨by decide, by decide⟩, up_at, AL_0 (by decide), AL_0 (by decide)⟩⟩ (by decide) (by decide)
  rw [wz0 i hi]
  exact ⟨⟨by decide, by decide⟩, fun _ => rfl⟩
set_option maxRecDepth 100000 in
theorem j_X6_read {v_w_tape : Nat → Int32} {v_w_length : Int32} {v_w_faultPlace : Int32} {v_w_held : Nat → Int32} {v_r_next : Int32} {v_r_codeLength : Int32} {v_r_ownCell : Int32} {v_r_stopped : Int32} {v_r_fault : Int32} {v_r_faultPlace : Int32} {v_r_laterFault : Int32} {v_r_laterPlace : Int32} {v_r_kind : Nat → Int32} {v_r_start : Nat → Int32} {v_r_value : Nat → Int64} {v_r_cellName : Nat → Int64} {v_r_villageName : Nat → Int64} {v_rg_cells : Int32} {v_rg_passes : Int32} {v_rg_rivers : Int32} {v_rg_villages : Int32} {v_rg_rains : Int32} {v_rg_room : Nat → Int32} {v_rg_water : Nat → Int32} {v_rg_ways : Nat → Int32} {v_rg_passFrom : Nat → Int32} {v_rg_passTo : Nat → Int32} {v_rg_passWidth : Nat → Int32} {v_rg_riverCell : Nat → Int32} {v_rg_riverLevel : Nat → Int32} {v_rg_riverWidth : Nat → Int32} {v_rg_riverSalt : Nat → Int32} {v_rg_villageCell : Nat → Int32} {v_rg_need : Nat → Int32} {v_rg_lawEnd : Nat → Int32} {v_rg_code : Nat → Int32} {v_rg_rain : Nat → Int32} {v_g_cells : Int32} {v_g_passes : Int32} {v_g_rivers : Int32} {v_g_villages : Int32} {v_g_rains : Int32} {v_g_room : Nat → Int32} {v_g_water : Nat → Int32} {v_g_ways : Nat → Int32} {v_g_passFrom : Nat → Int32} {v_g_passTo : Nat → Int32} {v_g_passWidth : Nat → Int32} {v_g_riverCell : Nat → Int32} {v_g_riverLevel : Nat → Int32} {v_g_riverWidth : Nat → Int32} {v_g_riverSalt : Nat → Int32} {v_g_villageCell : Nat → Int32} {v_g_need : Nat → Int32} {v_g_lawEnd : Nat → Int32} {v_g_code : Nat → Int32} {v_g_rain : Nat → Int32} {v_n_day : Int32} {v_n_water : Nat → Int32} {v_n_salt : Nat → Int64} {v_n_seen : Nat → Int32} {v_n_took : Nat → Int32} {v_n_dryDays : Nat → Int32} {v_n_firstDry : Nat → Int32} {v_n_total : Nat → Int32} {v_e_told : Int32} {v_e_pumps : Nat → Int32} {v_m_tape : Nat → Int32} {v_m_keys : Nat → Int64} {v_m_taped : Int32} {v_m_size : Int32} {v_m_tokens : Int32} {v_m_t : Int32} {v_m_open : Int32} {v_m_fault : Int32} {v_m_faultPlace : Int32} {v_m_worst : Int32} {v_m_worstPlace : Int32} {v_m_place : Int32} {v_m_live : Int32} {v_m_side : Int32} {v_m_names : Int32} {v_m_codes : Int32} {v_m_waiting : Int32} {v_m_day : Int32} {v_m_rowDay : Int32} {v_m_changed : Int32} {v_m_pumpCell : Int32} {v_m_takenAll : Int64} {v_m_riversAll : Int64} {v_m_told : Int32} {v_m_text : Nat → Int32} {v_m_tKind : Nat → Int32} {v_m_tPlace : Nat → Int32} {v_m_tValue : Nat → Int32} {v_m_tName : Nat → Int64} {v_m_nameOf : Nat → Int64} {v_m_nameAt : Nat → Int32} {v_m_cells : Nat → Int32} {v_m_room : Nat → Int32} {v_m_water : Nat → Int32} {v_m_ways : Nat → Int32} {v_m_passes : Nat → Int32} {v_m_passOne : Nat → Int32} {v_m_passOther : Nat → Int32} {v_m_passWide : Nat → Int32} {v_m_rivers : Nat → Int32} {v_m_riverCell : Nat → Int32} {v_m_riverLevel : Nat → Int32} {v_m_riverWide : Nat → Int32} {v_m_riverSalt : Nat → Int32} {v_m_rains : Nat → Int32} {v_m_rain : Nat → Int32} {v_m_villages : Nat → Int32} {v_m_home : Nat → Int32} {v_m_need : Nat → Int32} {v_m_lawFrom : Nat → Int32} {v_m_lawTo : Nat → Int32} {v_m_code : Nat → Int32} {v_m_codeInt : Nat → Int32} {v_m_waits : Nat → Int32} {v_m_now : Nat → Int64} {v_m_isHeld : Nat → Int32} {v_m_row : Nat → Int64} {v_m_wants : Nat → Int32} {v_m_isOff : Nat → Int32} {v_m_wide : Nat → Int32} {v_m_rainNow : Nat → Int32} (hl : 0 ≤ v_m_live.toInt ∧ v_m_live.toInt ≤ 1) (ht : 0 ≤ v_m_taped.toInt ∧ v_m_taped.toInt ≤ 2000) (he : v_w_length = v_m_taped) (ta : TA v_w_tape v_w_length v_m_tape) (ky : KY v_m_keys) : pj (f_X6_read v_w_tape v_w_length v_w_faultPlace v_w_held v_r_next v_r_codeLength v_r_ownCell v_r_stopped v_r_fault v_r_faultPlace v_r_laterFault v_r_laterPlace v_r_kind v_r_start v_r_value v_r_cellName v_r_villageName v_rg_cells v_rg_passes v_rg_rivers v_rg_villages v_rg_rains v_rg_room v_rg_water v_rg_ways v_rg_passFrom v_rg_passTo v_rg_passWidth v_rg_riverCell v_rg_riverLevel v_rg_riverWidth v_rg_riverSalt v_rg_villageCell v_rg_need v_rg_lawEnd v_rg_code v_rg_rain v_g_cells v_g_passes v_g_rivers v_g_villages v_g_rains v_g_room v_g_water v_g_ways v_g_passFrom v_g_passTo v_g_passWidth v_g_riverCell v_g_riverLevel v_g_riverWidth v_g_riverSalt v_g_villageCell v_g_need v_g_lawEnd v_g_code v_g_rain v_n_day v_n_water v_n_salt v_n_seen v_n_took v_n_dryDays v_n_firstDry v_n_total v_e_told v_e_pumps) (f_X7_read v_m_tape v_m_keys v_m_taped v_m_size v_m_tokens v_m_t v_m_open v_m_fault v_m_faultPlace v_m_worst v_m_worstPlace v_m_place v_m_live v_m_side v_m_names v_m_codes v_m_waiting v_m_day v_m_rowDay v_m_changed v_m_pumpCell v_m_takenAll v_m_riversAll v_m_told v_m_text v_m_tKind v_m_tPlace v_m_tValue v_m_tName v_m_nameOf v_m_nameAt v_m_cells v_m_room v_m_water v_m_ways v_m_passes v_m_passOne v_m_passOther v_m_passWide v_m_rivers v_m_riverCell v_m_riverLevel v_m_riverWide v_m_riverSalt v_m_rains v_m_rain v_m_villages v_m_home v_m_need v_m_lawFrom v_m_lawTo v_m_code v_m_codeInt v_m_waits v_m_now v_m_isHeld v_m_row v_m_wants v_m_isOff v_m_wide v_m_rainNow) (fun a b => a.1 = b.1) := by
  unfold f_X6_read
  refine pj_bL34 (j_readAll hl ht he ta ky) (fun a0 a1 a2 a3 a4 a5 a6 a7 a8 a9 a10 a11 a12 a13 a14 a15 a16 a17 a18 a19 a20 a21 a22 a23 a24 a25 a26 a27 a28 a29 a30 a31 a32 a33 b hJ => ?_)
  have h1 : a0 = b.1 := hJ.1
  exact pa_bd (pa_T _) (fun _ _ => pa_if (fun _ => pa_bd20 (pa_T _) (fun _ _ _ _ _ _ _ _ _ _ _ _ _ _ _ _ _ _ _ _ _ => pa_bd11 (pa_T _) (fun _ _ _ _ _ _ _ _ _ _ _ _ => pa_some h1))) (fun _ => pa_some h1))
theorem TA_up {t5 t7 : Nat → Int32} {len v : Int32} (h : TA t5 len t7) (h0 : 0 ≤ len.toInt) (h1 : len.toInt < 2000) (hv : rg v (-128) 127) : TA (upd t5 len.toNatClampNeg v) (len + 1) (upd t7 len.toNatClampNeg v) := by
  have t := add_k (x := len) (v := 1) (k := 1) rfl (by omega) (by omega)
  have e : (len.toNatClampNeg : Int) = len.toInt := cl_k h0
  intro j hj
  unfold upd
  by_cases z : j = len.toNatClampNeg
  · rw [if_pos z, if_pos z]; exact ⟨rfl, hv⟩
  · rw [if_neg z, if_neg z]; exact h j (by omega)
theorem j_put3 {x1 : Int32} : ∀ (n m k : Nat) (len : Int32) (t5 t7 : Nat → Int32) (x2 : Int32), x2.toInt = 8 * k - 8 → k ≤ 4 → 0 ≤ len.toInt → len.toInt + k ≤ 2000 → TA t5 len t7 → pj (f_X6_append_b3 n len t5 x1 x2) (f_X7_put_b3 m len t7 x1 x2) (fun a b => a.1 = b.1 ∧ TA a.2 a.1 b.2 ∧ a.1.toInt = len.toInt + k) := by
  intro n
  induction n with
  | zero => intro m k len t5 t7 x2 _ _ _ _ _; exact pj_nl
  | succ n ih =>
    intro m k len t5 t7 x2 h2 hk h0 h1 ta
    cases m with
    | zero => exact pj_nr
    | succ m =>
    show pj (f_X6_append_b3_st (f_X6_append_b3 n) len t5 x1 x2) (f_X7_put_b3_st (f_X7_put_b3 m) len t7 x1 x2) _
    unfold f_X6_append_b3_st f_X7_put_b3_st
    refine pj_ifl (fun c => pj_ifr (fun _ => pj_ss ⟨rfl, ta, ?_⟩) (fun z => absurd c z)) (fun c => pj_ifr (fun z => absurd z c) (fun _ => pj_ifl (fun z => ?_) (fun _ => pj_ckl (fun _ => pj_nml (pj_ckr (fun _ => pj_nmr ?_))))))
    · have := lt_k (k := 0) rfl c
      show len.toInt = len.toInt + k
      omega
    · have c2 := nlt_k (k := 0) rfl c
      have := k_le (k := 2000) rfl z
      omega
    · have c2 := nlt_k (k := 0) rfl c
      obtain ⟨j, rfl⟩ : ∃ j, k = j + 1 := ⟨k - 1, by omega⟩
      have em : (-8 : Int32).toInt = -8 := by decide
      have t1 := add_k (x := len) (v := 1) (k := 1) rfl (by omega) (by omega)
      have t2 := add_k (x := x2) (v := -8) (k := -8) em (by omega) (by omega)
      refine pj_w (ih m j (len + 1) _ _ (x2 + -8) (by omega) (by omega) (by omega) (by omega) (TA_up ta h0 (by omega) (rg_byte _))) (fun a b hr => ⟨hr.1, hr.2.1, ?_⟩)
      have := hr.2.2
      omega
theorem j_put {len q : Int32} {t5 t7 : Nat → Int32} (h0 : 0 ≤ len.toInt) (h1 : len.toInt + 4 ≤ 2000) (ta : TA t5 len t7) : pj (f_X6_append len t5 q) (f_X7_put len t7 q) (fun a b => a.1 = b.1 ∧ TA a.2 a.1 b.2 ∧ a.1.toInt = len.toInt + 4) := by
  unfold f_X6_append f_X7_put
  exact j_put3 fuel fuel 4 len t5 t7 24 (by decide) (by decide) h0 (by omega) ta
theorem j_feed {len taped q1 q2 q3 q4 q5 : Int32} {t5 t7 : Nat → Int32} (hl : rg len 0 2000) (he : len = taped) (ta : TA t5 len t7) : pj (f_X6_feed len t5 q1 q2 q3 q4 q5) (f_X7_feed taped t7 q1 q2 q3 q4 q5) (fun a b => TA a.2.2 a.2.1 b.2.2) := by
  subst he
  obtain ⟨a, b⟩ := hl
  unfold f_X6_feed f_X7_feed
  have t := add_k (x := len) (v := 20) (k := 20) rfl (by omega) (by omega)
  refine pj_ifl (fun c => ?_) (fun c => ?_)
  · have c2 := le_k (k := 1980) rfl c
    refine pj_ifr (fun _ => ?_) (fun z => ?_)
    · refine pj_b2_2 (j_put a (by omega) ta) (fun x1 y1 u1 v1 h1 => ?_)
      obtain ⟨e1, ta1, n1⟩ := h1
      change x1 = u1 at e1
      change x1.toInt = len.toInt + 4 at n1
      rw [← e1]
      refine pj_b2_2 (j_put (by omega) (by omega) ta1) (fun x2 y2 u2 v2 h2 => ?_)
      obtain ⟨e2, ta2, n2⟩ := h2
      change x2 = u2 at e2
      change x2.toInt = x1.toInt + 4 at n2
      rw [← e2]
      refine pj_b2_2 (j_put (by omega) (by omega) ta2) (fun x3 y3 u3 v3 h3 => ?_)
      obtain ⟨e3, ta3, n3⟩ := h3
      change x3 = u3 at e3
      change x3.toInt = x2.toInt + 4 at n3
      rw [← e3]
      refine pj_b2_2 (j_put (by omega) (by omega) ta3) (fun x4 y4 u4 v4 h4 => ?_)
      obtain ⟨e4, ta4, n4⟩ := h4
      change x4 = u4 at e4
      change x4.toInt = x3.toInt + 4 at n4
      rw [← e4]
      refine pj_b2_2 (j_put (by omega) (by omega) ta4) (fun x5 y5 u5 v5 h5 => ?_)
      exact pj_ss h5.2.1
    · have := nle_k (k := 2000) rfl z
      omega
  · have c2 := nle_k (k := 1980) rfl c
    refine pj_ifr (fun z => ?_) (fun _ => pj_ss ta)
    have := le_k (k := 2000) rfl z
    omega
theorem TA_le {t5 t7 : Nat → Int32} {len l2 : Int32} (h : TA t5 len t7) (h2 : l2.toInt ≤ len.toInt) : TA t5 l2 t7 := fun j hj => h j (by omega)
