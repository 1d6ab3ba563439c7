/-! flow: on both sides -/
theorem pj_id {α β : Type} {f : Option α} {g : Option β} {R : α → β → Prop} (h : pj (bd f (fun o => some o)) g R) : pj f g R := by
  cases f with
  | none => exact pj_nl
  | some v => exact h
/-- what is kept for the flows, out of what stands behind the turns -/
theorem HK_of {live ce : Int32} {cells mro room c1 l0 l1 : Nat → Int32} {c2 l2 b4 : Nat → Int64} {M : Int} (g : GC live cells mro) (G1 : cells live.toNatClampNeg = ce) (G6 : AL room mro (12 * live.toNatClampNeg) ce.toInt) (hrw2 : RW live cells mro b4 M) (i1 : DC ce.toInt c1 c2 b4) (i2 : ∀ c : Nat, (c : Int) < ce.toInt → 0 ≤ (c1 c).toInt) (hlk : ∀ c : Nat, (c : Int) < ce.toInt → l0 c = c1 c / room c ∧ l1 c = c1 c ∧ l2 c = c2 c) : HK live ce.toInt M mro l0 l1 l2 b4 := by
  intro c hc
  obtain ⟨w1, w2, w3, w4⟩ := RW_n g G1 hrw2 c hc
  obtain ⟨e1, e2, e3⟩ := hlk c hc
  obtain ⟨j1, j2⟩ := i1 c hc
  have k0 := i2 c hc
  have wt : (b4 c).toInt = (c1 c).toInt := l_ti j1
  have hrm : (room c).toInt = (mro (12 * live.toNatClampNeg + c)).toInt := by rw [G6 c hc]
  have lv := lev_le w3 w1 w2
  have tl : (l0 c).toInt = (b4 c).toInt / (mro (12 * live.toNatClampNeg + c)).toInt := by
    rw [e1, Jvm.Kit.i32_div (by omega), Int.tdiv_eq_ediv_of_nonneg (by omega), ← wt, hrm]
  refine ⟨?_, by rw [e2]; exact j1, by rw [e3]; exact j2, by rw [tl]; exact lv.1, by rw [tl]; exact lv.2.1, ?_⟩
  · rw [e1, l_div (by omega), j1, G6 c hc]
  · rw [tl, e2, ← wt]
    have l3 := lv.2.2.1
    have : (b4 c).toInt / (mro (12 * live.toNatClampNeg + c)).toInt * 1 ≤ (b4 c).toInt / (mro (12 * live.toNatClampNeg + c)).toInt * (mro (12 * live.toNatClampNeg + c)).toInt := Int.mul_le_mul_of_nonneg_left w3 lv.1
    omega
set_option maxHeartbeats 8000000 in
theorem j_turns0 {today vi day live ch ca_ pc pm pf pt gpc gtk gfr gto ce pp ri ra ib : Int32} {B : Int} {ta : Int64} {room pfc ptc rcc rlc rsc vc nd le code5 wanting pwc rwc rnc seen cells mro passes one oth rivers rc rl rw rs rains villages home need lf lt_ code ci wants off wide rain lacked stack water took dry first total va pi di wl : Nat → Int32} {salt row tk : Nat → Int64} (y : DY live cells mro passes one oth rivers rc rl rw rains villages home lf lt_ code ci) (hne : NE live villages need) (G : GL live ce pp ri vi ra room pfc ptc rcc rlc rsc vc nd le code5 cells mro passes one oth rivers rc rl rs rains villages home need lf lt_ code ci) (p : PN live cells passes rains wants wide rain pc pm) (P : PLN live ch ca_ vi.toInt pp.toInt ri.toInt ra.toInt pc pm pf pt gpc gtk gfr gto wanting pwc rwc rnc wants off wide rain rw) (hB : 0 ≤ B ∧ B ≤ 2000000000) (hd : 0 ≤ day.toInt) (hT : pa (f_X7_rainOf live rains rain day) (fun o => o = today)) (hDA : DA ce.toInt vi.toInt B water salt seen took dry first total row) (hw : ∀ c : Nat, (c : Int) < ce.toInt → 0 ≤ (water c).toInt) (hpc : pc.toInt < 0) : pj (f_X0_takeTurns today vi vc nd le code5 wanting day seen lacked stack water salt took dry first total) (f_X7_takes live day ch ca_ pc pm pf pt rains villages home need lf lt_ code ci wants off rain ib ta va pi row tk di wl) (fun a b => IV ce.toInt vi.toInt B ch ca_ off vi.toInt a.1 a.2.2.1 a.2.2.2.1 seen a.2.2.2.2.1 a.2.2.2.2.2.1 a.2.2.2.2.2.2.1 a.2.2.2.2.2.2.2 b.2.2.2.2.1 b.2.2.2.2.2.1 b.2.2.2.2.2.2.1 b.2.2.2.2.2.2.2) := by
  obtain ⟨g, w, hn, hv, hh⟩ := y
  obtain ⟨p1, p2, p3, p4, p5⟩ := p
  obtain ⟨G1, G2, G3, G4, G5, G6, G7, G8, G9, G10, G11, G12, G13, G14⟩ := G
  obtain ⟨P1, P2, P3, P4, P5, P6, P7⟩ := P
  have hl : 0 ≤ live.toInt ∧ live.toInt ≤ 1 := g.1
  have hc12 := g.2.1
  rw [G1] at hc12
  have hv6 := hv
  rw [G4] at hv6
  have hnC : nC live cells = ce.toInt := by unfold nC; rw [G1]
  have hhome : ∀ v : Nat, (v : Int) < vi.toInt → home (6 * live.toNatClampNeg + v) = vc v ∧ 0 ≤ (vc v).toInt ∧ (vc v).toInt < ce.toInt := by
    intro v hv2
    have h6 := hv6.2
    obtain ⟨e1, e2⟩ := of_n (c := v) (by omega)
    have k := hh (Int32.ofNat v) (by omega) (by rw [G4]; omega)
    have s6 : (((6 : Int32) * live) + Int32.ofNat v).toNatClampNeg = 6 * live.toNatClampNeg + v := by rw [cl_S (k := 6) rfl (by decide) hl (by omega) (by omega), e2]
    have kh : hA live home (Int32.ofNat v) = vc v := by unfold hA; rw [s6]; exact (G12 v hv2).symm
    rw [kh] at k
    exact ⟨(G12 v hv2).symm, k.1, by omega⟩
  have hWF : ∀ x : Int32, 0 ≤ x.toInt → x.toInt < vi.toInt → WF code ci (hA live lf x) (hA live lt_ x) := fun x x0 x1 => (hh x x0 (by rw [G4]; exact x1)).2.2
  have hneed : ∀ v : Nat, (v : Int) < vi.toInt → need (6 * live.toNatClampNeg + v) = nd v ∧ 0 ≤ (nd v).toInt ∧ (nd v).toInt ≤ 99 := by
    intro v hv2
    have h6 := hv6.2
    obtain ⟨e1, e2⟩ := of_n (c := v) (by omega)
    have k := hne (Int32.ofNat v) (by omega) (by rw [G4]; omega)
    have s6 : (((6 : Int32) * live) + Int32.ofNat v).toNatClampNeg = 6 * live.toNatClampNeg + v := by rw [cl_S (k := 6) rfl (by decide) hl (by omega) (by omega), e2]
    have kh : hA live need (Int32.ofNat v) = nd v := by unfold hA; rw [s6]; exact (G13 v hv2).symm
    rw [kh] at k
    exact ⟨(G13 v hv2).symm, k.1, k.2⟩
  have m2 : (-2 : Int32).toInt = -2 := by decide
  unfold f_X0_takeTurns f_X7_takes
  refine pj_id ?_
  refine j_tk (B := B) (K := fun o => some o) hl G4 hv6 hc12.2 hB hd hhome hneed (fun x x0 x1 => ⟨(P1 x x0 x1).1, fun q k => ?_⟩) (fun x stack took dry row ib va pi x0 x1 hof h24 h36 h42 => ?_) (fun lacked stack water salt took dry first total ib ta va pi row tk di wl hI => ?_) fuel fuel lacked stack water salt took dry first total ib ta va pi row tk di wl 0 (by decide) hv6.1 ?_
  · have hx : rg x 0 5 := ⟨x0, by have := hv6.2; omega⟩
    rw [(P1 x x0 x1).2 q] at k
    have k1 := z_eq m2 k
    have k2 := (p3 x hx).1
    omega
  · have hx : rg x 0 5 := ⟨x0, by have := hv6.2; omega⟩
    have ex : (x.toNatClampNeg : Int) = x.toInt := cl_k x0
    obtain ⟨h1, h2, h3⟩ := hhome x.toNatClampNeg (by omega)
    have k := hh x x0 (by rw [G4]; exact x1)
    have jw := j_want (today := today) (stack := stack) (ib := ib) (va := va) (pi := pi) hl x0 x1 hv6.2 G14 h1 ⟨h2, by have := hc12.2; omega⟩ (hWF x x0 x1) ((P1 x x0 x1).2 hof) (p3 x hx).1 hT h24 h36 h42
    have sw := s_X7_wantOf live day rains home lf lt_ code ci row wants rain ib va pi x hl hx (g.lt k.1 k.2.1) k.2.2 (p3 x hx) hn hd p2
    refine pj_w (pj_and_r jw (pa_ok sw)) (fun a b hab => ⟨hab.1, ?_⟩)
    rw [hab.1]
    exact hab.2.1
  · show pj (some (lacked, stack, water, salt, took, dry, first, total)) (pump7 day pc pm pf pt ib ta va pi row tk di wl) _
    refine pj_of (P := fun a => a = (lacked, stack, water, salt, took, dry, first, total)) (pa_some rfl) (m_pump0 (Or.inl hpc)) (fun a b ha hb => ?_)
    rw [ha, hb]
    exact hI
  · obtain ⟨D1, D2, D3⟩ := hDA
    refine ⟨D1, hw, D2, fun v hv2 => ?_, fun y y0 y1 => absurd y1 (by show ¬ y.toInt < 0; omega)⟩
    rw [if_neg (by show ¬ (v : Int) < 0; omega)]
    exact D3 v hv2
theorem t_X7_takesRW {v_m_live : Int32} {v_m_rowDay : Int32} {v_m_changed : Int32} {v_m_changedAt : Int32} {v_m_pumpCell : Int32} {v_m_pumpMuch : Int32} {v_m_pumpFrom : Int32} {v_m_pumpTo : Int32} {v_m_rains : Nat → Int32} {v_m_villages : Nat → Int32} {v_m_home : Nat → Int32} {v_m_need : Nat → Int32} {v_m_lawFrom : Nat → Int32} {v_m_lawTo : Nat → Int32} {v_m_code : Nat → Int32} {v_m_codeInt : Nat → Int32} {v_m_wants : Nat → Int32} {v_m_isOff : Nat → Int32} {v_m_rainNow : Nat → Int32} {v_m_isBroken : Int32} {v_m_takenAll : Int64} {v_m_variables : Nat → Int32} {v_m_pile : Nat → Int32} {v_m_row : Nat → Int64} {v_m_taken : Nat → Int64} {v_m_isDry : Nat → Int32} {v_m_wouldLack : Nat → Int32} {v_m_cells : Nat → Int32} {v_m_room : Nat → Int32} {v_m_passes : Nat → Int32} {v_m_passOne : Nat → Int32} {v_m_passOther : Nat → Int32} {v_m_rivers : Nat → Int32} {v_m_riverCell : Nat → Int32} {v_m_riverLevel : Nat → Int32} {v_m_riverWide : Nat → Int32} {v_m_wide : Nat → Int32} {M : Int} (y : DY v_m_live v_m_cells v_m_room v_m_passes v_m_passOne v_m_passOther v_m_rivers v_m_riverCell v_m_riverLevel v_m_riverWide v_m_rains v_m_villages v_m_home v_m_lawFrom v_m_lawTo v_m_code v_m_codeInt) (p : PN v_m_live v_m_cells v_m_passes v_m_rains v_m_wants v_m_wide v_m_rainNow v_m_pumpCell v_m_pumpMuch) (hd : 0 ≤ v_m_rowDay.toInt) (hM : M ≤ 1000000000) (hr : RW v_m_live v_m_cells v_m_room v_m_row M) : ok (f_X7_takes v_m_live v_m_rowDay v_m_changed v_m_changedAt v_m_pumpCell v_m_pumpMuch v_m_pumpFrom v_m_pumpTo v_m_rains v_m_villages v_m_home v_m_need v_m_lawFrom v_m_lawTo v_m_code v_m_codeInt v_m_wants v_m_isOff v_m_rainNow v_m_isBroken v_m_takenAll v_m_variables v_m_pile v_m_row v_m_taken v_m_isDry v_m_wouldLack) (fun o => RW v_m_live v_m_cells v_m_room o.2.2.2.2.1 M) := by
  obtain ⟨g, w, hn, hv, hh⟩ := y
  obtain ⟨p1, p2, p3, p4, p5⟩ := p
  refine s_X7_takes v_m_live v_m_rowDay v_m_changed v_m_changedAt v_m_pumpCell v_m_pumpMuch v_m_pumpFrom v_m_pumpTo v_m_cells v_m_room v_m_rains v_m_villages v_m_home v_m_need v_m_lawFrom v_m_lawTo v_m_code v_m_codeInt v_m_wants v_m_isOff v_m_rainNow v_m_isBroken v_m_takenAll v_m_variables v_m_pile v_m_row v_m_taken v_m_isDry v_m_wouldLack g hM hr hv (fun x h0 h1 => ⟨(hh x h0 h1).1, (hh x h0 h1).2.1⟩) (fun x row ib va pi h0 h1 => ?_) p4 p5
  have hx : rg x 0 5 := ⟨h0, by have := hv.2; omega⟩
  have k := hh x h0 h1
  exact s_X7_wantOf v_m_live v_m_rowDay v_m_rains v_m_home v_m_lawFrom v_m_lawTo v_m_code v_m_codeInt row v_m_wants v_m_rainNow ib va pi x g.1 hx (g.lt k.1 k.2.1) k.2.2 (p3 x hx) hn hd p2
theorem m_f68 {v_m_isBroken : Int32} {v_m_rowDay : Int32} {v_m_changed : Int32} {v_m_pumpCell : Int32} {v_m_takenAll : Int64} {v_m_riversAll : Int64} {v_m_variables : Nat → Int32} {v_m_pile : Nat → Int32} {v_m_row : Nat → Int64} {v_m_wants : Nat → Int32} {v_m_isOff : Nat → Int32} {v_m_wide : Nat → Int32} {v_m_rainNow : Nat → Int32} {v_m_taken : Nat → Int64} {v_m_isDry : Nat → Int32} {v_m_wouldLack : Nat → Int32} {t0 : Int64} : pa (f_X7_flow_b68 v_m_isBroken v_m_rowDay v_m_changed v_m_pumpCell v_m_takenAll v_m_riversAll v_m_variables v_m_pile v_m_row v_m_wants v_m_isOff v_m_wide v_m_rainNow v_m_taken v_m_isDry v_m_wouldLack t0) (fun b => b.1 = t0.toInt32) := by
  unfold f_X7_flow_b68
  exact pa_bd (m_whole t0) (fun o ho => pa_some ho)
set_option maxHeartbeats 8000000 in
theorem j_flowb {v_g_cells : Int32} {v_g_villages : Int32} {v_g_rains : Int32} {v_g_room : Nat → Int32} {v_g_passFrom : Nat → Int32} {v_g_passTo : Nat → Int32} {v_g_passWidth : Nat → Int32} {v_g_riverCell : Nat → Int32} {v_g_riverLevel : Nat → Int32} {v_g_riverWidth : Nat → Int32} {v_g_villageCell : Nat → Int32} {v_g_need : Nat → Int32} {v_g_lawEnd : Nat → Int32} {v_g_code : Nat → Int32} {v_g_rain : Nat → Int32} {v_n_day : Int32} {v_n_water : Nat → Int32} {v_n_salt : Nat → Int64} {v_n_seen : Nat → Int32} {v_n_took : Nat → Int32} {v_n_dryDays : Nat → Int32} {v_n_firstDry : Nat → Int32} {v_n_total : Nat → Int32} {v_p_pumpCell : Int32} {v_p_wanting : Nat → Int32} {v_p_passWidth : Nat → Int32} {v_p_riverWidth : Nat → Int32} {v_p_rain : Nat → Int32} {v_c_today : Int32} {v_c_lacked : Nat → Int32} {v_c_level : Nat → Int32} {v_c_water : Nat → Int32} {v_c_salt : Nat → Int64} {v_c_stack : Nat → Int32} {v_d_day : Int32} {v_d_water : Nat → Int32} {v_d_salt : Nat → Int64} {v_d_seen : Nat → Int32} {v_d_took : Nat → Int32} {v_d_dryDays : Nat → Int32} {v_d_firstDry : Nat → Int32} {v_d_total : Nat → Int32} {x1 : Int32} {x2 : Int32} {v_m_live : Int32} {v_m_day : Int32} {v_m_changedAt : Int32} {v_m_pumpMuch : Int32} {v_m_pumpFrom : Int32} {v_m_pumpTo : Int32} {v_m_cells : Nat → Int32} {v_m_room : Nat → Int32} {v_m_passOne : Nat → Int32} {v_m_passOther : Nat → Int32} {v_m_passWide : Nat → Int32} {v_m_riverCell : Nat → Int32} {v_m_riverLevel : Nat → Int32} {v_m_riverWide : Nat → Int32} {v_m_rains : Nat → Int32} {v_m_rain : Nat → Int32} {v_m_villages : Nat → Int32} {v_m_home : Nat → Int32} {v_m_need : Nat → Int32} {v_m_lawFrom : Nat → Int32} {v_m_lawTo : Nat → Int32} {v_m_code : Nat → Int32} {v_m_codeInt : Nat → Int32} {v_m_now : Nat → Int64} {v_m_isBroken : Int32} {v_m_rowDay : Int32} {v_m_changed : Int32} {v_m_pumpCell : Int32} {v_m_takenAll : Int64} {v_m_riversAll : Int64} {v_m_variables : Nat → Int32} {v_m_pile : Nat → Int32} {v_m_row : Nat → Int64} {v_m_wants : Nat → Int32} {v_m_isOff : Nat → Int32} {v_m_wide : Nat → Int32} {v_m_rainNow : Nat → Int32} {v_m_taken : Nat → Int64} {v_m_isDry : Nat → Int32} {v_m_wouldLack : Nat → Int32} {v_g_passes : Int32} {v_g_rivers : Int32} {v_g_riverSalt : Nat → Int32} {v_m_passes : Nat → Int32} {v_m_rivers : Nat → Int32} {v_m_riverSalt : Nat → Int32} {N : Int32} {B : Int} (hB : B ≤ 1980000) (y : DY v_m_live v_m_cells v_m_room v_m_passes v_m_passOne v_m_passOther v_m_rivers v_m_riverCell v_m_riverLevel v_m_riverWide v_m_rains v_m_villages v_m_home v_m_lawFrom v_m_lawTo v_m_code v_m_codeInt) (hne : NE v_m_live v_m_villages v_m_need) (G : GL v_m_live v_g_cells v_g_passes v_g_rivers v_g_villages v_g_rains v_g_room v_g_passFrom v_g_passTo v_g_riverCell v_g_riverLevel v_g_riverSalt v_g_villageCell v_g_need v_g_lawEnd v_g_code v_m_cells v_m_room v_m_passes v_m_passOne v_m_passOther v_m_rivers v_m_riverCell v_m_riverLevel v_m_riverSalt v_m_rains v_m_villages v_m_home v_m_need v_m_lawFrom v_m_lawTo v_m_code v_m_codeInt) (a1 : AL v_g_passWidth v_m_passWide (20 * v_m_live.toNatClampNeg) v_g_passes.toInt) (a2 : AL v_g_riverWidth v_m_riverWide (3 * v_m_live.toNatClampNeg) v_g_rivers.toInt) (a3 : AL v_g_rain v_m_rain (14 * v_m_live.toNatClampNeg) v_g_rains.toInt) (gx : GX v_m_live v_m_passes v_m_passWide v_m_rains v_m_rain) (h : DD v_m_live v_g_cells.toInt v_g_villages.toInt B v_m_cells v_m_room v_n_day v_m_day v_n_water v_n_salt v_n_seen v_n_took v_n_dryDays v_n_firstDry v_n_total v_m_now) (hx0 : 0 ≤ x1.toInt) (hN : 0 ≤ N.toInt ∧ N.toInt ≤ 20) (hNp : x2 = 0 → N = v_g_passes) (hNr : ¬ x2 = 0 → N = v_g_rivers) : pj (f_X6_flow_b26 v_g_cells v_g_villages v_g_rains v_g_room v_g_passFrom v_g_passTo v_g_passWidth v_g_riverCell v_g_riverLevel v_g_riverWidth v_g_villageCell v_g_need v_g_lawEnd v_g_code v_g_rain v_n_day v_n_water v_n_salt v_n_seen v_n_took v_n_dryDays v_n_firstDry v_n_total v_p_pumpCell v_p_wanting v_p_passWidth v_p_riverWidth v_p_rain v_c_today v_c_lacked v_c_level v_c_water v_c_salt v_c_stack v_d_day v_d_water v_d_salt v_d_seen v_d_took v_d_dryDays v_d_firstDry v_d_total x1 x2 x1 N) (f_X7_flow_b27 v_m_live v_m_day v_m_changedAt v_m_pumpMuch v_m_pumpFrom v_m_pumpTo v_m_cells v_m_room v_m_passOne v_m_passOther v_m_passWide v_m_riverCell v_m_riverLevel v_m_riverWide v_m_rains v_m_rain v_m_villages v_m_home v_m_need v_m_lawFrom v_m_lawTo v_m_code v_m_codeInt v_m_now v_m_isBroken v_m_rowDay v_m_changed v_m_pumpCell v_m_takenAll v_m_riversAll v_m_variables v_m_pile v_m_row v_m_wants v_m_isOff v_m_wide v_m_rainNow v_m_taken v_m_isDry v_m_wouldLack x1 x2 x1 (0 : Int32) N) (fun a b => a.1 = b.1) := by
  have hv6 := y.2.2.2.1
  rw [G.2.2.2.1] at hv6
  have hv6 : 0 ≤ v_g_villages.toInt ∧ v_g_villages.toInt ≤ 6 := hv6
  have hp20 := y.2.1.1
  rw [G.2.1] at hp20
  have hp20 : 0 ≤ v_g_passes.toInt ∧ v_g_passes.toInt ≤ 20 := hp20
  have hr3 := y.2.1.2.1
  rw [G.2.2.1] at hr3
  have hr3 : 0 ≤ v_g_rivers.toInt ∧ v_g_rivers.toInt ≤ 3 := hr3
  have hc12 := y.1.2.1
  rw [G.1] at hc12
  have hc12 : 0 ≤ v_g_cells.toInt ∧ v_g_cells.toInt ≤ 12 := hc12
  have hl : 0 ≤ v_m_live.toInt ∧ v_m_live.toInt ≤ 1 := y.1.1
  have hnC : nC v_m_live v_m_cells = v_g_cells.toInt := by unfold nC; rw [G.1]
  have tN : (N - 1).toInt = N.toInt - 1 := sub_k (k := 1) rfl (by omega) (by omega)
  have e0 : (0 : Int32).toInt = 0 := rfl
  unfold f_X6_flow_b26 f_X7_flow_b27
  refine pj_br (m_in x1 0 (N - 1)) (fun o ho => ?_)
  rcases ho with ⟨rfl, o1, o2⟩ | ⟨rfl, o1⟩
  · refine pj_ifr (fun k => absurd k (by decide)) (fun _ => pj_ifl (fun _ => ?_) (fun k => ?_))
    ·
      refine pj_b13_10 (j_try (v_m_changedAt := v_m_changedAt) (v_m_pumpMuch := v_m_pumpMuch) (v_m_pumpFrom := v_m_pumpFrom) (v_m_pumpTo := v_m_pumpTo) (v_p_pumpTakes := 0) (v_p_pumpFrom := 0) (v_p_pumpTo := 0) y G a1 a2 a3 gx h) (fun s0 s1 s2 s3_ s4 s5 s6 s7 s8 s9 s10 s11 s12 r0 r1 r2 r3 r4 r5 r6 r7 r8 r9 hT => ?_)
      obtain ⟨tP, tp, tD, t2, t3, t4, t5⟩ := hT
      have hd : 0 ≤ r0.toInt := tD.2.1.1
      have hd2 : r0.toInt ≤ B := tD.2.1.2.1
      have t3' : r2 = -1 := t3
      have ed : s5 = r0 := tD.1
      subst ed
      refine pj_b3_1 (j_morn hB y G tp tP tD) (fun k0 k1 k2 b hab => ?_)
      obtain ⟨⟨hT1, hT2, hDA1, hw1⟩, hrw1⟩ := hab
      have hT1 : pa (f_X7_rainOf v_m_live v_m_rains r9 s5) (fun o => o = k0) := hT1
      have hDA1 : DA v_g_cells.toInt v_g_villages.toInt s5.toInt k1 s7 k2 s9 s10 s11 s12 b := hDA1
      have hw1 : ∀ c : Nat, (c : Int) < v_g_cells.toInt → 0 ≤ (k1 c).toInt := hw1
      refine pj_b8_8 (pj_and_r (j_turns0 (B := s5.toInt) y hne G tp tP ⟨hd, by omega⟩ hd hT1 hDA1 hw1 (by rw [t3']; decide)) (pa_ok (t_X7_takesRW y tp hd (by omega) hrw1))) (fun p0 p1 p2 p3 p4 p5 p6 p7 b0 b1 b2 b3 b4 b5 b6 b7 hab => ?_)
      obtain ⟨hI, hrw2⟩ := hab
      obtain ⟨i1, i2, i3, i4, i5⟩ := hI
      have i1 : DC v_g_cells.toInt p2 p3 b4 := i1
      have i2 : ∀ c : Nat, (c : Int) < v_g_cells.toInt → 0 ≤ (p2 c).toInt := i2
      have hrw2 : RW v_m_live v_m_cells v_m_room b4 (10000 + 99 * s5.toInt + 99) := hrw2
      have hroom : ∀ c : Nat, (c : Int) < v_g_cells.toInt → 1 ≤ (v_g_room c).toInt := fun c hc => by
        rw [G.2.2.2.2.2.1 c hc]
        exact (RW_n y.1 G.1 hrw1 c hc).2.2.1
      have hlook : pa (f_X0_lookAtLevels v_g_cells v_g_room p2 p3 v_c_level v_c_water v_c_salt) (fun o => ∀ c : Nat, (c : Int) < v_g_cells.toInt → o.1 c = p2 c / v_g_room c ∧ o.2.1 c = p2 c ∧ o.2.2 c = p3 c) := by
        unfold f_X0_lookAtLevels
        exact c_look hc12 hroom fuel _ _ _ 0 0 rfl hc12.1 (fun c hc => absurd hc (Nat.not_lt_zero c))
      refine pj_bl3 hlook (fun l0 l1 l2 hlk => ?_)
      have hK := HK_of y.1 G.1 G.2.2.2.2.2.1 hrw2 i1 i2 hlk
      have ex : (x1.toNatClampNeg : Int) = x1.toInt := cl_k hx0
      refine pj_ifl (fun q => pj_ifr (fun _ => ?_) (fun k => absurd q k)) (fun q => pj_ifr (fun k => absurd k q) (fun _ => ?_))
      · have hN2 := hNp q
        have x19 : x1.toInt < v_g_passes.toInt := by rw [← hN2]; omega
        have s20 : (((20 : Int32) * v_m_live) + x1).toNatClampNeg = 20 * v_m_live.toNatClampNeg + x1.toNatClampNeg := cl_S (k := 20) rfl (by decide) hl hx0 (by omega)
        have k := y.2.1.2.2.1 x1 hx0 (by rw [G.2.1]; exact x19)
        unfold pA at k
        rw [s20, ← G.2.2.2.2.2.2.1 x1.toNatClampNeg (by omega), ← G.2.2.2.2.2.2.2.1 x1.toNatClampNeg (by omega), hnC] at k
        have eA : ((v_g_passFrom x1.toNatClampNeg).toNatClampNeg : Int) = (v_g_passFrom x1.toNatClampNeg).toInt := cl_k k.1
        have eB : ((v_g_passTo x1.toNatClampNeg).toNatClampNeg : Int) = (v_g_passTo x1.toNatClampNeg).toInt := cl_k k.2.2.1
        obtain ⟨ka, _, _, kd, ke, _⟩ := hK (v_g_passFrom x1.toNatClampNeg).toNatClampNeg (by omega)
        obtain ⟨na, _, _, nd_, ne_, _⟩ := hK (v_g_passTo x1.toNatClampNeg).toNatClampNeg (by omega)
        obtain ⟨q1, q2⟩ := tP.2.1 x1 hx0 x19
        have q1 : r1 = 1 ∧ v_m_changedAt = x1 → s2 x1.toNatClampNeg = 0 := q1
        have q2 : ¬ (r1 = 1 ∧ v_m_changedAt = x1) → s2 x1.toNatClampNeg = r8 x1.toNatClampNeg := q2
        have hw10 : rg (s2 x1.toNatClampNeg) 0 10 := by
          by_cases z : r1 = 1 ∧ v_m_changedAt = x1
          · rw [q1 z]; exact ⟨by decide, by decide⟩
          · rw [q2 z]; exact tp.1 x1 hx0 (by rw [G.2.1]; exact x19)
        have mo := m_overPass (ch := r1) (ca_ := v_m_changedAt) (level := l0) (mro := v_m_room) (row := b4) (pw := s2 x1.toNatClampNeg) (wide := r8) hl hx0 (by omega) (G.2.2.2.2.2.2.1 x1.toNatClampNeg (by omega)).symm (G.2.2.2.2.2.2.2.1 x1.toNatClampNeg (by omega)).symm ⟨k.1, by omega⟩ ⟨k.2.2.1, by omega⟩ ka na q1 q2
        rw [← (fl_eq (M := 10000 + 99 * s5.toInt + 99) (by omega) ⟨kd, ke⟩ ⟨nd_, ne_⟩ hw10).1] at mo
        refine pj_bl c_passFlow (fun o7 h7 => pj_br mo (fun u hu => pj_of (P := fun a => a.1 = o7) (pa_some rfl) m_f68 (fun a b ha hb => ?_)))
        rw [ha, hb, hu, l_32, h7]
      · have hN2 := hNr q
        have x19 : x1.toInt < v_g_rivers.toInt := by rw [← hN2]; omega
        have s3 : (((3 : Int32) * v_m_live) + x1).toNatClampNeg = 3 * v_m_live.toNatClampNeg + x1.toNatClampNeg := cl_S (k := 3) rfl (by decide) hl hx0 (by omega)
        have k := y.2.1.2.2.2.1 x1 hx0 (by rw [G.2.2.1]; exact x19)
        unfold rA at k
        rw [s3, ← G.2.2.2.2.2.2.2.2.1 x1.toNatClampNeg (by omega), ← G.2.2.2.2.2.2.2.2.2.1 x1.toNatClampNeg (by omega), hnC] at k
        have eC : ((v_g_riverCell x1.toNatClampNeg).toNatClampNeg : Int) = (v_g_riverCell x1.toNatClampNeg).toInt := cl_k k.1
        obtain ⟨ka, _, _, kd, ke, _⟩ := hK (v_g_riverCell x1.toNatClampNeg).toNatClampNeg (by omega)
        obtain ⟨q1, q2⟩ := tP.2.2.1 x1 hx0 x19
        have q1 : r1 = 2 ∧ v_m_changedAt = x1 → s3_ x1.toNatClampNeg = 0 := q1
        have q2 : ¬ (r1 = 2 ∧ v_m_changedAt = x1) → s3_ x1.toNatClampNeg = v_m_riverWide (3 * v_m_live.toNatClampNeg + x1.toNatClampNeg) := q2
        have hw10 : rg (s3_ x1.toNatClampNeg) 0 10 := by
          by_cases z : r1 = 2 ∧ v_m_changedAt = x1
          · rw [q1 z]; exact ⟨by decide, by decide⟩
          · rw [q2 z]; exact k.2.2.2
        have mo := m_byRiver (ch := r1) (ca_ := v_m_changedAt) (level := l0) (mro := v_m_room) (row := b4) (rw0 := s3_ x1.toNatClampNeg) (rw := v_m_riverWide) hl hx0 (by omega) (G.2.2.2.2.2.2.2.2.1 x1.toNatClampNeg (by omega)).symm (G.2.2.2.2.2.2.2.2.2.1 x1.toNatClampNeg (by omega)).symm ⟨k.1, by omega⟩ ka q1 q2
        rw [← (fl_eq (M := 10000 + 99 * s5.toInt + 99) (by omega) ⟨k.2.2.1.1, by have := k.2.2.1.2; omega⟩ ⟨kd, ke⟩ hw10).1] at mo
        refine pj_bl c_riverFlow (fun o7 h7 => pj_br mo (fun u hu => pj_of (P := fun a => a.1 = o7) (pa_some rfl) m_f68 (fun a b ha hb => ?_)))
        rw [ha, hb, hu, l_32, h7]
    · have := ti_nlt k
      omega
  · refine pj_ifr (fun _ => pj_ifl (fun k => ?_) (fun _ => pj_ss rfl)) (fun k => absurd rfl k)
    have := ti_lt k
    omega
set_option maxHeartbeats 8000000 in
theorem q_flow {v_g_cells : Int32} {v_g_passes : Int32} {v_g_rivers : Int32} {v_g_villages : Int32} {v_g_rains : Int32} {v_g_room : Nat → Int32} {v_g_passFrom : Nat → Int32} {v_g_passTo : Nat → Int32} {v_g_passWidth : Nat → Int32} {v_g_riverCell : Nat → Int32} {v_g_riverLevel : Nat → Int32} {v_g_riverWidth : Nat → Int32} {v_g_villageCell : Nat → Int32} {v_g_need : Nat → Int32} {v_g_lawEnd : Nat → Int32} {v_g_code : Nat → Int32} {v_g_rain : Nat → Int32} {v_n_day : Int32} {v_n_water : Nat → Int32} {v_n_salt : Nat → Int64} {v_n_seen : Nat → Int32} {v_n_took : Nat → Int32} {v_n_dryDays : Nat → Int32} {v_n_firstDry : Nat → Int32} {v_n_total : Nat → Int32} {v_p_pumpCell : Int32} {v_p_wanting : Nat → Int32} {v_p_passWidth : Nat → Int32} {v_p_riverWidth : Nat → Int32} {v_p_rain : Nat → Int32} {v_c_today : Int32} {v_c_lacked : Nat → Int32} {v_c_level : Nat → Int32} {v_c_water : Nat → Int32} {v_c_salt : Nat → Int64} {v_c_stack : Nat → Int32} {v_d_day : Int32} {v_d_water : Nat → Int32} {v_d_salt : Nat → Int64} {v_d_seen : Nat → Int32} {v_d_took : Nat → Int32} {v_d_dryDays : Nat → Int32} {v_d_firstDry : Nat → Int32} {v_d_total : Nat → Int32} {q1 : Int32} {q2 : Int32} {v_m_live : Int32} {v_m_day : Int32} {v_m_changedAt : Int32} {v_m_pumpMuch : Int32} {v_m_pumpFrom : Int32} {v_m_pumpTo : Int32} {v_m_cells : Nat → Int32} {v_m_room : Nat → Int32} {v_m_passes : Nat → Int32} {v_m_passOne : Nat → Int32} {v_m_passOther : Nat → Int32} {v_m_passWide : Nat → Int32} {v_m_rivers : Nat → Int32} {v_m_riverCell : Nat → Int32} {v_m_riverLevel : Nat → Int32} {v_m_riverWide : Nat → Int32} {v_m_rains : Nat → Int32} {v_m_rain : Nat → Int32} {v_m_villages : Nat → Int32} {v_m_home : Nat → Int32} {v_m_need : Nat → Int32} {v_m_lawFrom : Nat → Int32} {v_m_lawTo : Nat → Int32} {v_m_code : Nat → Int32} {v_m_codeInt : Nat → Int32} {v_m_now : Nat → Int64} {v_m_isBroken : Int32} {v_m_rowDay : Int32} {v_m_changed : Int32} {v_m_pumpCell : Int32} {v_m_takenAll : Int64} {v_m_riversAll : Int64} {v_m_variables : Nat → Int32} {v_m_pile : Nat → Int32} {v_m_row : Nat → Int64} {v_m_wants : Nat → Int32} {v_m_isOff : Nat → Int32} {v_m_wide : Nat → Int32} {v_m_rainNow : Nat → Int32} {v_m_taken : Nat → Int64} {v_m_isDry : Nat → Int32} {v_m_wouldLack : Nat → Int32} {v_g_riverSalt : Nat → Int32} {v_m_riverSalt : Nat → Int32} {B : Int} (hB : B ≤ 1980000) (y : DY v_m_live v_m_cells v_m_room v_m_passes v_m_passOne v_m_passOther v_m_rivers v_m_riverCell v_m_riverLevel v_m_riverWide v_m_rains v_m_villages v_m_home v_m_lawFrom v_m_lawTo v_m_code v_m_codeInt) (hne : NE v_m_live v_m_villages v_m_need) (G : GL v_m_live v_g_cells v_g_passes v_g_rivers v_g_villages v_g_rains v_g_room v_g_passFrom v_g_passTo v_g_riverCell v_g_riverLevel v_g_riverSalt v_g_villageCell v_g_need v_g_lawEnd v_g_code v_m_cells v_m_room v_m_passes v_m_passOne v_m_passOther v_m_rivers v_m_riverCell v_m_riverLevel v_m_riverSalt v_m_rains v_m_villages v_m_home v_m_need v_m_lawFrom v_m_lawTo v_m_code v_m_codeInt) (a1 : AL v_g_passWidth v_m_passWide (20 * v_m_live.toNatClampNeg) v_g_passes.toInt) (a2 : AL v_g_riverWidth v_m_riverWide (3 * v_m_live.toNatClampNeg) v_g_rivers.toInt) (a3 : AL v_g_rain v_m_rain (14 * v_m_live.toNatClampNeg) v_g_rains.toInt) (gx : GX v_m_live v_m_passes v_m_passWide v_m_rains v_m_rain) (h : DD v_m_live v_g_cells.toInt v_g_villages.toInt B v_m_cells v_m_room v_n_day v_m_day v_n_water v_n_salt v_n_seen v_n_took v_n_dryDays v_n_firstDry v_n_total v_m_now) : pj (f_X6_flow v_g_cells v_g_passes v_g_rivers v_g_villages v_g_rains v_g_room v_g_passFrom v_g_passTo v_g_passWidth v_g_riverCell v_g_riverLevel v_g_riverWidth v_g_villageCell v_g_need v_g_lawEnd v_g_code v_g_rain v_n_day v_n_water v_n_salt v_n_seen v_n_took v_n_dryDays v_n_firstDry v_n_total v_p_pumpCell v_p_wanting v_p_passWidth v_p_riverWidth v_p_rain v_c_today v_c_lacked v_c_level v_c_water v_c_salt v_c_stack v_d_day v_d_water v_d_salt v_d_seen v_d_took v_d_dryDays v_d_firstDry v_d_total q1 q2) (f_X7_flow v_m_live v_m_day v_m_changedAt v_m_pumpMuch v_m_pumpFrom v_m_pumpTo v_m_cells v_m_room v_m_passes v_m_passOne v_m_passOther v_m_passWide v_m_rivers v_m_riverCell v_m_riverLevel v_m_riverWide v_m_rains v_m_rain v_m_villages v_m_home v_m_need v_m_lawFrom v_m_lawTo v_m_code v_m_codeInt v_m_now v_m_isBroken v_m_rowDay v_m_changed v_m_pumpCell v_m_takenAll v_m_riversAll v_m_variables v_m_pile v_m_row v_m_wants v_m_isOff v_m_wide v_m_rainNow v_m_taken v_m_isDry v_m_wouldLack q1 q2) (fun a b => a.1 = b.1) := by
  unfold f_X6_flow f_X7_flow
  have hp20 := y.2.1.1
  rw [G.2.1] at hp20
  have hp20 : 0 ≤ v_g_passes.toInt ∧ v_g_passes.toInt ≤ 20 := hp20
  have hr3 := y.2.1.2.1
  rw [G.2.2.1] at hr3
  have hr3 : 0 ≤ v_g_rivers.toInt ∧ v_g_rivers.toInt ≤ 3 := hr3
  have e0 : (0 : Int32).toInt = 0 := rfl
  refine pj_ifl (fun k => ?_) (fun k => ?_)
  · have k1 := lt_k (k := 0) rfl k
    have out : ∀ N : Int32, 0 ≤ N.toInt ∧ N.toInt ≤ 20 → pa (f_X7_flow_b27 v_m_live v_m_day v_m_changedAt v_m_pumpMuch v_m_pumpFrom v_m_pumpTo v_m_cells v_m_room v_m_passOne v_m_passOther v_m_passWide v_m_riverCell v_m_riverLevel v_m_riverWide v_m_rains v_m_rain v_m_villages v_m_home v_m_need v_m_lawFrom v_m_lawTo v_m_code v_m_codeInt v_m_now v_m_isBroken v_m_rowDay v_m_changed v_m_pumpCell v_m_takenAll v_m_riversAll v_m_variables v_m_pile v_m_row v_m_wants v_m_isOff v_m_wide v_m_rainNow v_m_taken v_m_isDry v_m_wouldLack q1 q2 q1 (0 : Int32) N) (fun b => b.1 = -1000000) := by
      intro N hN
      unfold f_X7_flow_b27
      refine pa_bd (m_in q1 0 (N - 1)) (fun o ho => pa_if (fun _ => pa_some rfl) (fun z => ?_))
      rcases ho with ⟨_, o1, _⟩ | ⟨o1, _⟩
      · omega
      · exact absurd o1 z
    refine pj_ifr (fun _ => pj_ckr (fun _ => ?_)) (fun _ => pj_ckr (fun _ => ?_))
    · rw [G.2.1]
      exact pj_of (P := fun a => a.1 = -1000000) (pa_some rfl) (out _ hp20) (fun a b ha hb => ha.trans hb.symm)
    · rw [G.2.2.1]
      exact pj_of (P := fun a => a.1 = -1000000) (pa_some rfl) (out _ ⟨hr3.1, by omega⟩) (fun a b ha hb => ha.trans hb.symm)
  · have k1 := nlt_k (k := 0) rfl k
    refine pj_ifl (fun z => pj_ifr (fun _ => pj_ckr (fun _ => ?_)) (fun l => absurd z l)) (fun z => pj_ifr (fun l => absurd l z) (fun _ => pj_ckr (fun _ => ?_)))
    · rw [G.2.1]
      exact j_flowb hB y hne G a1 a2 a3 gx h k1 hp20 (fun _ => rfl) (fun l => absurd z l)
    · rw [G.2.2.1]
      exact j_flowb hB y hne G a1 a2 a3 gx h k1 ⟨hr3.1, by omega⟩ (fun l => absurd l z) (fun _ => rfl)
