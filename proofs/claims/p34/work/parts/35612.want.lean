/-! saved, want, flow: on both sides -/
theorem pj_b2_4 {A0 A1 B0 B1 B2 B3 γ δ : Type} {f : Option (A0 × A1)} {g : Option (B0 × B1 × B2 × B3)} {k : A0 → A1 → Option γ} {l : B0 → B1 → B2 → B3 → Option δ} {J : A0 × A1 → B0 × B1 × B2 × B3 → Prop} {R : γ → δ → Prop} (h : pj f g J) (q : ∀ a0 a1 b0 b1 b2 b3, J (a0, a1) (b0, b1, b2, b3) → pj (k a0 a1) (l b0 b1 b2 b3) R) : pj (bd f (fun o => un2 o k)) (bd g (fun o => un4 o l)) R := pj_bb h (fun a b hab => q (a.1) (a.2) (b.1) (b.2.1) (b.2.2.1) (b.2.2.2) hab)
theorem G_home {live ce pp ri vi ra : Int32} {room pfc ptc rcc rlc rsc vc nd le code5 cells mro passes one oth rivers rc rl rw rs rains villages home need lf lt_ code ci : Nat → Int32} (y : DY live cells mro passes one oth rivers rc rl rw rains villages home lf lt_ code ci) (G : GL live ce pp ri vi ra room pfc ptc rcc rlc rsc vc nd le code5 cells mro passes one oth rivers rc rl rs rains villages home need lf lt_ code ci) {x : Int32} (x0 : 0 ≤ x.toInt) (x1 : x.toInt < vi.toInt) : home (6 * live.toNatClampNeg + x.toNatClampNeg) = vc x.toNatClampNeg ∧ (0 ≤ (vc x.toNatClampNeg).toInt ∧ (vc x.toNatClampNeg).toInt < ce.toInt) ∧ WF code ci (hA live lf x) (hA live lt_ x) := by
  obtain ⟨g, w, hn, hv, hh⟩ := y
  obtain ⟨G1, G2, G3, G4, G5, G6, G7, G8, G9, G10, G11, G12, G13, G14⟩ := G
  have hl : 0 ≤ live.toInt ∧ live.toInt ≤ 1 := g.1
  rw [G4] at hv
  have ex : (x.toNatClampNeg : Int) = x.toInt := cl_k x0
  have hnC : nC live cells = ce.toInt := by unfold nC; rw [G1]
  have k := hh x x0 (by rw [G4]; exact x1)
  have kh : hA live home x = vc x.toNatClampNeg := by
    unfold hA
    rw [cl_S (k := 6) rfl (by decide) hl x0 (by have := hv.2; omega)]
    exact (G12 x.toNatClampNeg (by omega)).symm
  rw [kh] at k
  exact ⟨(G12 x.toNatClampNeg (by omega)).symm, ⟨k.1, by rw [← hnC]; exact k.2.1⟩, k.2.2⟩
set_option maxHeartbeats 4000000 in
theorem j_morn {v_g_cells : Int32} {v_g_rains : Int32} {v_g_room : Nat → Int32} {v_p_rain : Nat → Int32} {v_d_day : Int32} {v_c_today : Int32} {v_d_water : Nat → Int32} {v_d_seen : Nat → Int32} {v_m_live : Int32} {v_m_rowDay : Int32} {v_m_cells : Nat → Int32} {v_m_room : Nat → Int32} {v_m_rains : Nat → Int32} {v_m_rainNow : Nat → Int32} {v_m_row : Nat → Int64} {v_g_passes : Int32} {v_g_rivers : Int32} {v_g_villages : Int32} {v_g_passFrom : Nat → Int32} {v_g_passTo : Nat → Int32} {v_g_riverCell : Nat → Int32} {v_g_riverLevel : Nat → Int32} {v_g_riverSalt : Nat → Int32} {v_g_villageCell : Nat → Int32} {v_g_need : Nat → Int32} {v_g_lawEnd : Nat → Int32} {v_g_code : Nat → Int32} {v_p_pumpCell : Int32} {v_p_pumpTakes : Int32} {v_p_pumpFrom : Int32} {v_p_pumpTo : Int32} {v_p_wanting : Nat → Int32} {v_p_passWidth : Nat → Int32} {v_p_riverWidth : Nat → Int32} {v_d_salt : Nat → Int64} {v_d_took : Nat → Int32} {v_d_dryDays : Nat → Int32} {v_d_firstDry : Nat → Int32} {v_d_total : Nat → Int32} {v_m_changed : Int32} {v_m_changedAt : Int32} {v_m_pumpCell : Int32} {v_m_pumpMuch : Int32} {v_m_pumpFrom : Int32} {v_m_pumpTo : Int32} {v_m_passes : Nat → Int32} {v_m_passOne : Nat → Int32} {v_m_passOther : Nat → Int32} {v_m_rivers : Nat → Int32} {v_m_riverCell : Nat → Int32} {v_m_riverLevel : Nat → Int32} {v_m_riverWide : Nat → Int32} {v_m_riverSalt : Nat → Int32} {v_m_villages : Nat → Int32} {v_m_home : Nat → Int32} {v_m_need : Nat → Int32} {v_m_lawFrom : Nat → Int32} {v_m_lawTo : Nat → Int32} {v_m_code : Nat → Int32} {v_m_codeInt : Nat → Int32} {v_m_wants : Nat → Int32} {v_m_isOff : Nat → Int32} {v_m_wide : Nat → Int32} {B : Int} (hB : B ≤ 1980000) (y : DY v_m_live v_m_cells v_m_room v_m_passes v_m_passOne v_m_passOther v_m_rivers v_m_riverCell v_m_riverLevel v_m_riverWide v_m_rains v_m_villages v_m_home v_m_lawFrom v_m_lawTo v_m_code v_m_codeInt) (G : GL v_m_live v_g_cells v_g_passes v_g_rivers v_g_villages v_g_rains v_g_room v_g_passFrom v_g_passTo v_g_riverCell v_g_riverLevel v_g_riverSalt v_g_villageCell v_g_need v_g_lawEnd v_g_code v_m_cells v_m_room v_m_passes v_m_passOne v_m_passOther v_m_rivers v_m_riverCell v_m_riverLevel v_m_riverSalt v_m_rains v_m_villages v_m_home v_m_need v_m_lawFrom v_m_lawTo v_m_code v_m_codeInt) (p : PN v_m_live v_m_cells v_m_passes v_m_rains v_m_wants v_m_wide v_m_rainNow v_m_pumpCell v_m_pumpMuch) (P : PLN v_m_live v_m_changed v_m_changedAt v_g_villages.toInt v_g_passes.toInt v_g_rivers.toInt v_g_rains.toInt v_m_pumpCell v_m_pumpMuch v_m_pumpFrom v_m_pumpTo v_p_pumpCell v_p_pumpTakes v_p_pumpFrom v_p_pumpTo v_p_wanting v_p_passWidth v_p_riverWidth v_p_rain v_m_wants v_m_isOff v_m_wide v_m_rainNow v_m_riverWide) (hD : DD v_m_live v_g_cells.toInt v_g_villages.toInt B v_m_cells v_m_room v_d_day v_m_rowDay v_d_water v_d_salt v_d_seen v_d_took v_d_dryDays v_d_firstDry v_d_total v_m_row) : pj (f_X0_morning v_g_cells v_g_rains v_g_room v_p_rain v_d_day v_c_today v_d_water v_d_seen) (f_X7_sees v_m_live v_m_rowDay v_m_cells v_m_room v_m_rains v_m_rainNow v_m_row) (fun a b => (pa (f_X7_rainOf v_m_live v_m_rains v_m_rainNow v_m_rowDay) (fun o => o = a.1) ∧ rg a.1 0 99 ∧ DA v_g_cells.toInt v_g_villages.toInt v_m_rowDay.toInt a.2.1 v_d_salt a.2.2 v_d_took v_d_dryDays v_d_firstDry v_d_total b ∧ ∀ c : Nat, (c : Int) < v_g_cells.toInt → 0 ≤ (a.2.1 c).toInt) ∧ RW v_m_live v_m_cells v_m_room b (10000 + 99 * v_m_rowDay.toInt + 99)) := by
  obtain ⟨g, w, hn, hv, hh⟩ := y
  obtain ⟨G1, G2, G3, G4, G5, G6, G7, G8, G9, G10, G11, G12, G13, G14⟩ := G
  obtain ⟨rfl, ⟨hd, hd2, hrw⟩, hDA⟩ := hD
  have hl : 0 ≤ v_m_live.toInt ∧ v_m_live.toInt ≤ 1 := g.1
  have hc12 := g.2.1
  rw [G1] at hc12
  have hc12 : 0 ≤ v_g_cells.toInt ∧ v_g_cells.toInt ≤ 12 := hc12
  have hra := hn
  rw [G5] at hra
  have hroom : ∀ c : Nat, (c : Int) < v_g_cells.toInt → 1 ≤ (v_g_room c).toInt := fun c hc => by
    rw [G6 c hc]
    exact (RW_n g G1 hrw c hc).2.2.1
  have hw0 : ∀ c : Nat, (c : Int) < v_g_cells.toInt → 0 ≤ (v_d_water c).toInt ∧ (v_d_water c).toInt ≤ 2147483000 := fun c hc => by
    obtain ⟨w1, w2, w3, w4⟩ := RW_n g G1 hrw c hc
    have wt : (v_m_row c).toInt = (v_d_water c).toInt := l_ti (hDA.1 c hc).1
    have m9 := mul9 (M := 10000 + 99 * v_d_day.toInt) (by omega) w3 w4
    omega
  exact pj_and_r (j_morning hl G1 hc12 G5 hra.1 hd P.2.2.2.1 (s_X7_rainOf v_m_live v_m_rains v_m_rainNow v_d_day g.1 hn hd p.2.1) G6 hroom hw0 hDA) (pa_ok (s_X7_sees v_m_live v_d_day v_m_cells v_m_room v_m_rains v_m_rainNow v_m_row g (by omega) hrw hn hd p.2.1))
set_option maxHeartbeats 8000000 in
theorem q_want {v_g_cells : Int32} {v_g_villages : Int32} {v_g_rains : Int32} {v_g_room : Nat → Int32} {v_g_passWidth : Nat → Int32} {v_g_riverWidth : Nat → Int32} {v_g_lawEnd : Nat → Int32} {v_g_code : Nat → Int32} {v_g_rain : Nat → Int32} {v_n_day : Int32} {v_n_water : Nat → Int32} {v_n_salt : Nat → Int64} {v_n_seen : Nat → Int32} {v_n_took : Nat → Int32} {v_n_dryDays : Nat → Int32} {v_n_firstDry : Nat → Int32} {v_n_total : Nat → Int32} {v_p_pumpCell : Int32} {v_p_wanting : Nat → Int32} {v_p_passWidth : Nat → Int32} {v_p_riverWidth : Nat → Int32} {v_p_rain : Nat → Int32} {v_c_today : Int32} {v_c_stack : Nat → Int32} {v_d_day : Int32} {v_d_water : Nat → Int32} {v_d_salt : Nat → Int64} {v_d_seen : Nat → Int32} {v_d_took : Nat → Int32} {v_d_dryDays : Nat → Int32} {v_d_firstDry : Nat → Int32} {v_d_total : Nat → Int32} {q1 : Int32} {v_m_live : Int32} {v_m_day : Int32} {v_m_cells : Nat → Int32} {v_m_room : Nat → Int32} {v_m_passWide : Nat → Int32} {v_m_rains : Nat → Int32} {v_m_rain : Nat → Int32} {v_m_villages : Nat → Int32} {v_m_home : Nat → Int32} {v_m_lawFrom : Nat → Int32} {v_m_lawTo : Nat → Int32} {v_m_code : Nat → Int32} {v_m_codeInt : Nat → Int32} {v_m_now : Nat → Int64} {v_m_isBroken : Int32} {v_m_rowDay : Int32} {v_m_changed : Int32} {v_m_pumpCell : Int32} {v_m_takenAll : Int64} {v_m_riversAll : Int64} {v_m_variables : Nat → Int32} {v_m_pile : Nat → Int32} {v_m_row : Nat → Int64} {v_m_wants : Nat → Int32} {v_m_isOff : Nat → Int32} {v_m_wide : Nat → Int32} {v_m_rainNow : Nat → Int32} {v_g_passes : Int32} {v_g_rivers : Int32} {v_g_passFrom : Nat → Int32} {v_g_passTo : Nat → Int32} {v_g_riverCell : Nat → Int32} {v_g_riverLevel : Nat → Int32} {v_g_riverSalt : Nat → Int32} {v_g_villageCell : Nat → Int32} {v_g_need : Nat → Int32} {v_m_passes : Nat → Int32} {v_m_passOne : Nat → Int32} {v_m_passOther : Nat → Int32} {v_m_rivers : Nat → Int32} {v_m_riverCell : Nat → Int32} {v_m_riverLevel : Nat → Int32} {v_m_riverWide : Nat → Int32} {v_m_riverSalt : Nat → Int32} {v_m_need : Nat → Int32} {B : Int} (hB : B ≤ 1980000) (y : DY v_m_live v_m_cells v_m_room v_m_passes v_m_passOne v_m_passOther v_m_rivers v_m_riverCell v_m_riverLevel v_m_riverWide v_m_rains v_m_villages v_m_home v_m_lawFrom v_m_lawTo v_m_code v_m_codeInt) (hne : NE v_m_live v_m_villages v_m_need) (G : GL v_m_live v_g_cells v_g_passes v_g_rivers v_g_villages v_g_rains v_g_room v_g_passFrom v_g_passTo v_g_riverCell v_g_riverLevel v_g_riverSalt v_g_villageCell v_g_need v_g_lawEnd v_g_code v_m_cells v_m_room v_m_passes v_m_passOne v_m_passOther v_m_rivers v_m_riverCell v_m_riverLevel v_m_riverSalt v_m_rains v_m_villages v_m_home v_m_need v_m_lawFrom v_m_lawTo v_m_code v_m_codeInt) (a1 : AL v_g_passWidth v_m_passWide (20 * v_m_live.toNatClampNeg) v_g_passes.toInt) (a2 : AL v_g_riverWidth v_m_riverWide (3 * v_m_live.toNatClampNeg) v_g_rivers.toInt) (a3 : AL v_g_rain v_m_rain (14 * v_m_live.toNatClampNeg) v_g_rains.toInt) (gx : GX v_m_live v_m_passes v_m_passWide v_m_rains v_m_rain) (h : DD v_m_live v_g_cells.toInt v_g_villages.toInt B v_m_cells v_m_room v_n_day v_m_day v_n_water v_n_salt v_n_seen v_n_took v_n_dryDays v_n_firstDry v_n_total v_m_now) : pj (f_X6_want v_g_cells v_g_villages v_g_rains v_g_room v_g_passWidth v_g_riverWidth v_g_lawEnd v_g_code v_g_rain v_n_day v_n_water v_n_salt v_n_seen v_n_took v_n_dryDays v_n_firstDry v_n_total v_p_pumpCell v_p_wanting v_p_passWidth v_p_riverWidth v_p_rain v_c_today v_c_stack v_d_day v_d_water v_d_salt v_d_seen v_d_took v_d_dryDays v_d_firstDry v_d_total q1) (f_X7_want v_m_live v_m_day v_m_cells v_m_room v_m_passWide v_m_rains v_m_rain v_m_villages v_m_home v_m_lawFrom v_m_lawTo v_m_code v_m_codeInt v_m_now v_m_isBroken v_m_rowDay v_m_changed v_m_pumpCell v_m_takenAll v_m_riversAll v_m_variables v_m_pile v_m_row v_m_wants v_m_isOff v_m_wide v_m_rainNow q1) (fun a b => a.1 = b.1) := by
  unfold f_X6_want f_X7_want
  have hv6 := y.2.2.2.1
  rw [G.2.2.2.1] at hv6
  have hv6 : 0 ≤ v_g_villages.toInt ∧ v_g_villages.toInt ≤ 6 := hv6
  have hc12 := y.1.2.1
  rw [G.1] at hc12
  have hc12 : 0 ≤ v_g_cells.toInt ∧ v_g_cells.toInt ≤ 12 := hc12
  refine pj_G (j_isV G.2.2.2.1 hv6) (pj_ss rfl) (fun d1 d2 => ?_)
  refine pj_b13_10 (j_try (v_m_changedAt := 0) (v_m_pumpMuch := 0) (v_m_pumpFrom := 0) (v_m_pumpTo := 0) (v_p_pumpTakes := 0) (v_p_pumpFrom := 0) (v_p_pumpTo := 0) y G a1 a2 a3 gx h) (fun s0 s1 s2 s3 s4 s5 s6 s7 s8 s9 s10 s11 s12 r0 r1 r2 r3 r4 r5 r6 r7 r8 r9 hT => ?_)
  obtain ⟨tP, tp, tD, t2, t3, t4, t5⟩ := hT
  obtain ⟨h1, h2, h3⟩ := G_home y G d1 (by omega)
  have hx5 : rg q1 0 5 := ⟨d1, by omega⟩
  have eq1 : (q1.toNatClampNeg : Int) = q1.toInt := cl_k d1
  refine pj_b3_1 (j_morn hB y G tp tP tD) (fun k0 k1 k2 b hab => ?_)
  obtain ⟨⟨hT1, hT2, hDA1, hw1⟩, _⟩ := hab
  have hT1 : pa (f_X7_rainOf v_m_live v_m_rains r9 r0) (fun o => o = k0) := hT1
  have hDA1 : DA v_g_cells.toInt v_g_villages.toInt r0.toInt k1 s7 k2 s9 s10 s11 s12 b := hDA1
  obtain ⟨D1, D2, D3⟩ := hDA1
  have ed : s5 = r0 := tD.1
  subst ed
  have DVx := D3 q1.toNatClampNeg (by omega)
  refine pj_b2_4 (j_want (stack := v_c_stack) (ib := v_m_isBroken) (va := v_m_variables) (pi := v_m_pile) y.1.1 d1 (by omega) hv6.2 G.2.2.2.2.2.2.2.2.2.2.2.2.2 h1 ⟨h2.1, by omega⟩ h3 ((tP.1 q1 d1 (by omega)).2 (OF_told t2 (fun j hj => (t4 j hj).2) d1 (by omega))) (tp.2.2.1 q1 hx5).1 hT1 D2 DVx.1 DVx.2.1) (fun a0 a1_ b0 b1 b2 b3 hab => pj_ss hab)
theorem PLN_chg {live m0 cx pc pm pf pt gpc gtk gfr gto q1 q2 : Int32} {vi pp ri ra : Int} {wanting pwc rwc rnc wants off wide rain rw w' p' r' : Nat → Int32} (h : PLN live m0 cx vi pp ri ra pc pm pf pt gpc gtk gfr gto wanting pwc rwc rnc wants off wide rain rw) (h0 : m0 = -1) (hoff : ∀ j, j < 6 → off j = 0) (hv : vi ≤ 6) (hc : (q1 = 0 ∧ 0 ≤ q2.toInt ∧ w' = upd wanting q2.toNatClampNeg (-2) ∧ p' = pwc ∧ r' = rwc) ∨ (q1 = 1 ∧ 0 ≤ q2.toInt ∧ w' = wanting ∧ p' = upd pwc q2.toNatClampNeg 0 ∧ r' = rwc) ∨ (q1 = 2 ∧ 0 ≤ q2.toInt ∧ w' = wanting ∧ p' = pwc ∧ r' = upd rwc q2.toNatClampNeg 0)) : PLN live q1 q2 vi pp ri ra pc pm pf pt gpc gtk gfr gto w' p' r' rnc wants off wide rain rw := by
  obtain ⟨h1, h2, h3, h4⟩ := h
  have nOF : ∀ y : Int32, 0 ≤ y.toInt → y.toInt < vi → ¬ OF m0 cx off y := fun y y0 y1 => OF_told h0 hoff y0 (by omega)
  have n1 : ∀ x : Int32, ¬ (m0 = 1 ∧ cx = x) := fun x q => absurd (h0.symm.trans q.1) (by decide)
  have n2 : ∀ x : Int32, ¬ (m0 = 2 ∧ cx = x) := fun x q => absurd (h0.symm.trans q.1) (by decide)
  have oy : ∀ y : Int32, 0 ≤ y.toInt → y.toInt < vi → OF q1 q2 off y → q1 = 0 ∧ q2 = y := fun y y0 y1 q => by
    have ey : (y.toNatClampNeg : Int) = y.toInt := cl_k y0
    rcases q with q | q
    · exact absurd (hoff y.toNatClampNeg (by omega)) q
    · exact q
  rcases hc with ⟨e1, e2, e3, e4, e5⟩ | ⟨e1, e2, e3, e4, e5⟩ | ⟨e1, e2, e3, e4, e5⟩
  · refine ⟨fun y y0 y1 => ⟨fun q => ?_, fun q => ?_⟩, fun x x0 x1 => ⟨fun q => absurd (e1.symm.trans q.1) (by decide), fun _ => ?_⟩, fun x x0 x1 => ⟨fun q => absurd (e1.symm.trans q.1) (by decide), fun _ => ?_⟩, h4⟩
    · rw [e3, ← (oy y y0 y1 q).2, up_at]
    · rw [e3, up_ne (fun k => q (Or.inr ⟨e1, (cl_inj y0 e2 k).symm⟩))]
      exact (h1 y y0 y1).2 (nOF y y0 y1)
    · rw [e4]; exact (h2 x x0 x1).2 (n1 x)
    · rw [e5]; exact (h3 x x0 x1).2 (n2 x)
  · refine ⟨fun y y0 y1 => ⟨fun q => absurd (e1.symm.trans (oy y y0 y1 q).1) (by decide), fun q => ?_⟩, fun x x0 x1 => ⟨fun q => ?_, fun q => ?_⟩, fun x x0 x1 => ⟨fun q => absurd (e1.symm.trans q.1) (by decide), fun _ => ?_⟩, h4⟩
    · rw [e3]; exact (h1 y y0 y1).2 (nOF y y0 y1)
    · rw [e4, ← q.2, up_at]
    · rw [e4, up_ne (fun k => q ⟨e1, (cl_inj x0 e2 k).symm⟩)]
      exact (h2 x x0 x1).2 (n1 x)
    · rw [e5]; exact (h3 x x0 x1).2 (n2 x)
  · refine ⟨fun y y0 y1 => ⟨fun q => absurd (e1.symm.trans (oy y y0 y1 q).1) (by decide), fun q => ?_⟩, fun x x0 x1 => ⟨fun q => absurd (e1.symm.trans q.1) (by decide), fun _ => ?_⟩, fun x x0 x1 => ⟨fun q => ?_, fun q => ?_⟩, h4⟩
    · rw [e3]; exact (h1 y y0 y1).2 (nOF y y0 y1)
    · rw [e4]; exact (h2 x x0 x1).2 (n1 x)
    · rw [e5, ← q.2, up_at]
    · rw [e5, up_ne (fun k => q ⟨e1, (cl_inj x0 e2 k).symm⟩)]
      exact (h3 x x0 x1).2 (n2 x)
/-- what may be CHANGED -/
def CHG (q1 q2 : Int32) (vi pp ri : Int) : Prop := (q1 = 0 ∧ 0 ≤ q2.toInt ∧ q2.toInt < vi) ∨ (q1 = 1 ∧ 0 ≤ q2.toInt ∧ q2.toInt < pp) ∨ (q1 = 2 ∧ 0 ≤ q2.toInt ∧ q2.toInt < ri)
theorem c_chg {wanting pw rw : Nat → Int32} {q1 q2 : Int32} {vi pp ri : Int} (hv : vi ≤ 6) (hp : pp ≤ 20) (hr : ri ≤ 3) (h : CHG q1 q2 vi pp ri) : pa (f_X4_change wanting pw rw q1 q2) (fun o => (q1 = 0 ∧ 0 ≤ q2.toInt ∧ o.1 = upd wanting q2.toNatClampNeg (-2) ∧ o.2.1 = pw ∧ o.2.2 = rw) ∨ (q1 = 1 ∧ 0 ≤ q2.toInt ∧ o.1 = wanting ∧ o.2.1 = upd pw q2.toNatClampNeg 0 ∧ o.2.2 = rw) ∨ (q1 = 2 ∧ 0 ≤ q2.toInt ∧ o.1 = wanting ∧ o.2.1 = pw ∧ o.2.2 = upd rw q2.toNatClampNeg 0)) := by
  have z6 : (6 : Int32).toInt = 6 := rfl
  have z20 : (20 : Int32).toInt = 20 := rfl
  have z3 : (3 : Int32).toInt = 3 := rfl
  unfold f_X4_change f_X4_change_b24 f_X4_change_b48
  rcases h with ⟨e, h0, h1⟩ | ⟨e, h0, h1⟩ | ⟨e, h0, h1⟩
  · refine pa_if (fun _ => pa_if (fun z => ?_) (fun _ => pa_ck (fun _ => pa_nx (pa_some (Or.inl ⟨e, h0, rfl, rfl, rfl⟩))))) (fun z => absurd e z)
    have := ti_le z
    omega
  · refine pa_if (fun z => absurd (e.symm.trans z) (by decide)) (fun _ => pa_if (fun _ => pa_if (fun z => ?_) (fun _ => pa_ck (fun _ => pa_nx (pa_some (Or.inr (Or.inl ⟨e, h0, rfl, rfl, rfl⟩)))))) (fun z => absurd e z))
    have := ti_le z
    omega
  · refine pa_if (fun z => absurd (e.symm.trans z) (by decide)) (fun _ => pa_if (fun z => absurd (e.symm.trans z) (by decide)) (fun _ => pa_if (fun _ => pa_if (fun z => ?_) (fun _ => pa_ck (fun _ => pa_nx (pa_some (Or.inr (Or.inr ⟨e, h0, rfl, rfl, rfl⟩)))))) (fun z => absurd e z)))
    have := ti_le z
    omega
theorem j_isCh {live pp ri vi q1 q2 : Int32} {mp mr mv : Nat → Int32} (hp : mp live.toNatClampNeg = pp) (hr : mr live.toNatClampNeg = ri) (hv : mv live.toNatClampNeg = vi) (kp : 0 ≤ pp.toInt ∧ pp.toInt ≤ 20) (kr_ : 0 ≤ ri.toInt ∧ ri.toInt ≤ 3) (kv : 0 ≤ vi.toInt ∧ vi.toInt ≤ 6) : pj (f_X6_isChange pp ri vi q1 q2) (f_X7_isChange live mp mr mv q1 q2) (fun a b => (a = 0 ∧ b = 0) ∨ (a = 1 ∧ b = 1 ∧ CHG q1 q2 vi.toInt pp.toInt ri.toInt)) := by
  unfold f_X6_isChange f_X7_isChange
  refine pj_ifl (fun e => pj_ifr (fun _ => pj_bb (j_isV hv kv) (fun a b hab => pj_ckl (fun _ => pj_ckr (fun _ => pj_ss ?_)))) (fun k => absurd e k)) (fun e => pj_ifr (fun k => absurd k e) (fun _ => ?_))
  · rcases hab with ⟨a1, b1⟩ | ⟨a1, b1, c1, c2⟩
    · exact Or.inl ⟨a1, b1⟩
    · exact Or.inr ⟨a1, b1, Or.inl ⟨e, c1, by omega⟩⟩
  refine pj_ifl (fun e => pj_ifr (fun _ => ?_) (fun k => absurd e k)) (fun e => pj_ifr (fun k => absurd k e) (fun _ => ?_))
  · have jp := j_isP (q := q2) hp kp
    unfold f_X7_isPass at jp
    refine pj_bl (P := fun a => f_X6_isPass pp q2 = some a) (fun o ho => ho) (fun a ha => pj_ckl (fun _ => pj_ckr (fun hk => pj_br (P := fun b => f_X7_in q2 (0 : Int32) ((mp live.toNatClampNeg) - (1 : Int32)) = some b) (fun o ho => ho) (fun b hb => pj_ckr (fun hz => pj_ss ?_)))))
    have hab := jp a b ha (by rw [hk]; show bd _ _ = _; rw [hb]; show ck (isz b) (some b) = _; rw [hz]; rfl)
    rcases hab with ⟨a1, b1⟩ | ⟨a1, b1, c1, c2⟩
    · exact Or.inl ⟨a1, b1⟩
    · exact Or.inr ⟨a1, b1, Or.inr (Or.inl ⟨e, c1, by omega⟩)⟩
  refine pj_ifl (fun e => pj_ifr (fun _ => pj_ckr (fun _ => pj_br (m_inG hr ⟨kr_.1, by omega⟩) (fun o ho => ?_))) (fun k => absurd e k)) (fun e => pj_ifr (fun k => absurd k e) (fun _ => pj_ss (Or.inl ⟨rfl, rfl⟩)))
  have z0 : (0 : Int32).toInt = 0 := rfl
  rcases ho with ⟨o1, o2, o3⟩ | ⟨o1, o2⟩
  · refine pj_ifl (fun z => ?_) (fun _ => pj_ifl (fun z => ?_) (fun _ => pj_ifr (fun z => absurd (o1.symm.trans z) (by decide)) (fun _ => pj_ss (Or.inr ⟨rfl, rfl, Or.inr (Or.inr ⟨e, o2, o3⟩)⟩))))
    · have := lt_k (k := 0) rfl z
      omega
    · have := ti_le z
      omega
  · refine pj_ifr (fun _ => ?_) (fun z => absurd o1 z)
    refine pj_ifl (fun _ => pj_ss (Or.inl ⟨rfl, rfl⟩)) (fun z => pj_ifl (fun _ => pj_ss (Or.inl ⟨rfl, rfl⟩)) (fun k => ?_))
    have g1 := nlt_k (k := 0) rfl z
    have g2 := ti_nle k
    omega

set_option maxHeartbeats 8000000 in
theorem j_saved {v_g_cells : Int32} {v_g_passes : Int32} {v_g_rivers : Int32} {v_g_villages : Int32} {v_g_rains : Int32} {v_g_room : Nat → Int32} {v_g_passFrom : Nat → Int32} {v_g_passTo : Nat → Int32} {v_g_passWidth : Nat → Int32} {v_g_riverCell : Nat → Int32} {v_g_riverLevel : Nat → Int32} {v_g_riverWidth : Nat → Int32} {v_g_riverSalt : Nat → Int32} {v_g_villageCell : Nat → Int32} {v_g_need : Nat → Int32} {v_g_lawEnd : Nat → Int32} {v_g_code : Nat → Int32} {v_g_rain : Nat → Int32} {v_p_pumpTakes : Int32} {v_p_pumpFrom : Int32} {v_p_pumpTo : Int32} {v_n_day : Int32} {v_n_water : Nat → Int32} {v_n_salt : Nat → Int64} {v_n_seen : Nat → Int32} {v_n_took : Nat → Int32} {v_n_dryDays : Nat → Int32} {v_n_firstDry : Nat → Int32} {v_n_total : Nat → Int32} {v_p_pumpCell : Int32} {v_p_wanting : Nat → Int32} {v_p_passWidth : Nat → Int32} {v_p_riverWidth : Nat → Int32} {v_p_rain : Nat → Int32} {v_c_pumped : Int32} {v_c_today : Int32} {v_c_lacked : Nat → Int32} {v_c_level : Nat → Int32} {v_c_water : Nat → Int32} {v_c_salt : Nat → Int64} {v_c_stack : Nat → Int32} {v_d_day : Int32} {v_d_water : Nat → Int32} {v_d_salt : Nat → Int64} {v_d_seen : Nat → Int32} {v_d_took : Nat → Int32} {v_d_dryDays : Nat → Int32} {v_d_firstDry : Nat → Int32} {v_d_total : Nat → Int32} {x1 : Int32} {x2 : Int32} {x3 : Int32} {x4 : Int32} {v_m_live : Int32} {v_m_day : Int32} {v_m_pumpMuch : Int32} {v_m_pumpFrom : Int32} {v_m_pumpTo : Int32} {v_m_cells : Nat → Int32} {v_m_room : Nat → Int32} {v_m_passes : Nat → Int32} {v_m_passOne : Nat → Int32} {v_m_passOther : Nat → Int32} {v_m_passWide : Nat → Int32} {v_m_rivers : Nat → Int32} {v_m_riverCell : Nat → Int32} {v_m_riverLevel : Nat → Int32} {v_m_riverWide : Nat → Int32} {v_m_riverSalt : Nat → Int32} {v_m_rains : Nat → Int32} {v_m_rain : Nat → Int32} {v_m_villages : Nat → Int32} {v_m_home : Nat → Int32} {v_m_need : Nat → Int32} {v_m_lawFrom : Nat → Int32} {v_m_lawTo : Nat → Int32} {v_m_code : Nat → Int32} {v_m_codeInt : Nat → Int32} {v_m_now : Nat → Int64} {v_m_isBroken : Int32} {v_m_rowDay : Int32} {v_m_changed : Int32} {v_m_changedAt : Int32} {v_m_pumpCell : Int32} {v_m_takenAll : Int64} {v_m_riversAll : Int64} {v_m_variables : Nat → Int32} {v_m_pile : Nat → Int32} {v_m_row : Nat → Int64} {v_m_wants : Nat → Int32} {v_m_isOff : Nat → Int32} {v_m_wide : Nat → Int32} {v_m_rainNow : Nat → Int32} {v_m_taken : Nat → Int64} {v_m_isDry : Nat → Int32} {v_m_wouldLack : Nat → Int32} {v_m_more : Nat → Int64} {v_m_moreSalt : Nat → Int64} {B : Int} (hB : B ≤ 1980000) (y : DY v_m_live v_m_cells v_m_room v_m_passes v_m_passOne v_m_passOther v_m_rivers v_m_riverCell v_m_riverLevel v_m_riverWide v_m_rains v_m_villages v_m_home v_m_lawFrom v_m_lawTo v_m_code v_m_codeInt) (hne : NE v_m_live v_m_villages v_m_need) (G : GL v_m_live v_g_cells v_g_passes v_g_rivers v_g_villages v_g_rains v_g_room v_g_passFrom v_g_passTo v_g_riverCell v_g_riverLevel v_g_riverSalt v_g_villageCell v_g_need v_g_lawEnd v_g_code v_m_cells v_m_room v_m_passes v_m_passOne v_m_passOther v_m_rivers v_m_riverCell v_m_riverLevel v_m_riverSalt v_m_rains v_m_villages v_m_home v_m_need v_m_lawFrom v_m_lawTo v_m_code v_m_codeInt) (a1 : AL v_g_passWidth v_m_passWide (20 * v_m_live.toNatClampNeg) v_g_passes.toInt) (a2 : AL v_g_riverWidth v_m_riverWide (3 * v_m_live.toNatClampNeg) v_g_rivers.toInt) (a3 : AL v_g_rain v_m_rain (14 * v_m_live.toNatClampNeg) v_g_rains.toInt) (gx : GX v_m_live v_m_passes v_m_passWide v_m_rains v_m_rain) (h : DD v_m_live v_g_cells.toInt v_g_villages.toInt B v_m_cells v_m_room v_n_day v_m_day v_n_water v_n_salt v_n_seen v_n_took v_n_dryDays v_n_firstDry v_n_total v_m_now) (hx1 : CHG x1 x2 v_g_villages.toInt v_g_passes.toInt v_g_rivers.toInt) (hx2 : ¬ (x1 = 0 ∧ x2 = x3)) (d1 : 0 ≤ x3.toInt) (d2 : x3.toInt < v_g_villages.toInt) (e1 : 1 ≤ x4.toInt) (e2 : x4.toInt ≤ 200) : pj (f_X6_saved_b41 v_g_cells v_g_passes v_g_rivers v_g_villages v_g_rains v_g_room v_g_passFrom v_g_passTo v_g_passWidth v_g_riverCell v_g_riverLevel v_g_riverWidth v_g_riverSalt v_g_villageCell v_g_need v_g_lawEnd v_g_code v_g_rain v_p_pumpTakes v_p_pumpFrom v_p_pumpTo v_n_day v_n_water v_n_salt v_n_seen v_n_took v_n_dryDays v_n_firstDry v_n_total v_p_pumpCell v_p_wanting v_p_passWidth v_p_riverWidth v_p_rain v_c_pumped v_c_today v_c_lacked v_c_level v_c_water v_c_salt v_c_stack v_d_day v_d_water v_d_salt v_d_seen v_d_took v_d_dryDays v_d_firstDry v_d_total x1 x2 x3 x4) (f_X7_saved_b38 v_m_live v_m_day v_m_pumpMuch v_m_pumpFrom v_m_pumpTo v_m_cells v_m_room v_m_passes v_m_passOne v_m_passOther v_m_passWide v_m_rivers v_m_riverCell v_m_riverLevel v_m_riverWide v_m_riverSalt v_m_rains v_m_rain v_m_villages v_m_home v_m_need v_m_lawFrom v_m_lawTo v_m_code v_m_codeInt v_m_now v_m_isBroken v_m_rowDay v_m_changed v_m_changedAt v_m_pumpCell v_m_takenAll v_m_riversAll v_m_variables v_m_pile v_m_row v_m_wants v_m_isOff v_m_wide v_m_rainNow v_m_taken v_m_isDry v_m_wouldLack v_m_more v_m_moreSalt x1 x2 x3 x4) (fun a b => a.1 = b.1) := by
  have hv6 := y.2.2.2.1
  rw [G.2.2.2.1] at hv6
  have hv6 : 0 ≤ v_g_villages.toInt ∧ v_g_villages.toInt ≤ 6 := hv6
  have hp20 := y.2.1.1
  rw [G.2.1] at hp20
  have hp20 : 0 ≤ v_g_passes.toInt ∧ v_g_passes.toInt ≤ 20 := hp20
  have hr3 := y.2.1.2.1
  rw [G.2.2.1] at hr3
  have hr3 : 0 ≤ v_g_rivers.toInt ∧ v_g_rivers.toInt ≤ 3 := hr3
  unfold f_X6_saved_b41 f_X7_saved_b38
  refine pj_b13_10 (j_try (v_m_changedAt := v_m_changedAt) (v_m_pumpMuch := v_m_pumpMuch) (v_m_pumpFrom := v_m_pumpFrom) (v_m_pumpTo := v_m_pumpTo) (v_p_pumpTakes := v_p_pumpTakes) (v_p_pumpFrom := v_p_pumpFrom) (v_p_pumpTo := v_p_pumpTo) y G a1 a2 a3 gx h) (fun s0 s1 s2 s3 s4 s5 s6 s7 s8 s9 s10 s11 s12 r0 r1 r2 r3 r4 r5 r6 r7 r8 r9 hT => ?_)
  obtain ⟨tP, tp, tD, t2, t3, t4, t5⟩ := hT
  refine pj_b16_13 (j_lack hB y hne G tp tP tD d1 d2 e1 e2 (OF_told t2 (fun j hj => (t4 j hj).2) d1 (by omega))) (fun l0 l1 l2 l3 l4 l5 l6 l7 l8 l9 l10 l11 l12 l13 l14 l15 m0 m1 m2 m3 m4 m5 m6 m7 m8 m9 m10 m11 m12 hab => ?_)
  have hab : l0 = m0 := hab
  refine pj_b13_10 (j_try (v_m_changedAt := v_m_changedAt) (v_m_pumpMuch := v_m_pumpMuch) (v_m_pumpFrom := v_m_pumpFrom) (v_m_pumpTo := v_m_pumpTo) (v_p_pumpTakes := v_p_pumpTakes) (v_p_pumpFrom := v_p_pumpFrom) (v_p_pumpTo := v_p_pumpTo) y G a1 a2 a3 gx h) (fun u0 u1 u2 u3 u4 u5 u6 u7 u8 u9 u10 u11 u12 v0 v1 v2 v3 v4 v5 v6 v7 v8 v9 hU => ?_)
  obtain ⟨uP, up, uD, u2_, u3_, u4_, u5_⟩ := hU
  refine pj_bl3 (c_chg hv6.2 hp20.2 hr3.2 hx1) (fun c0 c1 c2 hc => ?_)
  have uQ := PLN_chg uP u2_ (fun j hj => (u4_ j hj).2) hv6.2 hc
  have nof : ¬ OF x1 x2 v7 x3 := by
    have ey : (x3.toNatClampNeg : Int) = x3.toInt := cl_k d1
    rintro (q | q)
    · exact q (u4_ x3.toNatClampNeg (by omega)).2
    · exact hx2 q
  refine pj_b16_13 (j_lack hB y hne G up uQ uD d1 d2 e1 e2 nof) (fun n0 n1 n2 n3 n4 n5 n6 n7 n8 n9 n10 n11 n12 n13 n14 n15 o0 o1 o2 o3 o4 o5 o6 o7 o8 o9 o10 o11 o12 hcd => pj_ss ?_)
  have hcd : n0 = o0 := hcd
  show l0 - n0 = m0 - o0
  rw [hab, hcd]
set_option maxHeartbeats 8000000 in
theorem q_saved {v_g_cells : Int32} {v_g_passes : Int32} {v_g_rivers : Int32} {v_g_villages : Int32} {v_g_rains : Int32} {v_g_room : Nat → Int32} {v_g_passFrom : Nat → Int32} {v_g_passTo : Nat → Int32} {v_g_passWidth : Nat → Int32} {v_g_riverCell : Nat → Int32} {v_g_riverLevel : Nat → Int32} {v_g_riverWidth : Nat → Int32} {v_g_riverSalt : Nat → Int32} {v_g_villageCell : Nat → Int32} {v_g_need : Nat → Int32} {v_g_lawEnd : Nat → Int32} {v_g_code : Nat → Int32} {v_g_rain : Nat → Int32} {v_p_pumpTakes : Int32} {v_p_pumpFrom : Int32} {v_p_pumpTo : Int32} {v_n_day : Int32} {v_n_water : Nat → Int32} {v_n_salt : Nat → Int64} {v_n_seen : Nat → Int32} {v_n_took : Nat → Int32} {v_n_dryDays : Nat → Int32} {v_n_firstDry : Nat → Int32} {v_n_total : Nat → Int32} {v_p_pumpCell : Int32} {v_p_wanting : Nat → Int32} {v_p_passWidth : Nat → Int32} {v_p_riverWidth : Nat → Int32} {v_p_rain : Nat → Int32} {v_c_pumped : Int32} {v_c_today : Int32} {v_c_lacked : Nat → Int32} {v_c_level : Nat → Int32} {v_c_water : Nat → Int32} {v_c_salt : Nat → Int64} {v_c_stack : Nat → Int32} {v_d_day : Int32} {v_d_water : Nat → Int32} {v_d_salt : Nat → Int64} {v_d_seen : Nat → Int32} {v_d_took : Nat → Int32} {v_d_dryDays : Nat → Int32} {v_d_firstDry : Nat → Int32} {v_d_total : Nat → Int32} {q1 : Int32} {q2 : Int32} {q3 : Int32} {q4 : Int32} {v_m_live : Int32} {v_m_day : Int32} {v_m_pumpMuch : Int32} {v_m_pumpFrom : Int32} {v_m_pumpTo : Int32} {v_m_cells : Nat → Int32} {v_m_room : Nat → Int32} {v_m_passes : Nat → Int32} {v_m_passOne : Nat → Int32} {v_m_passOther : Nat → Int32} {v_m_passWide : Nat → Int32} {v_m_rivers : Nat → Int32} {v_m_riverCell : Nat → Int32} {v_m_riverLevel : Nat → Int32} {v_m_riverWide : Nat → Int32} {v_m_riverSalt : Nat → Int32} {v_m_rains : Nat → Int32} {v_m_rain : Nat → Int32} {v_m_villages : Nat → Int32} {v_m_home : Nat → Int32} {v_m_need : Nat → Int32} {v_m_lawFrom : Nat → Int32} {v_m_lawTo : Nat → Int32} {v_m_code : Nat → Int32} {v_m_codeInt : Nat → Int32} {v_m_now : Nat → Int64} {v_m_isBroken : Int32} {v_m_rowDay : Int32} {v_m_changed : Int32} {v_m_changedAt : Int32} {v_m_pumpCell : Int32} {v_m_takenAll : Int64} {v_m_riversAll : Int64} {v_m_variables : Nat → Int32} {v_m_pile : Nat → Int32} {v_m_row : Nat → Int64} {v_m_wants : Nat → Int32} {v_m_isOff : Nat → Int32} {v_m_wide : Nat → Int32} {v_m_rainNow : Nat → Int32} {v_m_taken : Nat → Int64} {v_m_isDry : Nat → Int32} {v_m_wouldLack : Nat → Int32} {v_m_more : Nat → Int64} {v_m_moreSalt : Nat → Int64} {B : Int} (hB : B ≤ 1980000) (y : DY v_m_live v_m_cells v_m_room v_m_passes v_m_passOne v_m_passOther v_m_rivers v_m_riverCell v_m_riverLevel v_m_riverWide v_m_rains v_m_villages v_m_home v_m_lawFrom v_m_lawTo v_m_code v_m_codeInt) (hne : NE v_m_live v_m_villages v_m_need) (G : GL v_m_live v_g_cells v_g_passes v_g_rivers v_g_villages v_g_rains v_g_room v_g_passFrom v_g_passTo v_g_riverCell v_g_riverLevel v_g_riverSalt v_g_villageCell v_g_need v_g_lawEnd v_g_code v_m_cells v_m_room v_m_passes v_m_passOne v_m_passOther v_m_rivers v_m_riverCell v_m_riverLevel v_m_riverSalt v_m_rains v_m_villages v_m_home v_m_need v_m_lawFrom v_m_lawTo v_m_code v_m_codeInt) (a1 : AL v_g_passWidth v_m_passWide (20 * v_m_live.toNatClampNeg) v_g_passes.toInt) (a2 : AL v_g_riverWidth v_m_riverWide (3 * v_m_live.toNatClampNeg) v_g_rivers.toInt) (a3 : AL v_g_rain v_m_rain (14 * v_m_live.toNatClampNeg) v_g_rains.toInt) (gx : GX v_m_live v_m_passes v_m_passWide v_m_rains v_m_rain) (h : DD v_m_live v_g_cells.toInt v_g_villages.toInt B v_m_cells v_m_room v_n_day v_m_day v_n_water v_n_salt v_n_seen v_n_took v_n_dryDays v_n_firstDry v_n_total v_m_now) : pj (f_X6_saved v_g_cells v_g_passes v_g_rivers v_g_villages v_g_rains v_g_room v_g_passFrom v_g_passTo v_g_passWidth v_g_riverCell v_g_riverLevel v_g_riverWidth v_g_riverSalt v_g_villageCell v_g_need v_g_lawEnd v_g_code v_g_rain v_p_pumpTakes v_p_pumpFrom v_p_pumpTo v_n_day v_n_water v_n_salt v_n_seen v_n_took v_n_dryDays v_n_firstDry v_n_total v_p_pumpCell v_p_wanting v_p_passWidth v_p_riverWidth v_p_rain v_c_pumped v_c_today v_c_lacked v_c_level v_c_water v_c_salt v_c_stack v_d_day v_d_water v_d_salt v_d_seen v_d_took v_d_dryDays v_d_firstDry v_d_total q1 q2 q3 q4) (f_X7_saved v_m_live v_m_day v_m_pumpMuch v_m_pumpFrom v_m_pumpTo v_m_cells v_m_room v_m_passes v_m_passOne v_m_passOther v_m_passWide v_m_rivers v_m_riverCell v_m_riverLevel v_m_riverWide v_m_riverSalt v_m_rains v_m_rain v_m_villages v_m_home v_m_need v_m_lawFrom v_m_lawTo v_m_code v_m_codeInt v_m_now v_m_isBroken v_m_rowDay v_m_changed v_m_changedAt v_m_pumpCell v_m_takenAll v_m_riversAll v_m_variables v_m_pile v_m_row v_m_wants v_m_isOff v_m_wide v_m_rainNow v_m_taken v_m_isDry v_m_wouldLack v_m_more v_m_moreSalt q1 q2 q3 q4) (fun a b => a.1 = b.1) := by
  unfold f_X6_saved f_X7_saved
  have hv6 := y.2.2.2.1
  rw [G.2.2.2.1] at hv6
  have hv6 : 0 ≤ v_g_villages.toInt ∧ v_g_villages.toInt ≤ 6 := hv6
  have hp20 := y.2.1.1
  rw [G.2.1] at hp20
  have hp20 : 0 ≤ v_g_passes.toInt ∧ v_g_passes.toInt ≤ 20 := hp20
  have hr3 := y.2.1.2.1
  rw [G.2.2.1] at hr3
  have hr3 : 0 ≤ v_g_rivers.toInt ∧ v_g_rivers.toInt ≤ 3 := hr3
  refine pj_bb (j_isCh G.2.1 G.2.2.1 G.2.2.2.1 hp20 hr3 hv6) (fun a b hab => ?_)
  rcases hab with ⟨rfl, rfl⟩ | ⟨rfl, rfl, hc⟩
  · exact pj_ifl (fun _ => pj_ifr (fun _ => pj_ss rfl) (fun z => absurd rfl z)) (fun z => absurd rfl z)
  refine pj_ifl (fun z => absurd z (by decide)) (fun _ => pj_ifr (fun z => absurd z (by decide)) (fun _ => ?_))
  refine pj_G (j_isV G.2.2.2.1 hv6) (pj_ss rfl) (fun d1 d2 => pj_G (j_isD q4) (pj_ss rfl) (fun e1 e2 => ?_))
  refine pj_ifl (fun z => pj_ifr (fun _ => pj_ifl (fun k => pj_ifr (fun _ => pj_ss rfl) (fun l => absurd k l)) (fun k => pj_ifr (fun l => absurd l k) (fun _ => ?_))) (fun l => absurd z l)) (fun z => pj_ifr (fun l => absurd l z) (fun _ => ?_))
  · exact j_saved hB y hne G a1 a2 a3 gx h hc (fun q => k q.2) d1 (by omega) e1 e2
  · exact j_saved hB y hne G a1 a2 a3 gx h hc (fun q => z q.1) d1 (by omega) e1 e2
