/-! hidden: the class's explains -/
def S0 (gw : Nat → Int32) : CS := (0, 0, fun _ => 0, fun _ => 0, fun _ => 0, fun _ => 0, fun _ => 0, 0, gw, fun _ => 0, fun _ => 0, fun _ => 0, fun _ => 0, fun _ => -2, fun _ => 0)
theorem BGS_S0 (gw : Nat → Int32) : BGS gw (S0 gw) := ⟨rfl, fun _ _ => ⟨rfl, rfl, rfl⟩, fun _ _ => ⟨rfl, rfl, rfl, rfl⟩⟩
/-- the plan as told -/
def SETT (p1 p2 p3 p4 pw rw rn : Nat → Int32) : Prop := (∀ i, i < 6 → p1 i = -1) ∧ (∀ i, i < 20 → p2 i = pw i) ∧ (∀ i, i < 3 → p3 i = rw i) ∧ ∀ i, i < 14 → p4 i = rn i
/-- the class's day by the text as told, with a pump -/
def cT (v_g_cells : Int32) (v_g_passes : Int32) (v_g_rivers : Int32) (v_g_villages : Int32) (v_g_rains : Int32) (v_g_room : Nat → Int32) (v_g_passFrom : Nat → Int32) (v_g_passTo : Nat → Int32) (v_g_riverCell : Nat → Int32) (v_g_riverLevel : Nat → Int32) (v_g_riverSalt : Nat → Int32) (v_g_villageCell : Nat → Int32) (v_g_need : Nat → Int32) (v_g_lawEnd : Nat → Int32) (v_g_code : Nat → Int32) (v_g_passWidth : Nat → Int32) (v_g_riverWidth : Nat → Int32) (v_g_rain : Nat → Int32) (pc px pf pt : Int32) : CS → Option CS := cDay v_g_cells v_g_passes v_g_rivers v_g_villages v_g_rains v_g_room v_g_passFrom v_g_passTo v_g_riverCell v_g_riverLevel v_g_riverSalt v_g_villageCell v_g_need v_g_lawEnd v_g_code pc px pf pt (fun _ => -1) v_g_passWidth v_g_riverWidth v_g_rain
/-- with this pump all that is known is so -/
def FP (v_e_toldDay : Nat → Int32) (v_e_toldCell : Nat → Int32) (v_e_toldLevel : Nat → Int32) (v_g_cells : Int32) (v_g_passes : Int32) (v_g_rivers : Int32) (v_g_villages : Int32) (v_g_rains : Int32) (v_g_room : Nat → Int32) (v_g_passFrom : Nat → Int32) (v_g_passTo : Nat → Int32) (v_g_riverCell : Nat → Int32) (v_g_riverLevel : Nat → Int32) (v_g_riverSalt : Nat → Int32) (v_g_villageCell : Nat → Int32) (v_g_need : Nat → Int32) (v_g_lawEnd : Nat → Int32) (v_g_code : Nat → Int32) (v_g_water : Nat → Int32) (v_g_passWidth : Nat → Int32) (v_g_riverWidth : Nat → Int32) (v_g_rain : Nat → Int32) (k : Int) (pc px pf pt : Int32) : Prop := FITS v_e_toldDay v_e_toldCell v_e_toldLevel v_g_room k (cT v_g_cells v_g_passes v_g_rivers v_g_villages v_g_rains v_g_room v_g_passFrom v_g_passTo v_g_riverCell v_g_riverLevel v_g_riverSalt v_g_villageCell v_g_need v_g_lawEnd v_g_code v_g_passWidth v_g_riverWidth v_g_rain pc px pf pt) (S0 v_g_water)
/-- the class's day always is -/
def TOT (v_g_cells : Int32) (v_g_passes : Int32) (v_g_rivers : Int32) (v_g_villages : Int32) (v_g_rains : Int32) (v_g_room : Nat → Int32) (v_g_passFrom : Nat → Int32) (v_g_passTo : Nat → Int32) (v_g_riverCell : Nat → Int32) (v_g_riverLevel : Nat → Int32) (v_g_riverSalt : Nat → Int32) (v_g_villageCell : Nat → Int32) (v_g_need : Nat → Int32) (v_g_lawEnd : Nat → Int32) (v_g_code : Nat → Int32) : Prop := ∀ (pc px pf pt : Int32) (p1 p2 p3 p4 : Nat → Int32), -1 ≤ pc.toInt ∧ pc.toInt ≤ 11 → 0 ≤ pf.toInt ∧ pf.toInt ≤ 13 → ∀ s, ∃ t, (cDay v_g_cells v_g_passes v_g_rivers v_g_villages v_g_rains v_g_room v_g_passFrom v_g_passTo v_g_riverCell v_g_riverLevel v_g_riverSalt v_g_villageCell v_g_need v_g_lawEnd v_g_code pc px pf pt p1 p2 p3 p4) s = some t
theorem PLN_pmp {live ch ca_ pc pm pf pt gpc gtk gfr gto qc qm qf qt : Int32} {vi pp ri ra : Int} {wanting pwc rwc rnc wants off wide rain rw : Nat → Int32} (h : PLN live ch ca_ vi pp ri ra pc pm pf pt gpc gtk gfr gto wanting pwc rwc rnc wants off wide rain rw) (h0 : -1 ≤ qc.toInt) : PLN live ch ca_ vi pp ri ra qc qm qf qt qc qm qf qt wanting pwc rwc rnc wants off wide rain rw := ⟨h.1, h.2.1, h.2.2.1, h.2.2.2.1, rfl, h0, fun _ => ⟨rfl, rfl, rfl⟩⟩
theorem PN_pmp {live pc pm qc qm : Int32} {cells passes rains wants wide rain : Nat → Int32} (h : PN live cells passes rains wants wide rain pc pm) (h0 : qc.toInt < nC live cells) (h1 : 0 ≤ qc.toInt → 0 ≤ qm.toInt) : PN live cells passes rains wants wide rain qc qm := ⟨h.1, h.2.1, h.2.2.1, h0, h1⟩
set_option maxHeartbeats 8000000 in
theorem two_step {v_g_cells : Int32} {v_g_passes : Int32} {v_g_rivers : Int32} {v_g_villages : Int32} {v_g_rains : Int32} {v_g_room : Nat → Int32} {v_g_passFrom : Nat → Int32} {v_g_passTo : Nat → Int32} {v_g_riverCell : Nat → Int32} {v_g_riverLevel : Nat → Int32} {v_g_riverSalt : Nat → Int32} {v_g_villageCell : Nat → Int32} {v_g_need : Nat → Int32} {v_g_lawEnd : Nat → Int32} {v_g_code : Nat → Int32} {v_m_live : Int32} {v_m_cells : Nat → Int32} {v_m_room : Nat → Int32} {v_m_passes : Nat → Int32} {v_m_passOne : Nat → Int32} {v_m_passOther : Nat → Int32} {v_m_rivers : Nat → Int32} {v_m_riverCell : Nat → Int32} {v_m_riverLevel : Nat → Int32} {v_m_riverWide : Nat → Int32} {v_m_riverSalt : Nat → Int32} {v_m_rains : Nat → Int32} {v_m_villages : Nat → Int32} {v_m_home : Nat → Int32} {v_m_need : Nat → Int32} {v_m_lawFrom : Nat → Int32} {v_m_lawTo : Nat → Int32} {v_m_code : Nat → Int32} {v_m_codeInt : Nat → Int32} {v_g_passWidth : Nat → Int32} {v_g_riverWidth : Nat → Int32} {v_g_rain : Nat → Int32} {v_m_passWide : Nat → Int32} {v_m_rain : Nat → Int32} {v_m_water : Nat → Int32} {v_g_water : Nat → Int32} {B : Int} (hB : B ≤ 1980000) (y : DY v_m_live v_m_cells v_m_room v_m_passes v_m_passOne v_m_passOther v_m_rivers v_m_riverCell v_m_riverLevel v_m_riverWide v_m_rains v_m_villages v_m_home v_m_lawFrom v_m_lawTo v_m_code v_m_codeInt) (hne : NE v_m_live v_m_villages v_m_need) (G : GL v_m_live v_g_cells v_g_passes v_g_rivers v_g_villages v_g_rains v_g_room v_g_passFrom v_g_passTo v_g_riverCell v_g_riverLevel v_g_riverSalt v_g_villageCell v_g_need v_g_lawEnd v_g_code v_m_cells v_m_room v_m_passes v_m_passOne v_m_passOther v_m_rivers v_m_riverCell v_m_riverLevel v_m_riverSalt v_m_rains v_m_villages v_m_home v_m_need v_m_lawFrom v_m_lawTo v_m_code v_m_codeInt) (a1 : AL v_g_passWidth v_m_passWide (20 * v_m_live.toNatClampNeg) v_g_passes.toInt) (a2 : AL v_g_riverWidth v_m_riverWide (3 * v_m_live.toNatClampNeg) v_g_rivers.toInt) (a3 : AL v_g_rain v_m_rain (14 * v_m_live.toNatClampNeg) v_g_rains.toInt) (gx : GX v_m_live v_m_passes v_m_passWide v_m_rains v_m_rain) (hwa : WA v_m_live v_m_cells v_m_water) (gw : AL v_g_water v_m_water (12 * v_m_live.toNatClampNeg) v_g_cells.toInt) {pc px pf pt : Int32} {p1 p2 p3 p4 : Nat → Int32} (hpc : -1 ≤ pc.toInt ∧ pc.toInt < v_g_cells.toInt) (hpx : 0 ≤ px.toInt) (hs : SETT p1 p2 p3 p4 v_g_passWidth v_g_riverWidth v_g_rain) {s t s' t' : CS} (h : TWO v_m_live v_g_cells.toInt v_g_villages.toInt (B) v_m_cells v_m_room s t) (hs' : (cDay v_g_cells v_g_passes v_g_rivers v_g_villages v_g_rains v_g_room v_g_passFrom v_g_passTo v_g_riverCell v_g_riverLevel v_g_riverSalt v_g_villageCell v_g_need v_g_lawEnd v_g_code pc px pf pt p1 p2 p3 p4) s = some s') (ht' : (cT v_g_cells v_g_passes v_g_rivers v_g_villages v_g_rains v_g_room v_g_passFrom v_g_passTo v_g_riverCell v_g_riverLevel v_g_riverSalt v_g_villageCell v_g_need v_g_lawEnd v_g_code v_g_passWidth v_g_riverWidth v_g_rain pc px pf pt) t = some t') : TWO v_m_live v_g_cells.toInt v_g_villages.toInt (B + 1) v_m_cells v_m_room s' t' := by
  have hc12 := y.1.2.1
  rw [G.1] at hc12
  have hc12 : 0 ≤ v_g_cells.toInt ∧ v_g_cells.toInt ≤ 12 := hc12
  obtain ⟨o, ho, hPN, hRD, _⟩ := t_X7_begins v_m_live v_m_cells v_m_water v_m_passWide v_m_rain 0 0 0 0 0 (fun _ => 0) (fun _ => 0) (fun _ => 0) (fun _ => 0) (fun _ => 0) (pm := px) y gx hwa
  have hm := m_beg y.1.1 G.1 hc12 o ho
  obtain ⟨r0, r1, r2, r3, r4, r5, r6, r7, r8, r9⟩ := o
  have hn : pc.toInt < nC v_m_live v_m_cells := by unfold nC; rw [G.1]; exact hpc.2
  obtain ⟨P1, n1, _⟩ := BGF (p0 := -1) (p1 := p1) (p2 := p2) (p3 := p3) (p4 := p4) (d0 := 0) (d1 := v_g_water) (d2 := (fun _ => 0)) (d3 := (fun _ => 0)) (d4 := (fun _ => 0)) (d5 := (fun _ => 0)) (d6 := (fun _ => -2)) (d7 := (fun _ => 0)) (r0 := r0) (r1 := r1) (r2 := r2) (r5 := r5) (r6 := r6) (r7 := r7) (r8 := r8) (r9 := r9) (v_m_changedAt := 0) (v_m_pumpMuch := px) (v_m_pumpFrom := pf) (v_m_pumpTo := pt) (v_p_pumpTakes := px) (v_p_pumpFrom := pf) (v_p_pumpTo := pt) y G a1 a2 a3 hwa gw ⟨rfl, hs⟩ ⟨rfl, fun _ _ => ⟨rfl, rfl, rfl⟩, fun _ _ => ⟨rfl, rfl, rfl, rfl⟩⟩ hm ⟨hPN, hRD, trivial⟩
  obtain ⟨P2, _, _⟩ := BGF (p0 := -1) (p1 := (fun _ => -1)) (p2 := v_g_passWidth) (p3 := v_g_riverWidth) (p4 := v_g_rain) (d0 := 0) (d1 := v_g_water) (d2 := (fun _ => 0)) (d3 := (fun _ => 0)) (d4 := (fun _ => 0)) (d5 := (fun _ => 0)) (d6 := (fun _ => -2)) (d7 := (fun _ => 0)) (r0 := r0) (r1 := r1) (r2 := r2) (r5 := r5) (r6 := r6) (r7 := r7) (r8 := r8) (r9 := r9) (v_m_changedAt := 0) (v_m_pumpMuch := px) (v_m_pumpFrom := pf) (v_m_pumpTo := pt) (v_p_pumpTakes := px) (v_p_pumpFrom := pf) (v_p_pumpTo := pt) y G a1 a2 a3 hwa gw ⟨rfl, fun _ _ => rfl, fun _ _ => rfl, fun _ _ => rfl, fun _ _ => rfl⟩ ⟨rfl, fun _ _ => ⟨rfl, rfl, rfl⟩, fun _ _ => ⟨rfl, rfl, rfl, rfl⟩⟩ hm ⟨hPN, hRD, trivial⟩
  exact two_day hB y hne G (PN_pmp n1 hn (fun _ => hpx)) (PLN_pmp P1 hpc.1) (PLN_pmp P2 hpc.1) h hs' ht'
set_option maxHeartbeats 8000000 in
theorem two_beg {v_g_cells : Int32} {v_g_passes : Int32} {v_g_rivers : Int32} {v_g_villages : Int32} {v_g_rains : Int32} {v_g_room : Nat → Int32} {v_g_passFrom : Nat → Int32} {v_g_passTo : Nat → Int32} {v_g_riverCell : Nat → Int32} {v_g_riverLevel : Nat → Int32} {v_g_riverSalt : Nat → Int32} {v_g_villageCell : Nat → Int32} {v_g_need : Nat → Int32} {v_g_lawEnd : Nat → Int32} {v_g_code : Nat → Int32} {v_m_live : Int32} {v_m_cells : Nat → Int32} {v_m_room : Nat → Int32} {v_m_passes : Nat → Int32} {v_m_passOne : Nat → Int32} {v_m_passOther : Nat → Int32} {v_m_rivers : Nat → Int32} {v_m_riverCell : Nat → Int32} {v_m_riverLevel : Nat → Int32} {v_m_riverWide : Nat → Int32} {v_m_riverSalt : Nat → Int32} {v_m_rains : Nat → Int32} {v_m_villages : Nat → Int32} {v_m_home : Nat → Int32} {v_m_need : Nat → Int32} {v_m_lawFrom : Nat → Int32} {v_m_lawTo : Nat → Int32} {v_m_code : Nat → Int32} {v_m_codeInt : Nat → Int32} {v_g_passWidth : Nat → Int32} {v_g_riverWidth : Nat → Int32} {v_g_rain : Nat → Int32} {v_m_passWide : Nat → Int32} {v_m_rain : Nat → Int32} {v_m_water : Nat → Int32} {v_g_water : Nat → Int32} (y : DY v_m_live v_m_cells v_m_room v_m_passes v_m_passOne v_m_passOther v_m_rivers v_m_riverCell v_m_riverLevel v_m_riverWide v_m_rains v_m_villages v_m_home v_m_lawFrom v_m_lawTo v_m_code v_m_codeInt) (hne : NE v_m_live v_m_villages v_m_need) (G : GL v_m_live v_g_cells v_g_passes v_g_rivers v_g_villages v_g_rains v_g_room v_g_passFrom v_g_passTo v_g_riverCell v_g_riverLevel v_g_riverSalt v_g_villageCell v_g_need v_g_lawEnd v_g_code v_m_cells v_m_room v_m_passes v_m_passOne v_m_passOther v_m_rivers v_m_riverCell v_m_riverLevel v_m_riverSalt v_m_rains v_m_villages v_m_home v_m_need v_m_lawFrom v_m_lawTo v_m_code v_m_codeInt) (a1 : AL v_g_passWidth v_m_passWide (20 * v_m_live.toNatClampNeg) v_g_passes.toInt) (a2 : AL v_g_riverWidth v_m_riverWide (3 * v_m_live.toNatClampNeg) v_g_rivers.toInt) (a3 : AL v_g_rain v_m_rain (14 * v_m_live.toNatClampNeg) v_g_rains.toInt) (gx : GX v_m_live v_m_passes v_m_passWide v_m_rains v_m_rain) (hwa : WA v_m_live v_m_cells v_m_water) (gw : AL v_g_water v_m_water (12 * v_m_live.toNatClampNeg) v_g_cells.toInt) {s t : CS} (hs : BGS v_g_water s) (ht : BGS v_g_water t) : TWO v_m_live v_g_cells.toInt v_g_villages.toInt (0) v_m_cells v_m_room s t := by
  have hc12 := y.1.2.1
  rw [G.1] at hc12
  have hc12 : 0 ≤ v_g_cells.toInt ∧ v_g_cells.toInt ≤ 12 := hc12
  obtain ⟨o, ho, hPN, hRD, _⟩ := t_X7_begins v_m_live v_m_cells v_m_water v_m_passWide v_m_rain 0 0 0 0 0 (fun _ => 0) (fun _ => 0) (fun _ => 0) (fun _ => 0) (fun _ => 0) (pm := 0) y gx hwa
  have hm := m_beg y.1.1 G.1 hc12 o ho
  obtain ⟨r0, r1, r2, r3, r4, r5, r6, r7, r8, r9⟩ := o
  have n0 : (0 : Int32) = 0 := rfl
  obtain ⟨_, _, k1⟩ := BGF (p0 := -1) (p1 := (fun _ => -1)) (p2 := v_g_passWidth) (p3 := v_g_riverWidth) (p4 := v_g_rain) (d0 := (s.2.2.2.2.2.2.2.1)) (d1 := (s.2.2.2.2.2.2.2.2.1)) (d2 := (s.2.2.2.2.2.2.2.2.2.1)) (d3 := (s.2.2.2.2.2.2.2.2.2.2.1)) (d4 := (s.2.2.2.2.2.2.2.2.2.2.2.1)) (d5 := (s.2.2.2.2.2.2.2.2.2.2.2.2.1)) (d6 := (s.2.2.2.2.2.2.2.2.2.2.2.2.2.1)) (d7 := (s.2.2.2.2.2.2.2.2.2.2.2.2.2.2)) (r0 := r0) (r1 := r1) (r2 := r2) (r5 := r5) (r6 := r6) (r7 := r7) (r8 := r8) (r9 := r9) (v_m_changedAt := 0) (v_m_pumpMuch := 0) (v_m_pumpFrom := 0) (v_m_pumpTo := 0) (v_p_pumpTakes := 0) (v_p_pumpFrom := 0) (v_p_pumpTo := 0) y G a1 a2 a3 hwa gw ⟨rfl, fun _ _ => rfl, fun _ _ => rfl, fun _ _ => rfl, fun _ _ => rfl⟩ hs hm ⟨hPN, hRD, trivial⟩
  obtain ⟨_, _, k2⟩ := BGF (p0 := -1) (p1 := (fun _ => -1)) (p2 := v_g_passWidth) (p3 := v_g_riverWidth) (p4 := v_g_rain) (d0 := (t.2.2.2.2.2.2.2.1)) (d1 := (t.2.2.2.2.2.2.2.2.1)) (d2 := (t.2.2.2.2.2.2.2.2.2.1)) (d3 := (t.2.2.2.2.2.2.2.2.2.2.1)) (d4 := (t.2.2.2.2.2.2.2.2.2.2.2.1)) (d5 := (t.2.2.2.2.2.2.2.2.2.2.2.2.1)) (d6 := (t.2.2.2.2.2.2.2.2.2.2.2.2.2.1)) (d7 := (t.2.2.2.2.2.2.2.2.2.2.2.2.2.2)) (r0 := r0) (r1 := r1) (r2 := r2) (r5 := r5) (r6 := r6) (r7 := r7) (r8 := r8) (r9 := r9) (v_m_changedAt := 0) (v_m_pumpMuch := 0) (v_m_pumpFrom := 0) (v_m_pumpTo := 0) (v_p_pumpTakes := 0) (v_p_pumpFrom := 0) (v_p_pumpTo := 0) y G a1 a2 a3 hwa gw ⟨rfl, fun _ _ => rfl, fun _ _ => rfl, fun _ _ => rfl, fun _ _ => rfl⟩ ht hm ⟨hPN, hRD, trivial⟩
  exact ⟨_, _, k1, k2⟩
theorem two_its {v_g_cells : Int32} {v_g_passes : Int32} {v_g_rivers : Int32} {v_g_villages : Int32} {v_g_rains : Int32} {v_g_room : Nat → Int32} {v_g_passFrom : Nat → Int32} {v_g_passTo : Nat → Int32} {v_g_riverCell : Nat → Int32} {v_g_riverLevel : Nat → Int32} {v_g_riverSalt : Nat → Int32} {v_g_villageCell : Nat → Int32} {v_g_need : Nat → Int32} {v_g_lawEnd : Nat → Int32} {v_g_code : Nat → Int32} {v_m_live : Int32} {v_m_cells : Nat → Int32} {v_m_room : Nat → Int32} {v_m_passes : Nat → Int32} {v_m_passOne : Nat → Int32} {v_m_passOther : Nat → Int32} {v_m_rivers : Nat → Int32} {v_m_riverCell : Nat → Int32} {v_m_riverLevel : Nat → Int32} {v_m_riverWide : Nat → Int32} {v_m_riverSalt : Nat → Int32} {v_m_rains : Nat → Int32} {v_m_villages : Nat → Int32} {v_m_home : Nat → Int32} {v_m_need : Nat → Int32} {v_m_lawFrom : Nat → Int32} {v_m_lawTo : Nat → Int32} {v_m_code : Nat → Int32} {v_m_codeInt : Nat → Int32} {v_g_passWidth : Nat → Int32} {v_g_riverWidth : Nat → Int32} {v_g_rain : Nat → Int32} {v_m_passWide : Nat → Int32} {v_m_rain : Nat → Int32} {v_m_water : Nat → Int32} {v_g_water : Nat → Int32} {B : Int} (y : DY v_m_live v_m_cells v_m_room v_m_passes v_m_passOne v_m_passOther v_m_rivers v_m_riverCell v_m_riverLevel v_m_riverWide v_m_rains v_m_villages v_m_home v_m_lawFrom v_m_lawTo v_m_code v_m_codeInt) (hne : NE v_m_live v_m_villages v_m_need) (G : GL v_m_live v_g_cells v_g_passes v_g_rivers v_g_villages v_g_rains v_g_room v_g_passFrom v_g_passTo v_g_riverCell v_g_riverLevel v_g_riverSalt v_g_villageCell v_g_need v_g_lawEnd v_g_code v_m_cells v_m_room v_m_passes v_m_passOne v_m_passOther v_m_rivers v_m_riverCell v_m_riverLevel v_m_riverSalt v_m_rains v_m_villages v_m_home v_m_need v_m_lawFrom v_m_lawTo v_m_code v_m_codeInt) (a1 : AL v_g_passWidth v_m_passWide (20 * v_m_live.toNatClampNeg) v_g_passes.toInt) (a2 : AL v_g_riverWidth v_m_riverWide (3 * v_m_live.toNatClampNeg) v_g_rivers.toInt) (a3 : AL v_g_rain v_m_rain (14 * v_m_live.toNatClampNeg) v_g_rains.toInt) (gx : GX v_m_live v_m_passes v_m_passWide v_m_rains v_m_rain) (hwa : WA v_m_live v_m_cells v_m_water) (gw : AL v_g_water v_m_water (12 * v_m_live.toNatClampNeg) v_g_cells.toInt) {pc px pf pt : Int32} {p1 p2 p3 p4 : Nat → Int32} (hpc : -1 ≤ pc.toInt ∧ pc.toInt < v_g_cells.toInt) (hpx : 0 ≤ px.toInt) (hs : SETT p1 p2 p3 p4 v_g_passWidth v_g_riverWidth v_g_rain) {s t : CS} (h : TWO v_m_live v_g_cells.toInt v_g_villages.toInt (B) v_m_cells v_m_room s t) : ∀ (n : Nat) (s' t' : CS), B + (n : Int) ≤ 1980000 → itN (cDay v_g_cells v_g_passes v_g_rivers v_g_villages v_g_rains v_g_room v_g_passFrom v_g_passTo v_g_riverCell v_g_riverLevel v_g_riverSalt v_g_villageCell v_g_need v_g_lawEnd v_g_code pc px pf pt p1 p2 p3 p4) n s = some s' → itN (cT v_g_cells v_g_passes v_g_rivers v_g_villages v_g_rains v_g_room v_g_passFrom v_g_passTo v_g_riverCell v_g_riverLevel v_g_riverSalt v_g_villageCell v_g_need v_g_lawEnd v_g_code v_g_passWidth v_g_riverWidth v_g_rain pc px pf pt) n t = some t' → TWO v_m_live v_g_cells.toInt v_g_villages.toInt (B + (n : Int)) v_m_cells v_m_room s' t' := by
  intro n
  induction n with
  | zero =>
    intro s' t' _ es et
    have es : s = s' := Option.some.inj es
    have et : t = t' := Option.some.inj et
    subst es et
    rw [show B + ((0 : Nat) : Int) = B by omega]
    exact h
  | succ n ih =>
    intro s' t' hn es et
    obtain ⟨u, hu, es⟩ := bd_some (show bd (itN (cDay v_g_cells v_g_passes v_g_rivers v_g_villages v_g_rains v_g_room v_g_passFrom v_g_passTo v_g_riverCell v_g_riverLevel v_g_riverSalt v_g_villageCell v_g_need v_g_lawEnd v_g_code pc px pf pt p1 p2 p3 p4) n s) (cDay v_g_cells v_g_passes v_g_rivers v_g_villages v_g_rains v_g_room v_g_passFrom v_g_passTo v_g_riverCell v_g_riverLevel v_g_riverSalt v_g_villageCell v_g_need v_g_lawEnd v_g_code pc px pf pt p1 p2 p3 p4) = some s' from es)
    obtain ⟨x, hx, et⟩ := bd_some (show bd (itN (cT v_g_cells v_g_passes v_g_rivers v_g_villages v_g_rains v_g_room v_g_passFrom v_g_passTo v_g_riverCell v_g_riverLevel v_g_riverSalt v_g_villageCell v_g_need v_g_lawEnd v_g_code v_g_passWidth v_g_riverWidth v_g_rain pc px pf pt) n t) (cT v_g_cells v_g_passes v_g_rivers v_g_villages v_g_rains v_g_room v_g_passFrom v_g_passTo v_g_riverCell v_g_riverLevel v_g_riverSalt v_g_villageCell v_g_need v_g_lawEnd v_g_code v_g_passWidth v_g_riverWidth v_g_rain pc px pf pt) = some t' from et)
    have r := two_step (B := B + (n : Int)) (by omega) y hne G a1 a2 a3 gx hwa gw hpc hpx hs (ih u x (by omega) hu hx) es et
    rw [show B + ((n + 1 : Nat) : Int) = B + (n : Int) + 1 by omega]
    exact r
theorem TWO_cp {live : Int32} {ce vi B : Int} {cells mro : Nat → Int32} {s s' t : CS} (hc : ce ≤ 12) (hv6 : vi ≤ 6) (h : TWO live ce vi B cells mro s t) (h0 : s'.2.2.2.2.2.2.2.1 = s.2.2.2.2.2.2.2.1) (h1 : ∀ i, i < 12 → s'.2.2.2.2.2.2.2.2.1 i = s.2.2.2.2.2.2.2.2.1 i ∧ s'.2.2.2.2.2.2.2.2.2.1 i = s.2.2.2.2.2.2.2.2.2.1 i ∧ s'.2.2.2.2.2.2.2.2.2.2.1 i = s.2.2.2.2.2.2.2.2.2.2.1 i) (h2 : ∀ i, i < 6 → s'.2.2.2.2.2.2.2.2.2.2.2.1 i = s.2.2.2.2.2.2.2.2.2.2.2.1 i ∧ s'.2.2.2.2.2.2.2.2.2.2.2.2.1 i = s.2.2.2.2.2.2.2.2.2.2.2.2.1 i ∧ s'.2.2.2.2.2.2.2.2.2.2.2.2.2.1 i = s.2.2.2.2.2.2.2.2.2.2.2.2.2.1 i ∧ s'.2.2.2.2.2.2.2.2.2.2.2.2.2.2 i = s.2.2.2.2.2.2.2.2.2.2.2.2.2.2 i) : TWO live ce vi B cells mro s' t := by
  obtain ⟨row, rd, k1, k2⟩ := h
  exact ⟨row, rd, ⟨h0.trans k1.1, k1.2.1, DA_cp hc hv6 k1.2.2 h1 h2 (fun _ _ => rfl)⟩, k2⟩
theorem TWO_2 {live : Int32} {ce vi B : Int} {cells mro : Nat → Int32} {s s' t : CS} (h : TWO live ce vi B cells mro s t) (e : s.2 = s'.2) : TWO live ce vi B cells mro s' t := by
  obtain ⟨a, b⟩ := s
  obtain ⟨a', b'⟩ := s'
  have e : b = b' := e
  subst e
  exact h
theorem TWO_mono {live : Int32} {ce vi B C : Int} {cells mro : Nat → Int32} {s t : CS} (h : TWO live ce vi B cells mro s t) (hB : B ≤ C) : TWO live ce vi C cells mro s t := by
  obtain ⟨row, rd, k1, k2⟩ := h
  exact ⟨row, rd, DD_mono k1 hB, DD_mono k2 hB⟩
theorem cD_same {v_g_cells : Int32} {v_g_passes : Int32} {v_g_rivers : Int32} {v_g_villages : Int32} {v_g_rains : Int32} {v_g_room : Nat → Int32} {v_g_passFrom : Nat → Int32} {v_g_passTo : Nat → Int32} {v_g_riverCell : Nat → Int32} {v_g_riverLevel : Nat → Int32} {v_g_riverSalt : Nat → Int32} {v_g_villageCell : Nat → Int32} {v_g_need : Nat → Int32} {v_g_lawEnd : Nat → Int32} {v_g_code : Nat → Int32} {pc px pf pt pf2 pt2 : Int32} {p1 p2 p3 p4 : Nat → Int32} {s : CS} (h : f_X4_pumpsOn pc pf pt (s.2.2.2.2.2.2.2.1) = f_X4_pumpsOn pc pf2 pt2 (s.2.2.2.2.2.2.2.1)) : (cDay v_g_cells v_g_passes v_g_rivers v_g_villages v_g_rains v_g_room v_g_passFrom v_g_passTo v_g_riverCell v_g_riverLevel v_g_riverSalt v_g_villageCell v_g_need v_g_lawEnd v_g_code pc px pf pt p1 p2 p3 p4) s = (cDay v_g_cells v_g_passes v_g_rivers v_g_villages v_g_rains v_g_room v_g_passFrom v_g_passTo v_g_riverCell v_g_riverLevel v_g_riverSalt v_g_villageCell v_g_need v_g_lawEnd v_g_code pc px pf2 pt2 p1 p2 p3 p4) s := by
  have k : ∀ (cp : Int32) (wa : Nat → Int32) (sa : Nat → Int64), f_X0_takeByPump pc px pf pt (s.2.2.2.2.2.2.2.1) cp wa sa = f_X0_takeByPump pc px pf2 pt2 (s.2.2.2.2.2.2.2.1) cp wa sa := fun cp wa sa => by
    unfold f_X0_takeByPump
    rw [h]
  unfold cDay un15 f_X0_oneDay
  simp only [k]
theorem pon_hi2 {pc pf pt pt2 d : Int32} (h1 : d.toInt ≤ pt.toInt) (h2 : d.toInt ≤ pt2.toInt) : f_X4_pumpsOn pc pf pt d = f_X4_pumpsOn pc pf pt2 d := by
  unfold f_X4_pumpsOn
  by_cases a : pc = -1
  · rw [if_pos a, if_pos a]
  · rw [if_neg a, if_neg a]
    by_cases b : d < pf
    · rw [if_pos b, if_pos b]
    · rw [if_neg b, if_neg b, if_neg (fun c => by have := ti_lt c; omega), if_neg (fun c => by have := ti_lt c; omega)]
theorem itN_day {v_g_cells : Int32} {v_g_passes : Int32} {v_g_rivers : Int32} {v_g_villages : Int32} {v_g_rains : Int32} {v_g_room : Nat → Int32} {v_g_passFrom : Nat → Int32} {v_g_passTo : Nat → Int32} {v_g_riverCell : Nat → Int32} {v_g_riverLevel : Nat → Int32} {v_g_riverSalt : Nat → Int32} {v_g_villageCell : Nat → Int32} {v_g_need : Nat → Int32} {v_g_lawEnd : Nat → Int32} {v_g_code : Nat → Int32} {pc px pf pt : Int32} {p1 p2 p3 p4 : Nat → Int32} {s : CS} {d : Nat} (hd : (s.2.2.2.2.2.2.2.1).toInt = (d : Int)) : ∀ (n : Nat) (t : CS), d + n ≤ 2000 → itN (cDay v_g_cells v_g_passes v_g_rivers v_g_villages v_g_rains v_g_room v_g_passFrom v_g_passTo v_g_riverCell v_g_riverLevel v_g_riverSalt v_g_villageCell v_g_need v_g_lawEnd v_g_code pc px pf pt p1 p2 p3 p4) n s = some t → (t.2.2.2.2.2.2.2.1).toInt = ((d + n : Nat) : Int) := by
  intro n
  induction n with
  | zero =>
    intro t _ e
    have e : s = t := Option.some.inj e
    rw [← e]
    exact hd
  | succ n ih =>
    intro t hn e
    obtain ⟨u, hu, e⟩ := bd_some (show bd (itN (cDay v_g_cells v_g_passes v_g_rivers v_g_villages v_g_rains v_g_room v_g_passFrom v_g_passTo v_g_riverCell v_g_riverLevel v_g_riverSalt v_g_villageCell v_g_need v_g_lawEnd v_g_code pc px pf pt p1 p2 p3 p4) n s) (cDay v_g_cells v_g_passes v_g_rivers v_g_villages v_g_rains v_g_room v_g_passFrom v_g_passTo v_g_riverCell v_g_riverLevel v_g_riverSalt v_g_villageCell v_g_need v_g_lawEnd v_g_code pc px pf pt p1 p2 p3 p4) = some t from e)
    have k := ih u (by omega) hu
    rw [cD_day e]
    have t1 := add_k (x := u.2.2.2.2.2.2.2.1) (v := 1) (k := 1) rfl (by omega) (by omega)
    omega
theorem T_lo {v_g_cells : Int32} {v_g_passes : Int32} {v_g_rivers : Int32} {v_g_villages : Int32} {v_g_rains : Int32} {v_g_room : Nat → Int32} {v_g_passFrom : Nat → Int32} {v_g_passTo : Nat → Int32} {v_g_riverCell : Nat → Int32} {v_g_riverLevel : Nat → Int32} {v_g_riverSalt : Nat → Int32} {v_g_villageCell : Nat → Int32} {v_g_need : Nat → Int32} {v_g_lawEnd : Nat → Int32} {v_g_code : Nat → Int32} {v_g_passWidth : Nat → Int32} {v_g_riverWidth : Nat → Int32} {v_g_rain : Nat → Int32} {v_g_water : Nat → Int32} {pc px pf pt : Int32} {a : Nat} (ha : (a : Int) ≤ pf.toInt) (ha2 : a ≤ 1000) (j : Nat) (hj : j ≤ a) : itN (cT v_g_cells v_g_passes v_g_rivers v_g_villages v_g_rains v_g_room v_g_passFrom v_g_passTo v_g_riverCell v_g_riverLevel v_g_riverSalt v_g_villageCell v_g_need v_g_lawEnd v_g_code v_g_passWidth v_g_riverWidth v_g_rain pc px pf pt) j (S0 v_g_water) = itN (cT v_g_cells v_g_passes v_g_rivers v_g_villages v_g_rains v_g_room v_g_passFrom v_g_passTo v_g_riverCell v_g_riverLevel v_g_riverSalt v_g_villageCell v_g_need v_g_lawEnd v_g_code v_g_passWidth v_g_riverWidth v_g_rain (-1) 0 0 0) j (S0 v_g_water) := itN_cg j (fun i hi t ht => cD_off (pon_lo (by have k := itN_day (d := 0) rfl i t (by omega) ht; omega)) pon_none)
theorem T_hi {v_g_cells : Int32} {v_g_passes : Int32} {v_g_rivers : Int32} {v_g_villages : Int32} {v_g_rains : Int32} {v_g_room : Nat → Int32} {v_g_passFrom : Nat → Int32} {v_g_passTo : Nat → Int32} {v_g_riverCell : Nat → Int32} {v_g_riverLevel : Nat → Int32} {v_g_riverSalt : Nat → Int32} {v_g_villageCell : Nat → Int32} {v_g_need : Nat → Int32} {v_g_lawEnd : Nat → Int32} {v_g_code : Nat → Int32} {v_g_passWidth : Nat → Int32} {v_g_riverWidth : Nat → Int32} {v_g_rain : Nat → Int32} {v_g_water : Nat → Int32} {pc px pf pt : Int32} {pt2 : Int32} (h : pt2.toInt ≤ pt.toInt) (j : Nat) (hj : (j : Int) ≤ pt2.toInt + 1) (hj2 : j ≤ 1000) : itN (cT v_g_cells v_g_passes v_g_rivers v_g_villages v_g_rains v_g_room v_g_passFrom v_g_passTo v_g_riverCell v_g_riverLevel v_g_riverSalt v_g_villageCell v_g_need v_g_lawEnd v_g_code v_g_passWidth v_g_riverWidth v_g_rain pc px pf pt) j (S0 v_g_water) = itN (cT v_g_cells v_g_passes v_g_rivers v_g_villages v_g_rains v_g_room v_g_passFrom v_g_passTo v_g_riverCell v_g_riverLevel v_g_riverSalt v_g_villageCell v_g_need v_g_lawEnd v_g_code v_g_passWidth v_g_riverWidth v_g_rain pc px pf pt2) j (S0 v_g_water) := itN_cg j (fun i hi t ht => cD_same (pon_hi2 (by have k := itN_day (d := 0) rfl i t (by omega) ht; omega) (by have k := itN_day (d := 0) rfl i t (by omega) ht; omega)))
theorem FP_hi {v_e_toldDay : Nat → Int32} {v_e_toldCell : Nat → Int32} {v_e_toldLevel : Nat → Int32} {v_g_cells : Int32} {v_g_passes : Int32} {v_g_rivers : Int32} {v_g_villages : Int32} {v_g_rains : Int32} {v_g_room : Nat → Int32} {v_g_passFrom : Nat → Int32} {v_g_passTo : Nat → Int32} {v_g_riverCell : Nat → Int32} {v_g_riverLevel : Nat → Int32} {v_g_riverSalt : Nat → Int32} {v_g_villageCell : Nat → Int32} {v_g_need : Nat → Int32} {v_g_lawEnd : Nat → Int32} {v_g_code : Nat → Int32} {v_g_water : Nat → Int32} {v_g_passWidth : Nat → Int32} {v_g_riverWidth : Nat → Int32} {v_g_rain : Nat → Int32} {pc px pf pt : Int32} {pt2 : Int32} {k : Int} {L : Int} (hL : ∀ i : Nat, (i : Int) < k → (v_e_toldDay i).toInt ≤ L) (hL2 : L ≤ 199) (h : FP v_e_toldDay v_e_toldCell v_e_toldLevel v_g_cells v_g_passes v_g_rivers v_g_villages v_g_rains v_g_room v_g_passFrom v_g_passTo v_g_riverCell v_g_riverLevel v_g_riverSalt v_g_villageCell v_g_need v_g_lawEnd v_g_code v_g_water v_g_passWidth v_g_riverWidth v_g_rain k pc px pf pt) (h2 : pt2.toInt ≤ pt.toInt) (h3 : L ≤ pt2.toInt + 1) : FP v_e_toldDay v_e_toldCell v_e_toldLevel v_g_cells v_g_passes v_g_rivers v_g_villages v_g_rains v_g_room v_g_passFrom v_g_passTo v_g_riverCell v_g_riverLevel v_g_riverSalt v_g_villageCell v_g_need v_g_lawEnd v_g_code v_g_water v_g_passWidth v_g_riverWidth v_g_rain k pc px pf pt2 := by
  intro j hj
  obtain ⟨s, es, i, hi, ei, ne⟩ := hj
  have := hL i hi
  rw [← T_hi h2 j (by omega) (by omega)] at es
  exact h j ⟨s, es, i, hi, ei, ne⟩
theorem FP_lo {v_e_toldDay : Nat → Int32} {v_e_toldCell : Nat → Int32} {v_e_toldLevel : Nat → Int32} {v_g_cells : Int32} {v_g_passes : Int32} {v_g_rivers : Int32} {v_g_villages : Int32} {v_g_rains : Int32} {v_g_room : Nat → Int32} {v_g_passFrom : Nat → Int32} {v_g_passTo : Nat → Int32} {v_g_riverCell : Nat → Int32} {v_g_riverLevel : Nat → Int32} {v_g_riverSalt : Nat → Int32} {v_g_villageCell : Nat → Int32} {v_g_need : Nat → Int32} {v_g_lawEnd : Nat → Int32} {v_g_code : Nat → Int32} {v_g_water : Nat → Int32} {v_g_passWidth : Nat → Int32} {v_g_riverWidth : Nat → Int32} {v_g_rain : Nat → Int32} {pc px pf pt : Int32} {k : Int} {j : Nat} (hj : (j : Int) ≤ pf.toInt) (hj2 : j ≤ 1000) (h : OFD v_e_toldDay v_e_toldCell v_e_toldLevel v_g_room k (cT v_g_cells v_g_passes v_g_rivers v_g_villages v_g_rains v_g_room v_g_passFrom v_g_passTo v_g_riverCell v_g_riverLevel v_g_riverSalt v_g_villageCell v_g_need v_g_lawEnd v_g_code v_g_passWidth v_g_riverWidth v_g_rain (-1) 0 0 0) (S0 v_g_water) j) : ¬ FP v_e_toldDay v_e_toldCell v_e_toldLevel v_g_cells v_g_passes v_g_rivers v_g_villages v_g_rains v_g_room v_g_passFrom v_g_passTo v_g_riverCell v_g_riverLevel v_g_riverSalt v_g_villageCell v_g_need v_g_lawEnd v_g_code v_g_water v_g_passWidth v_g_riverWidth v_g_rain k pc px pf pt := fun l => by
  obtain ⟨s, es, k⟩ := h
  rw [← T_lo (pf := pf) (pc := pc) (px := px) (pt := pt) hj hj2 j (Nat.le_refl _)] at es
  exact l j ⟨s, es, k⟩
/-- on the n-th day of the run from e, the day a + n, a told level is not so -/
def OFA (td tc tl room : Nat → Int32) (k : Int) (f : CS → Option CS) (e : CS) (a n : Nat) : Prop := ∃ s, itN f n e = some s ∧ ∃ i : Nat, (i : Int) < k ∧ (td i).toInt = ((a + n : Nat) : Int) ∧ ¬ s.2.2.2.2.2.2.2.2.1 (tc i).toNatClampNeg / room (tc i).toNatClampNeg = tl i
theorem off_two {td tc tl room : Nat → Int32} {live ce : Int32} {vi B : Int} {cells mro : Nat → Int32} {k : Int} {f g : CS → Option CS} {e s0 s t : CS} {a n : Nat} (htc : ∀ i : Nat, (i : Int) < k → (((tc i).toNatClampNeg : Nat) : Int) < ce.toInt) (hs : itN f n e = some s) (ht : itN g (a + n) s0 = some t) (h : TWO live ce.toInt vi B cells mro s t) : OFA td tc tl room k f e a n ↔ OFD td tc tl room k g s0 (a + n) := by
  constructor
  · rintro ⟨s', es, i, hi, ei, ne⟩
    have e1 : s = s' := Option.some.inj (hs.symm.trans es)
    subst e1
    refine ⟨t, ht, i, hi, ei, ?_⟩
    rw [← two_water h _ (htc i hi)]
    exact ne
  · rintro ⟨t', et, i, hi, ei, ne⟩
    have e1 : t = t' := Option.some.inj (ht.symm.trans et)
    subst e1
    refine ⟨s, hs, i, hi, ei, ?_⟩
    rw [two_water h _ (htc i hi)]
    exact ne
theorem pa_u15 {A0 A1 A2 A3 A4 A5 A6 A7 A8 A9 A10 A11 A12 A13 A14 γ : Type} {a0 : A0} {a1 : A1} {a2 : A2} {a3 : A3} {a4 : A4} {a5 : A5} {a6 : A6} {a7 : A7} {a8 : A8} {a9 : A9} {a10 : A10} {a11 : A11} {a12 : A12} {a13 : A13} {a14 : A14} {k : A0 → A1 → A2 → A3 → A4 → A5 → A6 → A7 → A8 → A9 → A10 → A11 → A12 → A13 → A14 → Option γ} {P : γ → Prop} (h : pa (k a0 a1 a2 a3 a4 a5 a6 a7 a8 a9 a10 a11 a12 a13 a14) P) : pa (un15 (a0, a1, a2, a3, a4, a5, a6, a7, a8, a9, a10, a11, a12, a13, a14) k) P := h
set_option maxHeartbeats 8000000 in
theorem c_ex54 {v_e_toldDay : Nat → Int32} {v_e_toldCell : Nat → Int32} {v_e_toldLevel : Nat → Int32} {v_g_cells : Int32} {v_g_passes : Int32} {v_g_rivers : Int32} {v_g_villages : Int32} {v_g_rains : Int32} {v_g_room : Nat → Int32} {v_g_passFrom : Nat → Int32} {v_g_passTo : Nat → Int32} {v_g_riverCell : Nat → Int32} {v_g_riverLevel : Nat → Int32} {v_g_riverSalt : Nat → Int32} {v_g_villageCell : Nat → Int32} {v_g_need : Nat → Int32} {v_g_lawEnd : Nat → Int32} {v_g_code : Nat → Int32} {v_p_pumpCell : Int32} {v_p_pumpTakes : Int32} {v_p_pumpFrom : Int32} {v_p_pumpTo : Int32} {v_p_wanting : Nat → Int32} {v_p_passWidth : Nat → Int32} {v_p_riverWidth : Nat → Int32} {v_p_rain : Nat → Int32} {K L : Int32} {e : CS} {a : Nat} (ha : a ≤ 13) (hK : 0 ≤ K.toInt ∧ K.toInt ≤ 20) (hL : L.toInt ≤ 199) (hroom : ∀ i : Nat, (i : Int) < K.toInt → 1 ≤ (v_g_room (v_e_toldCell i).toNatClampNeg).toInt) : ∀ (m : Nat) (v_c_pumped : Int32) (v_c_today : Int32) (v_c_lacked : Nat → Int32) (v_c_level : Nat → Int32) (v_c_water : Nat → Int32) (v_c_salt : Nat → Int64) (v_c_stack : Nat → Int32) (v_d_day : Int32) (v_d_water : Nat → Int32) (v_d_salt : Nat → Int64) (v_d_seen : Nat → Int32) (v_d_took : Nat → Int32) (v_d_dryDays : Nat → Int32) (v_d_firstDry : Nat → Int32) (v_d_total : Nat → Int32) (x1 : Int32) (x2 : Int32) (x3 : Int32) (x4 : Int32) (n : Nat), K = x1 → L = x2 → x4.toInt = ((a + n : Nat) : Int) → x4.toInt ≤ L.toInt → v_d_day = x4 → 0 ≤ x3.toInt → itN (cDay v_g_cells v_g_passes v_g_rivers v_g_villages v_g_rains v_g_room v_g_passFrom v_g_passTo v_g_riverCell v_g_riverLevel v_g_riverSalt v_g_villageCell v_g_need v_g_lawEnd v_g_code v_p_pumpCell v_p_pumpTakes v_p_pumpFrom v_p_pumpTo v_p_wanting v_p_passWidth v_p_riverWidth v_p_rain) n e = some (v_c_pumped, v_c_today, v_c_lacked, v_c_level, v_c_water, v_c_salt, v_c_stack, v_d_day, v_d_water, v_d_salt, v_d_seen, v_d_took, v_d_dryDays, v_d_firstDry, v_d_total) → (∀ j : Nat, 1 ≤ j → j ≤ n → ¬ OFA v_e_toldDay v_e_toldCell v_e_toldLevel v_g_room K.toInt (cDay v_g_cells v_g_passes v_g_rivers v_g_villages v_g_rains v_g_room v_g_passFrom v_g_passTo v_g_riverCell v_g_riverLevel v_g_riverSalt v_g_villageCell v_g_need v_g_lawEnd v_g_code v_p_pumpCell v_p_pumpTakes v_p_pumpFrom v_p_pumpTo v_p_wanting v_p_passWidth v_p_riverWidth v_p_rain) e a j) → (∀ (j : Nat) (t : CS), j < n → itN (cDay v_g_cells v_g_passes v_g_rivers v_g_villages v_g_rains v_g_room v_g_passFrom v_g_passTo v_g_riverCell v_g_riverLevel v_g_riverSalt v_g_villageCell v_g_need v_g_lawEnd v_g_code v_p_pumpCell v_p_pumpTakes v_p_pumpFrom v_p_pumpTo v_p_wanting v_p_passWidth v_p_riverWidth v_p_rain) (j + 1) e = some t → t.1.toInt ≤ x3.toInt) → pa (f_X2_explains_BS_b54 v_e_toldDay v_e_toldCell v_e_toldLevel v_g_cells v_g_passes v_g_rivers v_g_villages v_g_rains v_g_room v_g_passFrom v_g_passTo v_g_riverCell v_g_riverLevel v_g_riverSalt v_g_villageCell v_g_need v_g_lawEnd v_g_code v_p_pumpCell v_p_pumpTakes v_p_pumpFrom v_p_pumpTo v_p_wanting v_p_passWidth v_p_riverWidth v_p_rain m v_c_pumped v_c_today v_c_lacked v_c_level v_c_water v_c_salt v_c_stack v_d_day v_d_water v_d_salt v_d_seen v_d_took v_d_dryDays v_d_firstDry v_d_total x1 x2 x3 x4) (fun o => (o.1 = 1 ∧ ∀ n : Nat, 1 ≤ n → ((a + n : Nat) : Int) ≤ L.toInt → ¬ OFA v_e_toldDay v_e_toldCell v_e_toldLevel v_g_room K.toInt (cDay v_g_cells v_g_passes v_g_rivers v_g_villages v_g_rains v_g_room v_g_passFrom v_g_passTo v_g_riverCell v_g_riverLevel v_g_riverSalt v_g_villageCell v_g_need v_g_lawEnd v_g_code v_p_pumpCell v_p_pumpTakes v_p_pumpFrom v_p_pumpTo v_p_wanting v_p_passWidth v_p_riverWidth v_p_rain) e a n) ∨ (o.1 = 0 ∧ ((∃ n : Nat, OFA v_e_toldDay v_e_toldCell v_e_toldLevel v_g_room K.toInt (cDay v_g_cells v_g_passes v_g_rivers v_g_villages v_g_rains v_g_room v_g_passFrom v_g_passTo v_g_riverCell v_g_riverLevel v_g_riverSalt v_g_villageCell v_g_need v_g_lawEnd v_g_code v_p_pumpCell v_p_pumpTakes v_p_pumpFrom v_p_pumpTo v_p_wanting v_p_passWidth v_p_riverWidth v_p_rain) e a n) ∨ ∃ g : Int32, 0 ≤ g.toInt ∧ g.toInt < v_p_pumpTakes.toInt ∧ ∀ (n : Nat) (t : CS), ((a + n : Nat) : Int) ≤ v_p_pumpTo.toInt → itN (cDay v_g_cells v_g_passes v_g_rivers v_g_villages v_g_rains v_g_room v_g_passFrom v_g_passTo v_g_riverCell v_g_riverLevel v_g_riverSalt v_g_villageCell v_g_need v_g_lawEnd v_g_code v_p_pumpCell v_p_pumpTakes v_p_pumpFrom v_p_pumpTo v_p_wanting v_p_passWidth v_p_riverWidth v_p_rain) (n + 1) e = some t → t.1.toInt ≤ g.toInt))) := by
  intro m
  induction m with
  | zero => intro v_c_pumped v_c_today v_c_lacked v_c_level v_c_water v_c_salt v_c_stack v_d_day v_d_water v_d_salt v_d_seen v_d_took v_d_dryDays v_d_firstDry v_d_total x1 x2 x3 x4 n _ _ _ _ _ _ _ _ _; exact pa_none
  | succ m ih =>
    intro v_c_pumped v_c_today v_c_lacked v_c_level v_c_water v_c_salt v_c_stack v_d_day v_d_water v_d_salt v_d_seen v_d_took v_d_dryDays v_d_firstDry v_d_total x1 x2 x3 x4 n hk hl h4 h4L hday h3 hI hno hpm
    show pa (f_X2_explains_BS_b54_st (f_X2_explains_BS_b54 v_e_toldDay v_e_toldCell v_e_toldLevel v_g_cells v_g_passes v_g_rivers v_g_villages v_g_rains v_g_room v_g_passFrom v_g_passTo v_g_riverCell v_g_riverLevel v_g_riverSalt v_g_villageCell v_g_need v_g_lawEnd v_g_code v_p_pumpCell v_p_pumpTakes v_p_pumpFrom v_p_pumpTo v_p_wanting v_p_passWidth v_p_riverWidth v_p_rain m) v_e_toldDay v_e_toldCell v_e_toldLevel v_g_cells v_g_passes v_g_rivers v_g_villages v_g_rains v_g_room v_g_passFrom v_g_passTo v_g_riverCell v_g_riverLevel v_g_riverSalt v_g_villageCell v_g_need v_g_lawEnd v_g_code v_p_pumpCell v_p_pumpTakes v_p_pumpFrom v_p_pumpTo v_p_wanting v_p_passWidth v_p_riverWidth v_p_rain v_c_pumped v_c_today v_c_lacked v_c_level v_c_water v_c_salt v_c_stack v_d_day v_d_water v_d_salt v_d_seen v_d_took v_d_dryDays v_d_firstDry v_d_total x1 x2 x3 x4) _
    unfold f_X2_explains_BS_b54_st
    subst hk hl
    refine pa_if (fun z => pa_some (Or.inl ⟨rfl, fun j j1 j2 => hno j j1 (by have := ti_le z; omega)⟩)) (fun z => ?_)
    have z2 := ti_nle z
    have t1 := add_k (x := x4) (v := 1) (k := 1) rfl (by omega) (by omega)
    refine pa_be (fun o eo => ?_)
    have hn := itN_s hI eo
    have hd1 := cD_day (s := (v_c_pumped, v_c_today, v_c_lacked, v_c_level, v_c_water, v_c_salt, v_c_stack, v_d_day, v_d_water, v_d_salt, v_d_seen, v_d_took, v_d_dryDays, v_d_firstDry, v_d_total)) (t := o) eo
    obtain ⟨b0, b1, b2, b3, b4, b5, b6, b7, b8, b9, b10, b11, b12, b13, b14⟩ := o
    have hd1 : b7 = v_d_day + 1 := hd1
    refine pa_u15 ?_
    have ho : pa (f_X2_offToday v_e_toldDay v_e_toldCell v_e_toldLevel v_g_room b7 b8 K) (OFT K (MIS v_e_toldDay v_e_toldCell v_e_toldLevel v_g_room b8 b7)) := by
      unfold f_X2_offToday
      exact c_off fuel K 0 (by decide) (by show (0 : Int) ≤ _; exact hK.1) hK.2 hroom (fun i hi => absurd hi (by show ¬ (i : Int) < 0; omega))
    have hb7 : b7.toInt = ((a + (n + 1) : Nat) : Int) := by rw [hd1, hday]; omega
    refine pa_bd ho (fun o3 ho3 => ?_)
    have hmx : x3.toInt ≤ (if x3 < b0 then b0 else x3).toInt ∧ b0.toInt ≤ (if x3 < b0 then b0 else x3).toInt := by
      by_cases q : x3 < b0
      · have := ti_lt q
        rw [if_pos q]; omega
      · have := ti_nlt q
        rw [if_neg q]; omega
    have hpm2 : ∀ (j : Nat) (t : CS), j < n + 1 → itN (cDay v_g_cells v_g_passes v_g_rivers v_g_villages v_g_rains v_g_room v_g_passFrom v_g_passTo v_g_riverCell v_g_riverLevel v_g_riverSalt v_g_villageCell v_g_need v_g_lawEnd v_g_code v_p_pumpCell v_p_pumpTakes v_p_pumpFrom v_p_pumpTo v_p_wanting v_p_passWidth v_p_riverWidth v_p_rain) (j + 1) e = some t → t.1.toInt ≤ (if x3 < b0 then b0 else x3).toInt := fun j t hj et => by
      by_cases q : j = n
      · rw [q] at et
        have e9 := Option.some.inj (hn.symm.trans et)
        rw [← e9]
        exact hmx.2
      · have := hpm j t (by omega) et
        omega
    refine pa_if (fun k => ?_) (fun k => ?_)
    · have hoff : ¬ OFA v_e_toldDay v_e_toldCell v_e_toldLevel v_g_room K.toInt (cDay v_g_cells v_g_passes v_g_rivers v_g_villages v_g_rains v_g_room v_g_passFrom v_g_passTo v_g_riverCell v_g_riverLevel v_g_riverSalt v_g_villageCell v_g_need v_g_lawEnd v_g_code v_p_pumpCell v_p_pumpTakes v_p_pumpFrom v_p_pumpTo v_p_wanting v_p_passWidth v_p_riverWidth v_p_rain) e a (n + 1) := by
        rintro ⟨s, es, i, hi, ei, ne⟩
        have e1 := Option.some.inj (hn.symm.trans es)
        rcases ho3 with ⟨_, n2⟩ | ⟨o0, _⟩
        · refine n2 i hi ⟨Int32.toInt_inj.mp (by omega), ?_⟩
          rw [← e1] at ne
          exact ne
        · have m2 : (-2 : Int32).toInt = -2 := by decide
          have := z_eq m2 k
          omega
      have go := ih b0 b1 b2 b3 b4 b5 b6 b7 b8 b9 b10 b11 b12 b13 b14 K L (if x3 < b0 then b0 else x3) (x4 + 1) (n + 1) rfl rfl (by omega) (by omega) (by rw [hd1, hday]) (by omega) hn (fun j j1 j2 => by
        by_cases q : j = n + 1
        · rw [q]; exact hoff
        · exact hno j j1 (by omega)) hpm2
      refine pa_if (fun q => pa_if (fun _ => go) (fun q2 => pa_some (Or.inr ⟨rfl, Or.inr ⟨_, by omega, ti_nle q2, fun j t hj et => hpm2 j t ?_ et⟩⟩))) (fun _ => go)
      rw [← q] at hj
      omega
    · refine pa_some (Or.inr ⟨rfl, Or.inl ⟨n + 1, _, hn, ?_⟩⟩)
      rcases ho3 with ⟨e2, _⟩ | ⟨o0, o1, om, _⟩
      · exact absurd e2 k
      · have eo : (o3.toNatClampNeg : Int) = o3.toInt := cl_k o0
        exact ⟨o3.toNatClampNeg, by omega, by rw [om.1]; exact hb7, om.2⟩
/-- the a-th begin that is kept is that of the run without a pump -/
def FOK {v_m_live v_g_cells v_g_villages : Int32} (v_m_cells v_m_room : Nat → Int32) (run : CS → Option CS) (s0 : CS) (v_fam_day : Nat → Int32) (v_fam_water : Nat → Nat → Int32) (v_fam_salt : Nat → Nat → Int64) (v_fam_seen v_fam_took v_fam_dryDays v_fam_firstDry v_fam_total : Nat → Nat → Int32) (a : Nat) : Prop := ∃ t, itN run a s0 = some t ∧ TWO v_m_live v_g_cells.toInt v_g_villages.toInt ((a : Int)) v_m_cells v_m_room (0, 0, fun _ => 0, fun _ => 0, fun _ => 0, fun _ => 0, fun _ => 0, v_fam_day a, v_fam_water a, v_fam_salt a, v_fam_seen a, v_fam_took a, v_fam_dryDays a, v_fam_firstDry a, v_fam_total a) t
set_option maxHeartbeats 8000000 in
theorem c_expl {v_e_toldDay : Nat → Int32} {v_e_toldCell : Nat → Int32} {v_e_toldLevel : Nat → Int32} {v_g_cells : Int32} {v_g_passes : Int32} {v_g_rivers : Int32} {v_g_villages : Int32} {v_g_rains : Int32} {v_g_room : Nat → Int32} {v_g_passFrom : Nat → Int32} {v_g_passTo : Nat → Int32} {v_g_riverCell : Nat → Int32} {v_g_riverLevel : Nat → Int32} {v_g_riverSalt : Nat → Int32} {v_g_villageCell : Nat → Int32} {v_g_need : Nat → Int32} {v_g_lawEnd : Nat → Int32} {v_g_code : Nat → Int32} {pc : Int32} {px : Int32} {pf : Int32} {pt : Int32} {p1 : Nat → Int32} {p2 : Nat → Int32} {p3 : Nat → Int32} {p4 : Nat → Int32} {v_fam_day : Nat → Int32} {v_fam_water : Nat → Nat → Int32} {v_fam_salt : Nat → Nat → Int64} {v_fam_seen : Nat → Nat → Int32} {v_fam_took : Nat → Nat → Int32} {v_fam_dryDays : Nat → Nat → Int32} {v_fam_firstDry : Nat → Nat → Int32} {v_fam_total : Nat → Nat → Int32} {v_c_pumped : Int32} {v_c_today : Int32} {v_c_lacked : Nat → Int32} {v_c_level : Nat → Int32} {v_c_water : Nat → Int32} {v_c_salt : Nat → Int64} {v_c_stack : Nat → Int32} {v_d_day : Int32} {v_d_water : Nat → Int32} {v_d_salt : Nat → Int64} {v_d_seen : Nat → Int32} {v_d_took : Nat → Int32} {v_d_dryDays : Nat → Int32} {v_d_firstDry : Nat → Int32} {v_d_total : Nat → Int32} {K : Int32} {L : Int32} {v_g_water : Nat → Int32} {v_g_passWidth : Nat → Int32} {v_g_riverWidth : Nat → Int32} {v_g_rain : Nat → Int32} {v_m_live : Int32} {v_m_cells : Nat → Int32} {v_m_room : Nat → Int32} {v_m_passes : Nat → Int32} {v_m_passOne : Nat → Int32} {v_m_passOther : Nat → Int32} {v_m_rivers : Nat → Int32} {v_m_riverCell : Nat → Int32} {v_m_riverLevel : Nat → Int32} {v_m_riverWide : Nat → Int32} {v_m_riverSalt : Nat → Int32} {v_m_rains : Nat → Int32} {v_m_villages : Nat → Int32} {v_m_home : Nat → Int32} {v_m_need : Nat → Int32} {v_m_lawFrom : Nat → Int32} {v_m_lawTo : Nat → Int32} {v_m_code : Nat → Int32} {v_m_codeInt : Nat → Int32} {v_m_passWide : Nat → Int32} {v_m_rain : Nat → Int32} {v_m_water : Nat → Int32} (y : DY v_m_live v_m_cells v_m_room v_m_passes v_m_passOne v_m_passOther v_m_rivers v_m_riverCell v_m_riverLevel v_m_riverWide v_m_rains v_m_villages v_m_home v_m_lawFrom v_m_lawTo v_m_code v_m_codeInt) (hne : NE v_m_live v_m_villages v_m_need) (G : GL v_m_live v_g_cells v_g_passes v_g_rivers v_g_villages v_g_rains v_g_room v_g_passFrom v_g_passTo v_g_riverCell v_g_riverLevel v_g_riverSalt v_g_villageCell v_g_need v_g_lawEnd v_g_code v_m_cells v_m_room v_m_passes v_m_passOne v_m_passOther v_m_rivers v_m_riverCell v_m_riverLevel v_m_riverSalt v_m_rains v_m_villages v_m_home v_m_need v_m_lawFrom v_m_lawTo v_m_code v_m_codeInt) (a1 : AL v_g_passWidth v_m_passWide (20 * v_m_live.toNatClampNeg) v_g_passes.toInt) (a2 : AL v_g_riverWidth v_m_riverWide (3 * v_m_live.toNatClampNeg) v_g_rivers.toInt) (a3 : AL v_g_rain v_m_rain (14 * v_m_live.toNatClampNeg) v_g_rains.toInt) (gx : GX v_m_live v_m_passes v_m_passWide v_m_rains v_m_rain) (hwa : WA v_m_live v_m_cells v_m_water) (gw : AL v_g_water v_m_water (12 * v_m_live.toNatClampNeg) v_g_cells.toInt) (tot : TOT v_g_cells v_g_passes v_g_rivers v_g_villages v_g_rains v_g_room v_g_passFrom v_g_passTo v_g_riverCell v_g_riverLevel v_g_riverSalt v_g_villageCell v_g_need v_g_lawEnd v_g_code) (hK : 0 ≤ K.toInt ∧ K.toInt ≤ 20) (hL : ∀ i : Nat, (i : Int) < K.toInt → (v_e_toldDay i).toInt ≤ L.toInt) (hL2 : L.toInt ≤ 199) (htc : ∀ i : Nat, (i : Int) < K.toInt → (((v_e_toldCell i).toNatClampNeg : Nat) : Int) < v_g_cells.toInt) (hroom : ∀ c : Nat, (c : Int) < v_g_cells.toInt → 1 ≤ (v_g_room c).toInt) (hpc : 0 ≤ pc.toInt ∧ pc.toInt < v_g_cells.toInt) (hpx : 1 ≤ px.toInt ∧ px.toInt ≤ 9) (hpf : 0 ≤ pf.toInt ∧ pf.toInt ≤ 13) (hab : pf.toInt ≤ pt.toInt) (hbL : pt.toInt < L.toInt) (hs : SETT p1 p2 p3 p4 v_g_passWidth v_g_riverWidth v_g_rain) (hfam : FOK (v_m_live := v_m_live) (v_g_cells := v_g_cells) (v_g_villages := v_g_villages) v_m_cells v_m_room (cT v_g_cells v_g_passes v_g_rivers v_g_villages v_g_rains v_g_room v_g_passFrom v_g_passTo v_g_riverCell v_g_riverLevel v_g_riverSalt v_g_villageCell v_g_need v_g_lawEnd v_g_code v_g_passWidth v_g_riverWidth v_g_rain (-1) 0 0 0) (S0 v_g_water) v_fam_day v_fam_water v_fam_salt v_fam_seen v_fam_took v_fam_dryDays v_fam_firstDry v_fam_total pf.toNatClampNeg) (hlo : ∀ j : Nat, (j : Int) ≤ pf.toInt → ¬ OFD v_e_toldDay v_e_toldCell v_e_toldLevel v_g_room K.toInt (cT v_g_cells v_g_passes v_g_rivers v_g_villages v_g_rains v_g_room v_g_passFrom v_g_passTo v_g_riverCell v_g_riverLevel v_g_riverSalt v_g_villageCell v_g_need v_g_lawEnd v_g_code v_g_passWidth v_g_riverWidth v_g_rain (-1) 0 0 0) (S0 v_g_water) j) (hnn : ¬ FP v_e_toldDay v_e_toldCell v_e_toldLevel v_g_cells v_g_passes v_g_rivers v_g_villages v_g_rains v_g_room v_g_passFrom v_g_passTo v_g_riverCell v_g_riverLevel v_g_riverSalt v_g_villageCell v_g_need v_g_lawEnd v_g_code v_g_water v_g_passWidth v_g_riverWidth v_g_rain K.toInt (-1) 0 0 0) : pa (f_X2_explains_BS v_e_toldDay v_e_toldCell v_e_toldLevel v_g_cells v_g_passes v_g_rivers v_g_villages v_g_rains v_g_room v_g_passFrom v_g_passTo v_g_riverCell v_g_riverLevel v_g_riverSalt v_g_villageCell v_g_need v_g_lawEnd v_g_code pc px pf pt p1 p2 p3 p4 v_fam_day v_fam_water v_fam_salt v_fam_seen v_fam_took v_fam_dryDays v_fam_firstDry v_fam_total v_c_pumped v_c_today v_c_lacked v_c_level v_c_water v_c_salt v_c_stack v_d_day v_d_water v_d_salt v_d_seen v_d_took v_d_dryDays v_d_firstDry v_d_total K L) (fun o => (o.1 = 1 ∧ FP v_e_toldDay v_e_toldCell v_e_toldLevel v_g_cells v_g_passes v_g_rivers v_g_villages v_g_rains v_g_room v_g_passFrom v_g_passTo v_g_riverCell v_g_riverLevel v_g_riverSalt v_g_villageCell v_g_need v_g_lawEnd v_g_code v_g_water v_g_passWidth v_g_riverWidth v_g_rain K.toInt pc px pf pt) ∨ (o.1 = 0 ∧ (FP v_e_toldDay v_e_toldCell v_e_toldLevel v_g_cells v_g_passes v_g_rivers v_g_villages v_g_rains v_g_room v_g_passFrom v_g_passTo v_g_riverCell v_g_riverLevel v_g_riverSalt v_g_villageCell v_g_need v_g_lawEnd v_g_code v_g_water v_g_passWidth v_g_riverWidth v_g_rain K.toInt pc px pf pt → ∃ g : Int32, 1 ≤ g.toInt ∧ g.toInt < px.toInt ∧ FP v_e_toldDay v_e_toldCell v_e_toldLevel v_g_cells v_g_passes v_g_rivers v_g_villages v_g_rains v_g_room v_g_passFrom v_g_passTo v_g_riverCell v_g_riverLevel v_g_riverSalt v_g_villageCell v_g_need v_g_lawEnd v_g_code v_g_water v_g_passWidth v_g_riverWidth v_g_rain K.toInt pc g pf pt))) := by
  have hc12 := y.1.2.1
  rw [G.1] at hc12
  have hc12 : 0 ≤ v_g_cells.toInt ∧ v_g_cells.toInt ≤ 12 := hc12
  have hv6 := y.2.2.2.1
  rw [G.2.2.2.1] at hv6
  have hv6 : 0 ≤ v_g_villages.toInt ∧ v_g_villages.toInt ≤ 6 := hv6
  have main : ∀ a : Nat, pf.toInt = (a : Int) → pa (bd (f_X1_become (v_fam_day a) (v_fam_water a) (v_fam_salt a) (v_fam_seen a) (v_fam_took a) (v_fam_dryDays a) (v_fam_firstDry a) (v_fam_total a) v_d_day v_d_water v_d_salt v_d_seen v_d_took v_d_dryDays v_d_firstDry v_d_total) (fun o => un8 o (fun u0 u1 u2 u3 u4 u5 u6 u7 => f_X2_explains_BS_b54 v_e_toldDay v_e_toldCell v_e_toldLevel v_g_cells v_g_passes v_g_rivers v_g_villages v_g_rains v_g_room v_g_passFrom v_g_passTo v_g_riverCell v_g_riverLevel v_g_riverSalt v_g_villageCell v_g_need v_g_lawEnd v_g_code pc px pf pt p1 p2 p3 p4 fuel v_c_pumped v_c_today v_c_lacked v_c_level v_c_water v_c_salt v_c_stack u0 u1 u2 u3 u4 u5 u6 u7 K L 0 pf))) (fun o => (o.1 = 1 ∧ FP v_e_toldDay v_e_toldCell v_e_toldLevel v_g_cells v_g_passes v_g_rivers v_g_villages v_g_rains v_g_room v_g_passFrom v_g_passTo v_g_riverCell v_g_riverLevel v_g_riverSalt v_g_villageCell v_g_need v_g_lawEnd v_g_code v_g_water v_g_passWidth v_g_riverWidth v_g_rain K.toInt pc px pf pt) ∨ (o.1 = 0 ∧ (FP v_e_toldDay v_e_toldCell v_e_toldLevel v_g_cells v_g_passes v_g_rivers v_g_villages v_g_rains v_g_room v_g_passFrom v_g_passTo v_g_riverCell v_g_riverLevel v_g_riverSalt v_g_villageCell v_g_need v_g_lawEnd v_g_code v_g_water v_g_passWidth v_g_riverWidth v_g_rain K.toInt pc px pf pt → ∃ g : Int32, 1 ≤ g.toInt ∧ g.toInt < px.toInt ∧ FP v_e_toldDay v_e_toldCell v_e_toldLevel v_g_cells v_g_passes v_g_rivers v_g_villages v_g_rains v_g_room v_g_passFrom v_g_passTo v_g_riverCell v_g_riverLevel v_g_riverSalt v_g_villageCell v_g_need v_g_lawEnd v_g_code v_g_water v_g_passWidth v_g_riverWidth v_g_rain K.toInt pc g pf pt))) := by
    intro a ea
    have ena : pf.toNatClampNeg = a := by
      have : (pf.toNatClampNeg : Int) = pf.toInt := cl_k hpf.1
      omega
    rw [ena] at hfam
    obtain ⟨t0, ht0, hT0⟩ := hfam
    refine pa_bd8 c_bec (fun u0 u1 u2 u3 u4 u5 u6 u7 hu => ?_)
    have e0 : u0 = v_fam_day a := hu.1
    have hTe : TWO v_m_live v_g_cells.toInt v_g_villages.toInt ((a : Int)) v_m_cells v_m_room (v_c_pumped, v_c_today, v_c_lacked, v_c_level, v_c_water, v_c_salt, v_c_stack, u0, u1, u2, u3, u4, u5, u6, u7) t0 := TWO_cp hc12.2 hv6.2 hT0 e0 hu.2.1 hu.2.2
    have hd0 : (v_fam_day a).toInt = (a : Int) := by
      obtain ⟨row, rd, k1, k2⟩ := hT0
      have k := itN_day (d := 0) rfl a t0 (by omega) ht0
      have k1 : v_fam_day a = rd := k1.1
      have k2 : t0.2.2.2.2.2.2.2.1 = rd := k2.1
      rw [k1, ← k2]
      omega
    have hpfa : u0 = pf := Int32.toInt_inj.mp (by rw [e0, hd0, ea])
    have hC : ∀ p : Int32, itN (cT v_g_cells v_g_passes v_g_rivers v_g_villages v_g_rains v_g_room v_g_passFrom v_g_passTo v_g_riverCell v_g_riverLevel v_g_riverSalt v_g_villageCell v_g_need v_g_lawEnd v_g_code v_g_passWidth v_g_riverWidth v_g_rain pc p pf pt) a (S0 v_g_water) = some t0 := fun p => (T_lo (by omega) (by omega) a (Nat.le_refl a)).trans ht0
    have hpcN : -1 ≤ pc.toInt ∧ pc.toInt < v_g_cells.toInt := ⟨by omega, hpc.2⟩
    -- the run of explains, the run of the pump, the run of a lesser pump
    have ex : ∀ n : Nat, ∃ s, itN (cDay v_g_cells v_g_passes v_g_rivers v_g_villages v_g_rains v_g_room v_g_passFrom v_g_passTo v_g_riverCell v_g_riverLevel v_g_riverSalt v_g_villageCell v_g_need v_g_lawEnd v_g_code pc px pf pt p1 p2 p3 p4) n (v_c_pumped, v_c_today, v_c_lacked, v_c_level, v_c_water, v_c_salt, v_c_stack, u0, u1, u2, u3, u4, u5, u6, u7) = some s := fun n => itN_ex (tot pc px pf pt p1 p2 p3 p4 ⟨by omega, by omega⟩ hpf) n _
    have cx_ : ∀ (p : Int32) (n : Nat), ∃ s, itN (cT v_g_cells v_g_passes v_g_rivers v_g_villages v_g_rains v_g_room v_g_passFrom v_g_passTo v_g_riverCell v_g_riverLevel v_g_riverSalt v_g_villageCell v_g_need v_g_lawEnd v_g_code v_g_passWidth v_g_riverWidth v_g_rain pc p pf pt) (a + n) (S0 v_g_water) = some s := fun p n => itN_ex (tot pc p pf pt _ _ _ _ ⟨by omega, by omega⟩ hpf) (a + n) _
    have htwo : ∀ (p : Int32), 0 ≤ p.toInt → ∀ (n : Nat) (s t : CS), n ≤ 400 → itN (cDay v_g_cells v_g_passes v_g_rivers v_g_villages v_g_rains v_g_room v_g_passFrom v_g_passTo v_g_riverCell v_g_riverLevel v_g_riverSalt v_g_villageCell v_g_need v_g_lawEnd v_g_code pc p pf pt p1 p2 p3 p4) n (v_c_pumped, v_c_today, v_c_lacked, v_c_level, v_c_water, v_c_salt, v_c_stack, u0, u1, u2, u3, u4, u5, u6, u7) = some s → itN (cT v_g_cells v_g_passes v_g_rivers v_g_villages v_g_rains v_g_room v_g_passFrom v_g_passTo v_g_riverCell v_g_riverLevel v_g_riverSalt v_g_villageCell v_g_need v_g_lawEnd v_g_code v_g_passWidth v_g_riverWidth v_g_rain pc p pf pt) (a + n) (S0 v_g_water) = some t → TWO v_m_live v_g_cells.toInt v_g_villages.toInt ((a : Int) + (n : Int)) v_m_cells v_m_room s t := fun p hp n s t hn es et => by
      rw [itN_add (hC p) n] at et
      exact two_its y hne G a1 a2 a3 gx hwa gw hpcN hp hs hTe n s t (by omega) es et
    refine pa_w (c_ex54 (e := (v_c_pumped, v_c_today, v_c_lacked, v_c_level, v_c_water, v_c_salt, v_c_stack, u0, u1, u2, u3, u4, u5, u6, u7)) (a := a) (K := K) (L := L) (by omega) hK hL2 (fun i hi => hroom _ (htc i hi)) fuel v_c_pumped v_c_today v_c_lacked v_c_level v_c_water v_c_salt v_c_stack u0 u1 u2 u3 u4 u5 u6 u7 K L 0 pf 0 rfl rfl (by omega) (by omega) hpfa (by decide) rfl (fun j j1 j2 => absurd j1 (by omega)) (fun j t hj _ => absurd hj (Nat.not_lt_zero j))) (fun o ho => ?_)
    -- off on the run of the pump, behind day a
    have hoff : ∀ n : Nat, a + n ≤ 199 → (OFA v_e_toldDay v_e_toldCell v_e_toldLevel v_g_room K.toInt (cDay v_g_cells v_g_passes v_g_rivers v_g_villages v_g_rains v_g_room v_g_passFrom v_g_passTo v_g_riverCell v_g_riverLevel v_g_riverSalt v_g_villageCell v_g_need v_g_lawEnd v_g_code pc px pf pt p1 p2 p3 p4) (v_c_pumped, v_c_today, v_c_lacked, v_c_level, v_c_water, v_c_salt, v_c_stack, u0, u1, u2, u3, u4, u5, u6, u7) a n ↔ OFD v_e_toldDay v_e_toldCell v_e_toldLevel v_g_room K.toInt (cT v_g_cells v_g_passes v_g_rivers v_g_villages v_g_rains v_g_room v_g_passFrom v_g_passTo v_g_riverCell v_g_riverLevel v_g_riverSalt v_g_villageCell v_g_need v_g_lawEnd v_g_code v_g_passWidth v_g_riverWidth v_g_rain pc px pf pt) (S0 v_g_water) (a + n)) := fun n hn => by
      obtain ⟨s, es⟩ := ex n
      obtain ⟨t, et⟩ := cx_ px n
      exact off_two htc es et (htwo px (by omega) n s t (by omega) es et)
    rcases ho with ⟨o1, hok⟩ | ⟨o0, ⟨n, hbad⟩ | ⟨g, g0, g1, hg⟩⟩
    · refine Or.inl ⟨o1, fun j hj => ?_⟩
      have hj0 := hj
      obtain ⟨s, es, i, hi, ei, ne⟩ := hj
      have ki := hL i hi
      by_cases q : j ≤ a
      · rw [T_lo (a := a) (by omega) (by omega) j q] at es
        exact hlo j (by omega) ⟨s, es, i, hi, ei, ne⟩
      · obtain ⟨n, hn⟩ : ∃ n, j = a + n := ⟨j - a, by omega⟩
        rw [hn] at hj0
        exact hok n (by omega) (by omega) ((hoff n (by omega)).mpr hj0)
    · refine Or.inr ⟨o0, fun l => absurd ((hoff n ?_).mp hbad) (l (a + n))⟩
      obtain ⟨s, _, i, hi, ei, _⟩ := hbad
      have := hL i hi
      omega
    · refine Or.inr ⟨o0, fun l => ?_⟩
      have m0 : g = 0 ∨ 1 ≤ g.toInt := by
        by_cases q : g.toInt = 0
        · exact Or.inl (z_of (k := 0) rfl q)
        · exact Or.inr (by omega)
      -- a run that does the same
      have same : ∀ qc qx qf qt : Int32, (∀ (n : Nat) (t u : CS), itN (cDay v_g_cells v_g_passes v_g_rivers v_g_villages v_g_rains v_g_room v_g_passFrom v_g_passTo v_g_riverCell v_g_riverLevel v_g_riverSalt v_g_villageCell v_g_need v_g_lawEnd v_g_code pc px pf pt p1 p2 p3 p4) n (v_c_pumped, v_c_today, v_c_lacked, v_c_level, v_c_water, v_c_salt, v_c_stack, u0, u1, u2, u3, u4, u5, u6, u7) = some t → n ≤ 1000 → (cDay v_g_cells v_g_passes v_g_rivers v_g_villages v_g_rains v_g_room v_g_passFrom v_g_passTo v_g_riverCell v_g_riverLevel v_g_riverSalt v_g_villageCell v_g_need v_g_lawEnd v_g_code pc px pf pt p1 p2 p3 p4) t = some u → ∃ u2, (cDay v_g_cells v_g_passes v_g_rivers v_g_villages v_g_rains v_g_room v_g_passFrom v_g_passTo v_g_riverCell v_g_riverLevel v_g_riverSalt v_g_villageCell v_g_need v_g_lawEnd v_g_code qc qx qf qt p1 p2 p3 p4) t = some u2 ∧ u.2 = u2.2) → ∀ n : Nat, n ≤ 400 → ∀ t, itN (cDay v_g_cells v_g_passes v_g_rivers v_g_villages v_g_rains v_g_room v_g_passFrom v_g_passTo v_g_riverCell v_g_riverLevel v_g_riverSalt v_g_villageCell v_g_need v_g_lawEnd v_g_code pc px pf pt p1 p2 p3 p4) n (v_c_pumped, v_c_today, v_c_lacked, v_c_level, v_c_water, v_c_salt, v_c_stack, u0, u1, u2, u3, u4, u5, u6, u7) = some t → ∃ t2, itN (cDay v_g_cells v_g_passes v_g_rivers v_g_villages v_g_rains v_g_room v_g_passFrom v_g_passTo v_g_riverCell v_g_riverLevel v_g_riverSalt v_g_villageCell v_g_need v_g_lawEnd v_g_code qc qx qf qt p1 p2 p3 p4) n (v_c_pumped, v_c_today, v_c_lacked, v_c_level, v_c_water, v_c_salt, v_c_stack, u0, u1, u2, u3, u4, u5, u6, u7) = some t2 ∧ t.2 = t2.2 := fun qc qx qf qt hq n hn t et => itN_rel (R := fun s t : CS => s.2 = t.2) rfl n (fun j hj t t2 u ht ht2 hR hu => by
        obtain ⟨u2, k1, k2⟩ := hq j t u ht (by omega) hu
        exact ⟨u2, (cD_ig hR).symm.trans k1, k2⟩) t et
      have hdn : ∀ (n : Nat) (t : CS), n ≤ 1000 → itN (cDay v_g_cells v_g_passes v_g_rivers v_g_villages v_g_rains v_g_room v_g_passFrom v_g_passTo v_g_riverCell v_g_riverLevel v_g_riverSalt v_g_villageCell v_g_need v_g_lawEnd v_g_code pc px pf pt p1 p2 p3 p4) n (v_c_pumped, v_c_today, v_c_lacked, v_c_level, v_c_water, v_c_salt, v_c_stack, u0, u1, u2, u3, u4, u5, u6, u7) = some t → (t.2.2.2.2.2.2.2.1).toInt = ((a + n : Nat) : Int) := fun n t hn et => itN_day (d := a) (by show u0.toInt = _; rw [e0]; exact hd0) n t (by omega) et
      -- what fits with the pump fits with the other run
      have fin_ : ∀ qc qx qf qt : Int32, -1 ≤ qc.toInt ∧ qc.toInt < v_g_cells.toInt → 0 ≤ qx.toInt → 0 ≤ qf.toInt ∧ qf.toInt ≤ 13 → (∀ j : Nat, j ≤ a → itN (cT v_g_cells v_g_passes v_g_rivers v_g_villages v_g_rains v_g_room v_g_passFrom v_g_passTo v_g_riverCell v_g_riverLevel v_g_riverSalt v_g_villageCell v_g_need v_g_lawEnd v_g_code v_g_passWidth v_g_riverWidth v_g_rain qc qx qf qt) j (S0 v_g_water) = itN (cT v_g_cells v_g_passes v_g_rivers v_g_villages v_g_rains v_g_room v_g_passFrom v_g_passTo v_g_riverCell v_g_riverLevel v_g_riverSalt v_g_villageCell v_g_need v_g_lawEnd v_g_code v_g_passWidth v_g_riverWidth v_g_rain (-1) 0 0 0) j (S0 v_g_water)) → (∀ (n : Nat) (t u : CS), itN (cDay v_g_cells v_g_passes v_g_rivers v_g_villages v_g_rains v_g_room v_g_passFrom v_g_passTo v_g_riverCell v_g_riverLevel v_g_riverSalt v_g_villageCell v_g_need v_g_lawEnd v_g_code pc px pf pt p1 p2 p3 p4) n (v_c_pumped, v_c_today, v_c_lacked, v_c_level, v_c_water, v_c_salt, v_c_stack, u0, u1, u2, u3, u4, u5, u6, u7) = some t → n ≤ 1000 → (cDay v_g_cells v_g_passes v_g_rivers v_g_villages v_g_rains v_g_room v_g_passFrom v_g_passTo v_g_riverCell v_g_riverLevel v_g_riverSalt v_g_villageCell v_g_need v_g_lawEnd v_g_code pc px pf pt p1 p2 p3 p4) t = some u → ∃ u2, (cDay v_g_cells v_g_passes v_g_rivers v_g_villages v_g_rains v_g_room v_g_passFrom v_g_passTo v_g_riverCell v_g_riverLevel v_g_riverSalt v_g_villageCell v_g_need v_g_lawEnd v_g_code qc qx qf qt p1 p2 p3 p4) t = some u2 ∧ u.2 = u2.2) → FP v_e_toldDay v_e_toldCell v_e_toldLevel v_g_cells v_g_passes v_g_rivers v_g_villages v_g_rains v_g_room v_g_passFrom v_g_passTo v_g_riverCell v_g_riverLevel v_g_riverSalt v_g_villageCell v_g_need v_g_lawEnd v_g_code v_g_water v_g_passWidth v_g_riverWidth v_g_rain K.toInt qc qx qf qt := fun qc qx qf qt hqc hqx hqf hql hq j hj => by
        have hj0 := hj
        obtain ⟨s, es, i, hi, ei, ne⟩ := hj
        have ki := hL i hi
        by_cases q : j ≤ a
        · rw [hql j q] at es
          exact hlo j (by omega) ⟨s, es, i, hi, ei, ne⟩
        · obtain ⟨n, hn⟩ : ∃ n, j = a + n := ⟨j - a, by omega⟩
          rw [hn] at hj0
          obtain ⟨t, et⟩ := ex n
          obtain ⟨t2, et2, e12⟩ := same qc qx qf qt hq n (by omega) t et
          obtain ⟨x, hx⟩ := itN_ex (tot qc qx qf qt _ _ _ _ ⟨by omega, by omega⟩ hqf) (a + n) (S0 v_g_water)
          have hx : itN (cT v_g_cells v_g_passes v_g_rivers v_g_villages v_g_rains v_g_room v_g_passFrom v_g_passTo v_g_riverCell v_g_riverLevel v_g_riverSalt v_g_villageCell v_g_need v_g_lawEnd v_g_code v_g_passWidth v_g_riverWidth v_g_rain qc qx qf qt) (a + n) (S0 v_g_water) = some x := hx
          have hx2 := hx
          rw [itN_add ((hql a (Nat.le_refl a)).trans ht0) n] at hx2
          have k2 := two_its y hne G a1 a2 a3 gx hwa gw hqc hqx hs hTe n t2 x (by omega) et2 hx2
          have k3 := (off_two htc et hx (TWO_2 k2 e12.symm)).mpr hj0
          exact l _ ((hoff n (by omega)).mp k3)
      rcases m0 with m0 | m1
      · refine absurd (fin_ (-1) 0 0 0 ⟨by decide, by show (-1 : Int) < _; omega⟩ (by decide) (by decide) (fun j _ => rfl) (fun n t u et hn eu => ?_)) hnn
        have hd := hdn n t hn et
        by_cases q : ((a + n : Nat) : Int) ≤ pt.toInt
        · have h1 := pon_on (pc := pc) (pf := pf) (pt := pt) hpc.1 (show pf.toInt ≤ (t.2.2.2.2.2.2.2.1).toInt by omega) (by omega)
          have k := hg n u q (itN_s et eu)
          rw [m0] at k
          exact ⟨_, cD_z h1 pon_none eu k, rfl⟩
        · have h1 := pon_hi (pc := pc) (pf := pf) (pt := pt) (show pt.toInt < (t.2.2.2.2.2.2.2.1).toInt by omega)
          exact ⟨u, (cD_off h1 pon_none).symm.trans eu, rfl⟩
      · refine ⟨g, m1, g1, fin_ pc g pf pt hpcN g0 hpf (fun j hj => T_lo (by omega) (by omega) j hj) (fun n t u et hn eu => ?_)⟩
        have hd := hdn n t hn et
        by_cases q : ((a + n : Nat) : Int) ≤ pt.toInt
        · have h1 := pon_on (pc := pc) (pf := pf) (pt := pt) hpc.1 (show pf.toInt ≤ (t.2.2.2.2.2.2.2.1).toInt by omega) (by omega)
          exact ⟨u, cD_g h1 eu (hg n u q (itN_s et eu)) g1, rfl⟩
        · have h1 := pon_hi (pc := pc) (pf := pf) (pt := pt) (show pt.toInt < (t.2.2.2.2.2.2.2.1).toInt by omega)
          exact ⟨u, (cD_off h1 h1).symm.trans eu, rfl⟩
  unfold f_X2_explains_BS
  refine pa_if (fun _ => pa_ck (fun _ => ?_)) (fun z => ?_)
  rotate_left
  · have := nlt_k (k := 14) rfl z
    omega
  refine pa_if (fun z => main 0 ((congrArg Int32.toInt z).trans rfl)) (fun z0 => ?_)
  refine pa_if (fun z => main 1 ((congrArg Int32.toInt z).trans rfl)) (fun z1 => ?_)
  refine pa_if (fun z => main 2 ((congrArg Int32.toInt z).trans rfl)) (fun z2 => ?_)
  refine pa_if (fun z => main 3 ((congrArg Int32.toInt z).trans rfl)) (fun z3 => ?_)
  refine pa_if (fun z => main 4 ((congrArg Int32.toInt z).trans rfl)) (fun z4 => ?_)
  refine pa_if (fun z => main 5 ((congrArg Int32.toInt z).trans rfl)) (fun z5 => ?_)
  refine pa_if (fun z => main 6 ((congrArg Int32.toInt z).trans rfl)) (fun z6 => ?_)
  refine pa_if (fun z => main 7 ((congrArg Int32.toInt z).trans rfl)) (fun z7 => ?_)
  refine pa_if (fun z => main 8 ((congrArg Int32.toInt z).trans rfl)) (fun z8 => ?_)
  refine pa_if (fun z => main 9 ((congrArg Int32.toInt z).trans rfl)) (fun z9 => ?_)
  refine pa_if (fun z => main 10 ((congrArg Int32.toInt z).trans rfl)) (fun z10 => ?_)
  refine pa_if (fun z => main 11 ((congrArg Int32.toInt z).trans rfl)) (fun z11 => ?_)
  refine pa_if (fun z => main 12 ((congrArg Int32.toInt z).trans rfl)) (fun z12 => ?_)
  refine pa_if (fun z => main 13 ((congrArg Int32.toInt z).trans rfl)) (fun z13 => ?_)
  exact pa_none
