/-! a day on both sides -/
theorem pj_and_r {α β : Type} {f : Option α} {g : Option β} {J : α → β → Prop} {P : β → Prop} (h : pj f g J) (k : pa g P) : pj f g (fun a b => J a b ∧ P b) := fun a b e1 e2 => ⟨h a b e1 e2, k b e2⟩
theorem pj_b3_1 {A0 A1 A2 β γ δ : Type} {f : Option (A0 × A1 × A2)} {g : Option β} {k : A0 → A1 → A2 → Option γ} {l : β → Option δ} {J : A0 × A1 × A2 → β → Prop} {R : γ → δ → Prop} (h : pj f g J) (q : ∀ a0 a1 a2 b, J (a0, a1, a2) b → pj (k a0 a1 a2) (l b) R) : pj (bd f (fun o => un3 o k)) (bd g l) R := pj_bb h (fun a b hab => q a.1 a.2.1 a.2.2 b hab)
theorem of_n {c : Nat} (h : c ≤ 1000) : (Int32.ofNat c).toInt = (c : Int) ∧ (Int32.ofNat c).toNatClampNeg = c := by
  have e : (Int32.ofNat c).toInt = (c : Int) := Int32.toInt_ofNat_of_lt (by omega)
  refine ⟨e, ?_⟩
  show (Int32.ofNat c).toInt.toNat = c
  rw [e]
  rfl
theorem RW_n {live ce : Int32} {cells mro : Nat → Int32} {row : Nat → Int64} {M : Int} (g : GC live cells mro) (hm : cells live.toNatClampNeg = ce) (h : RW live cells mro row M) (c : Nat) (hc : (c : Int) < ce.toInt) : 0 ≤ (row c).toInt ∧ (row c).toInt < (M + 1) * (mro (12 * live.toNatClampNeg + c)).toInt ∧ 1 ≤ (mro (12 * live.toNatClampNeg + c)).toInt ∧ (mro (12 * live.toNatClampNeg + c)).toInt ≤ 9 := by
  have h12 := g.2.1.2
  rw [hm] at h12
  obtain ⟨e1, e2⟩ := of_n (c := c) (by omega)
  have hn : nC live cells = ce.toInt := by unfold nC; rw [hm]
  have k := h (Int32.ofNat c) (by omega) (by omega)
  have k2 := g.2.2 (Int32.ofNat c) (by omega) (by omega)
  unfold rO at k k2
  rw [cl_S (k := 12) rfl (by decide) g.1 (by omega) (by omega), e2] at k k2
  exact ⟨k.1, k.2, k2.1, k2.2⟩
theorem mul9 {M r : Int} (hM : 0 ≤ M) (h0 : 1 ≤ r) (h9 : r ≤ 9) : (M + 1) * r ≤ (M + 1) * 9 := Int.mul_le_mul_of_nonneg_left h9 (by omega)
theorem pa_pair {α β : Type} {f : Option α} {t : β} {Q : α → Prop} (h : pa f Q) : pa (bd f (fun q => some (t, q))) (fun a => a.1 = t ∧ Q a.2) := pa_bd h (fun o ho => pa_some ⟨rfl, ho⟩)
/-! the pump on both sides -/
theorem c_pump0 {gpc gtk gfr gto day pumped : Int32} {water : Nat → Int32} {salt : Nat → Int64} (h : gpc = -1 ∨ day.toInt < gfr.toInt ∨ gto.toInt < day.toInt) : pa (f_X0_takeByPump gpc gtk gfr gto day pumped water salt) (fun o => o.1 = 0 ∧ o.2.1 = water ∧ o.2.2 = salt) := by
  have hp : pa (f_X4_pumpsOn gpc gfr gto day) (fun o => o = 0) := by
    unfold f_X4_pumpsOn
    refine pa_if (fun _ => pa_some rfl) (fun z => pa_if (fun _ => pa_some rfl) (fun y => pa_if (fun _ => pa_some rfl) (fun w => ?_)))
    have y1 := ti_nlt y
    have w1 := ti_nlt w
    exact absurd h (fun q => q.elim z (fun q => q.elim (fun q => by omega) (fun q => by omega)))
  unfold f_X0_takeByPump
  exact pa_bd hp (fun o ho => pa_if (fun _ => pa_some ⟨rfl, rfl, rfl⟩) (fun z => absurd ho z))
theorem c_pump1 {gpc gtk gfr gto day pumped : Int32} {water : Nat → Int32} {salt : Nat → Int64} (h0 : 0 ≤ gpc.toInt) (h1 : gfr.toInt ≤ day.toInt) (h2 : day.toInt ≤ gto.toInt) (hw : 0 ≤ (water gpc.toNatClampNeg).toInt) (ht : 0 ≤ gtk.toInt) : pa (f_X0_takeByPump gpc gtk gfr gto day pumped water salt) (fun o => o.1 = mi2 (water gpc.toNatClampNeg) gtk ∧ (∀ j, ¬ j = gpc.toNatClampNeg → o.2.1 j = water j ∧ o.2.2 j = salt j) ∧ o.2.1 gpc.toNatClampNeg = water gpc.toNatClampNeg - mi2 (water gpc.toNatClampNeg) gtk ∧ o.2.2 gpc.toNatClampNeg = salt gpc.toNatClampNeg - salt gpc.toNatClampNeg * (mi2 (water gpc.toNatClampNeg) gtk).toInt64 / (water gpc.toNatClampNeg).toInt64) := by
  have m1 : (-1 : Int32).toInt = -1 := by decide
  have hp : pa (f_X4_pumpsOn gpc gfr gto day) (fun o => o = 1) := by
    unfold f_X4_pumpsOn
    refine pa_if (fun z => ?_) (fun _ => pa_if (fun y => ?_) (fun _ => pa_if (fun w => ?_) (fun _ => pa_some rfl)))
    · have := z_eq m1 z
      omega
    · have := ti_lt y
      omega
    · have := ti_lt w
      omega
  have me := mi2_ti (water gpc.toNatClampNeg) gtk
  have hu : 0 ≤ (mi2 (water gpc.toNatClampNeg) gtk).toInt ∧ (mi2 (water gpc.toNatClampNeg) gtk).toInt ≤ (water gpc.toNatClampNeg).toInt := by
    rw [me]
    by_cases z : (water gpc.toNatClampNeg).toInt < gtk.toInt
    · rw [if_pos z]; exact ⟨hw, Int.le_refl _⟩
    · rw [if_neg z]; exact ⟨ht, by omega⟩
  unfold f_X0_takeByPump
  refine pa_bd hp (fun o ho => pa_if (fun z => absurd (ho.symm.trans z) (by decide)) (fun _ => pa_ck (fun _ => pa_nm (fun e4 he4 => ?_))))
  have he4 : e4 = mi2 (water gpc.toNatClampNeg) gtk := he4
  subst he4
  exact pa_bd2 (c_draw hu.1 hu.2) (fun w s hd => pa_some ⟨rfl, hd⟩)
theorem m_pump0 {day pc pm pf pt ib : Int32} {ta : Int64} {va pi : Nat → Int32} {row tk : Nat → Int64} {di wl : Nat → Int32} (h : pc.toInt < 0 ∨ day.toInt < pf.toInt ∨ pt.toInt < day.toInt) : pa (pump7 day pc pm pf pt ib ta va pi row tk di wl) (fun o => o = (ib, ta, va, pi, row, tk, di, wl)) := by
  unfold pump7
  refine pa_if (fun _ => pa_some rfl) (fun z => pa_bd (m_in day pf pt) (fun o ho => pa_if (fun _ => pa_some rfl) (fun y => ?_)))
  have z1 := nlt_k (k := 0) rfl z
  rcases ho with ⟨_, a, b⟩ | ⟨a, _⟩
  · exact absurd h (fun q => q.elim (fun q => by omega) (fun q => q.elim (fun q => by omega) (fun q => by omega)))
  · exact absurd a y
theorem m_pump1 {day pc pm pf pt ib : Int32} {ta : Int64} {va pi : Nat → Int32} {row tk : Nat → Int64} {di wl : Nat → Int32} {u : Int64} (h0 : 0 ≤ pc.toInt ∧ pc.toInt ≤ 11) (h1 : pf.toInt ≤ day.toInt) (h2 : day.toInt ≤ pt.toInt) (hu0 : pm.toInt64 ≤ row pc.toNatClampNeg → u = pm.toInt64) (hu1 : ¬ pm.toInt64 ≤ row pc.toNatClampNeg → u = row pc.toNatClampNeg) : pa (pump7 day pc pm pf pt ib ta va pi row tk di wl) (fun o => o.2.2.2.2.2.1 = tk ∧ o.2.2.2.2.2.2.1 = di ∧ o.2.2.2.2.2.2.2 = wl ∧ (∀ j, ¬ j = pc.toNatClampNeg → ¬ j = 12 + pc.toNatClampNeg → o.2.2.2.2.1 j = row j) ∧ o.2.2.2.2.1 pc.toNatClampNeg = row pc.toNatClampNeg - u ∧ o.2.2.2.2.1 (12 + pc.toNatClampNeg) = row (12 + pc.toNatClampNeg) - row (12 + pc.toNatClampNeg) * u / row pc.toNatClampNeg) := by
  have b319 : pa (f_X7_takes_b319 ib ta va pi row tk di wl pc u) (fun o => o.2.2.2.2.2.1 = tk ∧ o.2.2.2.2.2.2.1 = di ∧ o.2.2.2.2.2.2.2 = wl ∧ (∀ j, ¬ j = pc.toNatClampNeg → ¬ j = 12 + pc.toNatClampNeg → o.2.2.2.2.1 j = row j) ∧ o.2.2.2.2.1 pc.toNatClampNeg = row pc.toNatClampNeg - u ∧ o.2.2.2.2.1 (12 + pc.toNatClampNeg) = row (12 + pc.toNatClampNeg) - row (12 + pc.toNatClampNeg) * u / row pc.toNatClampNeg) := by
    unfold f_X7_takes_b319
    exact pa_bd (m_takesOut h0) (fun o ho => pa_some ⟨rfl, rfl, rfl, ho⟩)
  unfold pump7
  refine pa_if (fun z => ?_) (fun _ => pa_bd (m_in day pf pt) (fun o ho => pa_if (fun y => ?_) (fun _ => pa_ck (fun _ => pa_if (fun w => ?_) (fun w => pa_ck (fun _ => ?_))))))
  · have := lt_k (k := 0) rfl z
    omega
  · rcases ho with ⟨a, _⟩ | ⟨_, b⟩
    · exact absurd (a.symm.trans y) (by decide)
    · omega
  · have e := hu0 ((lg_cmp_ge _ _).mp w)
    rw [e] at b319 ⊢
    exact b319
  · have e := hu1 (fun q => w ((lg_cmp_ge _ _).mpr q))
    rw [e] at b319 ⊢
    exact b319
/-- the plan alike: what a run of days goes by -/
def PLN (live ch ca_ : Int32) (vi pp ri ra : Int) (pc pm pf pt gpc gtk gfr gto : Int32) (wanting pwc rwc rnc wants off wide rain rw : Nat → Int32) : Prop :=
  (∀ y : Int32, 0 ≤ y.toInt → y.toInt < vi → (OF ch ca_ off y → wanting y.toNatClampNeg = -2) ∧ (¬ OF ch ca_ off y → wanting y.toNatClampNeg = wants y.toNatClampNeg)) ∧
  (∀ x : Int32, 0 ≤ x.toInt → x.toInt < pp → (ch = 1 ∧ ca_ = x → pwc x.toNatClampNeg = 0) ∧ (¬ (ch = 1 ∧ ca_ = x) → pwc x.toNatClampNeg = wide x.toNatClampNeg)) ∧
  (∀ x : Int32, 0 ≤ x.toInt → x.toInt < ri → (ch = 2 ∧ ca_ = x → rwc x.toNatClampNeg = 0) ∧ (¬ (ch = 2 ∧ ca_ = x) → rwc x.toNatClampNeg = rw (3 * live.toNatClampNeg + x.toNatClampNeg))) ∧
  (∀ i : Nat, (i : Int) < ra → rnc i = rain i) ∧ gpc = pc ∧ -1 ≤ pc.toInt ∧ (0 ≤ pc.toInt → gtk = pm ∧ gfr = pf ∧ gto = pt)
/-- the ground alike, as far as days look at it -/
def GL (live ce pp ri vi ra : Int32) (room pfc ptc rcc rlc rsc vc nd le code5 cells mro passes one oth rivers rc rl rs rains villages home need lf lt_ code ci : Nat → Int32) : Prop :=
  cells live.toNatClampNeg = ce ∧ passes live.toNatClampNeg = pp ∧ rivers live.toNatClampNeg = ri ∧ villages live.toNatClampNeg = vi ∧ rains live.toNatClampNeg = ra ∧ AL room mro (12 * live.toNatClampNeg) ce.toInt ∧ AL pfc one (20 * live.toNatClampNeg) pp.toInt ∧ AL ptc oth (20 * live.toNatClampNeg) pp.toInt ∧ AL rcc rc (3 * live.toNatClampNeg) ri.toInt ∧ AL rlc rl (3 * live.toNatClampNeg) ri.toInt ∧ AL rsc rs (3 * live.toNatClampNeg) ri.toInt ∧ AL vc home (6 * live.toNatClampNeg) vi.toInt ∧ AL nd need (6 * live.toNatClampNeg) vi.toInt ∧ LWS live vi le code5 lf lt_ code ci vc
/-- behind the villages' turns and the pump -/
def TR (ce B : Int) (ch ca_ : Int32) (off : Nat → Int32) (vi : Int) (seen : Nat → Int32) (a : CT × (Int32 × (Nat → Int32) × (Nat → Int64))) (b : MT) : Prop := IV ce vi B ch ca_ off vi a.1.1 a.2.2.1 a.2.2.2 seen a.1.2.2.2.2.1 a.1.2.2.2.2.2.1 a.1.2.2.2.2.2.2.1 a.1.2.2.2.2.2.2.2 b.2.2.2.2.1 b.2.2.2.2.2.1 b.2.2.2.2.2.2.1 b.2.2.2.2.2.2.2
theorem IV_draw {ce vi B X : Int} {ch ca_ u : Int32} {off lacked water water' seen took dry first total di wl : Nat → Int32} {salt salt' row row' tk : Nat → Int64} {C : Nat} (hce : ce ≤ 12) (hv6 : vi ≤ 6) (hC : (C : Int) < ce) (h : IV ce vi B ch ca_ off X lacked water salt seen took dry first total row tk di wl) (hu : 0 ≤ u.toInt ∧ u.toInt ≤ (water C).toInt) (s2 : ∀ j, ¬ j = C → water' j = water j ∧ salt' j = salt j) (s4 : water' C = water C - u) (s5 : salt' C = salt C - salt C * u.toInt64 / (water C).toInt64) (r1 : ∀ j, ¬ j = C → ¬ j = 12 + C → row' j = row j) (r2 : row' C = row C - u.toInt64) (r3 : row' (12 + C) = row (12 + C) - row (12 + C) * u.toInt64 / row C) : IV ce vi B ch ca_ off X lacked water' salt' seen took dry first total row' tk di wl := by
  obtain ⟨i1, i2, i3, i4, i5⟩ := h
  refine ⟨fun c hc => ?_, fun c hc => ?_, fun c hc => ?_, fun v hv => ?_, i5⟩
  · by_cases q : c = C
    · subst q
      have wb := (rg_any (water c)).2
      rw [r2, s4, r3, s5, (i1 c hc).1, (i1 c hc).2, l_sub (by omega) (by omega)]
      exact ⟨rfl, rfl⟩
    · rw [r1 c q (by omega), r1 (12 + c) (by omega) (by omega), (s2 c q).1, (s2 c q).2]
      exact i1 c hc
  · by_cases q : c = C
    · subst q
      have wb := (rg_any (water c)).2
      rw [s4, Jvm.Kit.i32_sub (by omega) (by omega)]
      omega
    · rw [(s2 c q).1]
      exact i2 c hc
  · rw [r1 (24 + c) (by omega) (by omega)]
    exact i3 c hc
  · obtain ⟨a1, a2, a3, a4, a5⟩ := i4 v hv
    exact ⟨by rw [r1 _ (by omega) (by omega)]; exact a1, by rw [r1 _ (by omega) (by omega)]; exact a2, by rw [r1 _ (by omega) (by omega)]; exact a3, by rw [r1 _ (by omega) (by omega)]; exact a4, a5⟩
set_option maxHeartbeats 8000000 in
theorem j_turns {today vi day live ch ca_ pc pm pf pt gpc gtk gfr gto ce pp ri ra pumped ib : Int32} {B : Int} {ta : Int64} {room pfc ptc rcc rlc rsc vc nd le code5 wanting pwc rwc rnc seen cells mro passes one oth rivers rc rl rw rs rains villages home need lf lt_ code ci wants off wide rain lacked stack water took dry first total va pi di wl : Nat → Int32} {salt row tk : Nat → Int64} (y : DY live cells mro passes one oth rivers rc rl rw rains villages home lf lt_ code ci) (hne : NE live villages need) (G : GL live ce pp ri vi ra room pfc ptc rcc rlc rsc vc nd le code5 cells mro passes one oth rivers rc rl rs rains villages home need lf lt_ code ci) (p : PN live cells passes rains wants wide rain pc pm) (P : PLN live ch ca_ vi.toInt pp.toInt ri.toInt ra.toInt pc pm pf pt gpc gtk gfr gto wanting pwc rwc rnc wants off wide rain rw) (hB : 0 ≤ B ∧ B ≤ 2000000000) (hd : 0 ≤ day.toInt) (hT : pa (f_X7_rainOf live rains rain day) (fun o => o = today)) (hDA : DA ce.toInt vi.toInt B water salt seen took dry first total row) (hw : ∀ c : Nat, (c : Int) < ce.toInt → 0 ≤ (water c).toInt) : pj (bd (f_X0_takeTurns today vi vc nd le code5 wanting day seen lacked stack water salt took dry first total) (fun o => un8 o (fun a0 a1 a2 a3 a4 a5 a6 a7 => bd (f_X0_takeByPump gpc gtk gfr gto day pumped a2 a3) (fun q => some ((a0, a1, a2, a3, a4, a5, a6, a7), q))))) (f_X7_takes live day ch ca_ pc pm pf pt rains villages home need lf lt_ code ci wants off rain ib ta va pi row tk di wl) (TR ce.toInt B ch ca_ off vi.toInt seen) := by
  obtain ⟨g, w, hn, hv, hh⟩ := y
  obtain ⟨p1, p2, p3, p4, p5⟩ := p
  obtain ⟨G1, G2, G3, G4, G5, G6, G7, G8, G9, G10, G11, G12, G13, G14⟩ := G
  obtain ⟨P1, P2, P3, P4, P5, P6, P7⟩ := P
  have hl : 0 ≤ live.toInt ∧ live.toInt ≤ 1 := g.1
  have hc12 := g.2.1
  rw [G1] at hc12
  have hv6 := hv
  rw [G4] at hv6
  have hnC : nC live cells = ce.toInt := by unfold nC; rw [G1]
  have hhome : ∀ v : Nat, (v : Int) < vi.toInt → home (6 * live.toNatClampNeg + v) = vc v ∧ 0 ≤ (vc v).toInt ∧ (vc v).toInt < ce.toInt := by
    intro v hv2
    have h6 := hv6.2
    obtain ⟨e1, e2⟩ := of_n (c := v) (by omega)
    have k := hh (Int32.ofNat v) (by omega) (by rw [G4]; omega)
    have s6 : (((6 : Int32) * live) + Int32.ofNat v).toNatClampNeg = 6 * live.toNatClampNeg + v := by rw [cl_S (k := 6) rfl (by decide) hl (by omega) (by omega), e2]
    have kh : hA live home (Int32.ofNat v) = vc v := by unfold hA; rw [s6]; exact (G12 v hv2).symm
    rw [kh] at k
    exact ⟨(G12 v hv2).symm, k.1, by omega⟩
  have hWF : ∀ x : Int32, 0 ≤ x.toInt → x.toInt < vi.toInt → WF code ci (hA live lf x) (hA live lt_ x) := fun x x0 x1 => (hh x x0 (by rw [G4]; exact x1)).2.2
  have hneed : ∀ v : Nat, (v : Int) < vi.toInt → need (6 * live.toNatClampNeg + v) = nd v ∧ 0 ≤ (nd v).toInt ∧ (nd v).toInt ≤ 99 := by
    intro v hv2
    have h6 := hv6.2
    obtain ⟨e1, e2⟩ := of_n (c := v) (by omega)
    have k := hne (Int32.ofNat v) (by omega) (by rw [G4]; omega)
    have s6 : (((6 : Int32) * live) + Int32.ofNat v).toNatClampNeg = 6 * live.toNatClampNeg + v := by rw [cl_S (k := 6) rfl (by decide) hl (by omega) (by omega), e2]
    have kh : hA live need (Int32.ofNat v) = nd v := by unfold hA; rw [s6]; exact (G13 v hv2).symm
    rw [kh] at k
    exact ⟨(G13 v hv2).symm, k.1, k.2⟩
  have m2 : (-2 : Int32).toInt = -2 := by decide
  unfold f_X0_takeTurns f_X7_takes
  refine j_tk (B := B) hl G4 hv6 hc12.2 hB hd hhome hneed (fun x x0 x1 => ⟨(P1 x x0 x1).1, fun q k => ?_⟩) (fun x stack took dry row ib va pi x0 x1 hof h24 h36 h42 => ?_) (fun lacked stack water salt took dry first total ib ta va pi row tk di wl hI => ?_) fuel fuel lacked stack water salt took dry first total ib ta va pi row tk di wl 0 (by decide) hv6.1 ?_
  · have hx : rg x 0 5 := ⟨x0, by have := hv6.2; omega⟩
    rw [(P1 x x0 x1).2 q] at k
    have k1 := z_eq m2 k
    have k2 := (p3 x hx).1
    omega
  · have hx : rg x 0 5 := ⟨x0, by have := hv6.2; omega⟩
    have ex : (x.toNatClampNeg : Int) = x.toInt := cl_k x0
    obtain ⟨h1, h2, h3⟩ := hhome x.toNatClampNeg (by omega)
    have k := hh x x0 (by rw [G4]; exact x1)
    have jw := j_want (today := today) (stack := stack) (ib := ib) (va := va) (pi := pi) hl x0 x1 hv6.2 G14 h1 ⟨h2, by have := hc12.2; omega⟩ (hWF x x0 x1) ((P1 x x0 x1).2 hof) (p3 x hx).1 hT h24 h36 h42
    have sw := s_X7_wantOf live day rains home lf lt_ code ci row wants rain ib va pi x hl hx (g.lt k.1 k.2.1) k.2.2 (p3 x hx) hn hd p2
    refine pj_w (pj_and_r jw (pa_ok sw)) (fun a b hab => ⟨hab.1, ?_⟩)
    rw [hab.1]
    exact hab.2.1
  · show pj (bd (f_X0_takeByPump gpc gtk gfr gto day pumped water salt) (fun q => some ((lacked, stack, water, salt, took, dry, first, total), q))) (pump7 day pc pm pf pt ib ta va pi row tk di wl) _
    have m1 : (-1 : Int32).toInt = -1 := by decide
    have off_ : (gpc = -1 ∨ day.toInt < gfr.toInt ∨ gto.toInt < day.toInt) → (pc.toInt < 0 ∨ day.toInt < pf.toInt ∨ pt.toInt < day.toInt) → pj (bd (f_X0_takeByPump gpc gtk gfr gto day pumped water salt) (fun q => some ((lacked, stack, water, salt, took, dry, first, total), q))) (pump7 day pc pm pf pt ib ta va pi row tk di wl) (TR ce.toInt B ch ca_ off vi.toInt seen) := by
      intro q1 q2
      refine pj_of (pa_pair (t := (lacked, stack, water, salt, took, dry, first, total)) (c_pump0 q1)) (m_pump0 q2) (fun a b ha hb => ?_)
      obtain ⟨a1, a2, a3, a4⟩ := ha
      unfold TR
      rw [a1, a3, a4, hb]
      exact hI
    by_cases hpc : pc.toInt < 0
    · exact off_ (Or.inl (by rw [P5]; exact z_of m1 (by omega))) (Or.inl hpc)
    · obtain ⟨Q1, Q2, Q3⟩ := P7 (by omega)
      have hpcc : pc.toInt < ce.toInt := by omega
      by_cases hin : pf.toInt ≤ day.toInt ∧ day.toInt ≤ pt.toInt
      · have epc : (pc.toNatClampNeg : Int) = pc.toInt := cl_k (by omega)
        obtain ⟨i1, i2, i3, i4, i5⟩ := id hI
        have w0 := i2 pc.toNatClampNeg (by omega)
        have wt : (row pc.toNatClampNeg).toInt = (water pc.toNatClampNeg).toInt := l_ti (i1 pc.toNatClampNeg (by omega)).1
        have pm0 := p5 (by omega)
        have me := mi2_ti (water pc.toNatClampNeg) pm
        have em := Jvm.Kit.i64_of_i32 (mi2 (water pc.toNatClampNeg) pm)
        have e64 := Jvm.Kit.i64_of_i32 pm
        have c1 := c_pump1 (gpc := pc) (gtk := pm) (gfr := pf) (gto := pt) (day := day) (pumped := pumped) (water := water) (salt := salt) (by omega) hin.1 hin.2 w0 pm0
        rw [P5, Q1, Q2, Q3]
        refine pj_of (pa_pair (t := (lacked, stack, water, salt, took, dry, first, total)) c1) (m_pump1 (u := (mi2 (water pc.toNatClampNeg) pm).toInt64) ⟨by omega, by have := hc12.2; omega⟩ hin.1 hin.2 (fun q => ?_) (fun q => ?_)) (fun a b ha hb => ?_)
        · have q1 := Int64.le_iff_toInt_le.mp q
          rw [if_neg (by omega)] at me
          exact Int64.toInt_inj.mp (by omega)
        · have q1 : ¬ pm.toInt64.toInt ≤ (row pc.toNatClampNeg).toInt := fun k => q (Int64.le_iff_toInt_le.mpr k)
          rw [if_pos (by omega)] at me
          exact Int64.toInt_inj.mp (by omega)
        · obtain ⟨a1, a2, a3, a4, a5⟩ := ha
          obtain ⟨b1, b2, b3, b4, b5, b6⟩ := hb
          unfold TR
          rw [a1, b1, b2, b3]
          refine IV_draw hc12.2 hv6.2 (by omega) hI ?_ a3 a4 a5 b4 b5 b6
          by_cases z : (water pc.toNatClampNeg).toInt < pm.toInt
          · rw [if_pos z] at me; exact ⟨by omega, by omega⟩
          · rw [if_neg z] at me; exact ⟨by omega, by omega⟩
      · rcases (show day.toInt < pf.toInt ∨ pt.toInt < day.toInt by omega) with q | q
        · exact off_ (Or.inr (Or.inl (by rw [Q2]; exact q))) (Or.inr (Or.inl q))
        · exact off_ (Or.inr (Or.inr (by rw [Q3]; exact q))) (Or.inr (Or.inr q))
  · obtain ⟨D1, D2, D3⟩ := hDA
    refine ⟨D1, hw, D2, fun v hv2 => ?_, fun y y0 y1 => absurd y1 (by show ¬ y.toInt < 0; omega)⟩
    rw [if_neg (by show ¬ (v : Int) < 0; omega)]
    exact D3 v hv2
abbrev GT : Type := Int32 × Int32 × Int64 × Int64 × (Nat → Int32) × (Nat → Int32) × (Nat → Int64) × (Nat → Int64) × (Nat → Int32) × (Nat → Int32) × (Nat → Int64) × (Nat → Int64)
/-- behind a day; the WATER as numbers of 32 bits -/
def DR0 (ce B : Int) (ch ca_ : Int32) (off : Nat → Int32) (vi : Int) (rd : Int32) (a : OT) (b : GT) : Prop := a.2.2.2.2.2.2.2.1 = rd + 1 ∧ b.2.1 = rd + 1 ∧ (∀ c : Nat, (c : Int) < ce → a.2.2.2.2.2.2.2.2.1 c = (b.2.2.2.2.2.2.1 c).toInt32 ∧ a.2.2.2.2.2.2.2.2.2.1 c = b.2.2.2.2.2.2.1 (12 + c)) ∧ (∀ c : Nat, c < 12 → b.2.2.2.2.2.2.1 (24 + c) = (a.2.2.2.2.2.2.2.2.2.2.1 c).toInt64) ∧ (∀ v : Nat, (v : Int) < vi → DV (B + 1) v a.2.2.2.2.2.2.2.2.2.2.2.1 a.2.2.2.2.2.2.2.2.2.2.2.2.1 a.2.2.2.2.2.2.2.2.2.2.2.2.2.1 a.2.2.2.2.2.2.2.2.2.2.2.2.2.2 b.2.2.2.2.2.2.1) ∧ ∀ y : Int32, 0 ≤ y.toInt → y.toInt < vi → FG (OF ch ca_ off y) y.toNatClampNeg a.2.2.1 a.2.2.2.2.2.2.2.2.2.2.2.1 b.2.2.2.2.2.2.2.1 b.2.2.2.2.2.2.2.2.1 b.2.2.2.2.2.2.2.2.2.1
set_option maxHeartbeats 8000000 in
theorem j_day0 {today live ch ca_ pc pm pf pt gpc gtk gfr gto ce pp ri vi ra pumped ib rd : Int32} {B : Int} {ta raA : Int64} {room pfc ptc rcc rlc rsc vc nd le code5 wanting pwc rwc rnc seen cells mro passes one oth rivers rc rl rw rs rains villages home need lf lt_ code ci wants off wide rain lacked level kw stack water took dry first total va pi di wl : Nat → Int32} {ks salt row tk more ms : Nat → Int64} (y : DY live cells mro passes one oth rivers rc rl rw rains villages home lf lt_ code ci) (hne : NE live villages need) (G : GL live ce pp ri vi ra room pfc ptc rcc rlc rsc vc nd le code5 cells mro passes one oth rivers rc rl rs rains villages home need lf lt_ code ci) (p : PN live cells passes rains wants wide rain pc pm) (P : PLN live ch ca_ vi.toInt pp.toInt ri.toInt ra.toInt pc pm pf pt gpc gtk gfr gto wanting pwc rwc rnc wants off wide rain rw) (hr : RD live cells mro row rd B) (hB : B ≤ 1990000) (hDA : DA ce.toInt vi.toInt rd.toInt water salt seen took dry first total row) : pj (f_X0_oneDay ce pp ri vi ra room pfc ptc rcc rlc rsc vc nd le code5 gpc gtk gfr gto wanting pwc rwc rnc pumped today lacked level kw ks stack rd water salt seen took dry first total) (f_X7_goesBy live ch ca_ pc pm pf pt cells mro passes one oth rivers rc rl rw rs rains villages home need lf lt_ code ci wants off wide rain ib rd ta raA va pi row tk di wl more ms) (DR0 ce.toInt rd.toInt ch ca_ off vi.toInt rd) := by
  obtain ⟨g, w, hn, hv, hh⟩ := id y
  obtain ⟨p1, p2, p3, p4, p5⟩ := id p
  obtain ⟨G1, G2, G3, G4, G5, G6, G7, G8, G9, G10, G11, G12, G13, G14⟩ := id G
  obtain ⟨P1, P2, P3, P4, P5, P6, P7⟩ := id P
  obtain ⟨hd, hd2, hrw⟩ := hr
  have hl : 0 ≤ live.toInt ∧ live.toInt ≤ 1 := g.1
  have hc12 := g.2.1
  rw [G1] at hc12
  have hv6 := hv
  rw [G4] at hv6
  have hra := hn
  rw [G5] at hra
  have hroom : ∀ c : Nat, (c : Int) < ce.toInt → 1 ≤ (room c).toInt := fun c hc => by
    rw [G6 c hc]
    exact (RW_n g G1 hrw c hc).2.2.1
  have hw0 : ∀ c : Nat, (c : Int) < ce.toInt → 0 ≤ (water c).toInt ∧ (water c).toInt ≤ 2147483000 := fun c hc => by
    obtain ⟨w1, w2, w3, w4⟩ := RW_n g G1 hrw c hc
    have wt : (row c).toInt = (water c).toInt := l_ti (hDA.1 c hc).1
    have m9 := mul9 (M := 10000 + 99 * rd.toInt) (by omega) w3 w4
    omega
  unfold f_X0_oneDay f_X7_goesBy
  refine pj_b3_1 (pj_and_r (j_morning (today := today) hl G1 hc12 G5 hra.1 hd P4 (s_X7_rainOf live rains rain rd g.1 hn hd p2) G6 hroom hw0 hDA) (pa_ok (s_X7_sees live rd cells mro rains rain row g (by omega) hrw hn hd p2))) (fun a0 a1 a2 b hab => ?_)
  obtain ⟨⟨hT, hT9, hA1, hw1⟩, hrw1⟩ := hab
  have hT : pa (f_X7_rainOf live rains rain rd) (fun o => o = a0) := hT
  have hA1 : DA ce.toInt vi.toInt rd.toInt a1 salt a2 took dry first total b := hA1
  have hw1 : ∀ c : Nat, (c : Int) < ce.toInt → 0 ≤ (a1 c).toInt := hw1
  refine pj_two8 (pj_and_r (j_turns (pumped := pumped) (gtk := gtk) (gfr := gfr) (gto := gto) y hne G p P ⟨hd, by omega⟩ hd hT hA1 hw1) (pa_ok (s_X7_takes live rd ch ca_ pc pm pf pt cells mro rains villages home need lf lt_ code ci wants off rain ib ta va pi b tk di wl g (by omega) hrw1 hv (fun x h0 h1 => ⟨(hh x h0 h1).1, (hh x h0 h1).2.1⟩) (fun x row ib va pi h0 h1 => ?_) p4 p5))) (fun t0 t1 t2 t3 t4 t5 t6 t7 c b2 hab => ?_)
  · have hx : rg x 0 5 := ⟨h0, by have := hv.2; omega⟩
    have k := hh x h0 h1
    exact s_X7_wantOf live rd rains home lf lt_ code ci row wants rain ib va pi x g.1 hx (g.lt k.1 k.2.1) k.2.2 (p3 x hx) hn hd p2
  obtain ⟨c0, c1, c2⟩ := c
  obtain ⟨b0, b1, b2, b3, b4, b5, b6, b7⟩ := b2
  obtain ⟨hI, hrw2⟩ := hab
  have hI : IV ce.toInt vi.toInt rd.toInt ch ca_ off vi.toInt t0 c1 c2 a2 t4 t5 t6 t7 b4 b5 b6 b7 := hI
  have hrw2 : RW live cells mro b4 (10000 + 99 * rd.toInt + 99) := hrw2
  obtain ⟨i1, i2, i3, i4, i5⟩ := hI
  have hlook : pa (f_X0_lookAtLevels ce room c1 c2 level kw ks) (fun o => ∀ c : Nat, (c : Int) < ce.toInt → o.1 c = c1 c / room c ∧ o.2.1 c = c1 c ∧ o.2.2 c = c2 c) := by
    unfold f_X0_lookAtLevels
    exact c_look hc12 hroom fuel level kw ks 0 0 rfl hc12.1 (fun c hc => absurd hc (Nat.not_lt_zero c))
  refine pj_bl3 hlook (fun l0 l1 l2 hlk => ?_)
  have hlk : ∀ c : Nat, (c : Int) < ce.toInt → l0 c = c1 c / room c ∧ l1 c = c1 c ∧ l2 c = c2 c := hlk
  have hK : HK live ce.toInt (10000 + 99 * rd.toInt + 99) mro l0 l1 l2 b4 := by
    intro c hc
    obtain ⟨w1, w2, w3, w4⟩ := RW_n g G1 hrw2 c hc
    obtain ⟨e1, e2, e3⟩ := hlk c hc
    obtain ⟨j1, j2⟩ := i1 c hc
    have wt : (b4 c).toInt = (c1 c).toInt := l_ti j1
    have hrm : (room c).toInt = (mro (12 * live.toNatClampNeg + c)).toInt := by rw [G6 c hc]
    have lv := lev_le w3 w1 w2
    have tl : (l0 c).toInt = (b4 c).toInt / (mro (12 * live.toNatClampNeg + c)).toInt := by
      rw [e1, Jvm.Kit.i32_div (by omega), Int.tdiv_eq_ediv_of_nonneg (by omega), ← wt, hrm]
    refine ⟨?_, by rw [e2]; exact j1, by rw [e3]; exact j2, by rw [tl]; exact lv.1, by rw [tl]; exact lv.2.1, ?_⟩
    · rw [e1, l_div (by omega), j1, G6 c hc]
    · rw [tl, e2, ← wt]
      have l3 := lv.2.2.1
      have : (b4 c).toInt / (mro (12 * live.toNatClampNeg + c)).toInt * 1 ≤ (b4 c).toInt / (mro (12 * live.toNatClampNeg + c)).toInt * (mro (12 * live.toNatClampNeg + c)).toInt := Int.mul_le_mul_of_nonneg_left w3 lv.1
      omega
  have hp20 := w.1
  rw [G2] at hp20
  have hr3 := w.2.1
  rw [G3] at hr3
  have hnC : nC live cells = ce.toInt := by unfold nC; rw [G1]
  refine pj_bR (J := fun a b => FE ce.toInt c0 a0 t0 l0 l1 l2 t1 rd a2 t4 t5 t6 t7 b4 a b) ?_ (fun a b hab => pa_some ?_)
  · unfold f_X7_flows
    refine j_fl2 (fun m r_ more ms hz => j_fl22 hl G1 hc12 (M := 10000 + 99 * rd.toInt + 99) (by omega) (by omega) hK G3 hr3 G2 hp20 (fun x x0 x1 => ?_) (fun x x0 x1 => ?_) fuel m c1 c2 r_ more ms 0 (by decide) hp20.1 (fun c hc => ?_)) fuel raA more ms 0 0 rfl (by decide) (fun c hc => absurd hc (Nat.not_lt_zero c))
    · have ex : (x.toNatClampNeg : Int) = x.toInt := cl_k x0
      have s20 : (((20 : Int32) * live) + x).toNatClampNeg = 20 * live.toNatClampNeg + x.toNatClampNeg := cl_S (k := 20) rfl (by decide) hl x0 (by have := hp20.2; omega)
      have k := w.2.2.1 x x0 (by rw [G2]; exact x1)
      unfold pA at k
      rw [s20, ← G7 x.toNatClampNeg (by omega), ← G8 x.toNatClampNeg (by omega), hnC] at k
      have hwd := p1 x x0 (by rw [G2]; exact x1)
      obtain ⟨q1, q2⟩ := P2 x x0 x1
      refine ⟨(G7 x.toNatClampNeg (by omega)).symm, (G8 x.toNatClampNeg (by omega)).symm, ⟨k.1, k.2.1⟩, ⟨k.2.2.1, k.2.2.2.1⟩, k.2.2.2.2, ?_, q1, q2⟩
      by_cases z : ch = 1 ∧ ca_ = x
      · rw [q1 z]; exact ⟨by decide, by decide⟩
      · rw [q2 z]; exact hwd
    · have ex : (x.toNatClampNeg : Int) = x.toInt := cl_k x0
      have s3 : (((3 : Int32) * live) + x).toNatClampNeg = 3 * live.toNatClampNeg + x.toNatClampNeg := cl_S (k := 3) rfl (by decide) hl x0 (by have := hr3.2; omega)
      have k := w.2.2.2.1 x x0 (by rw [G3]; exact x1)
      unfold rA at k
      rw [s3, ← G9 x.toNatClampNeg (by omega), ← G10 x.toNatClampNeg (by omega), hnC] at k
      obtain ⟨q1, q2⟩ := P3 x x0 x1
      refine ⟨(G9 x.toNatClampNeg (by omega)).symm, (G10 x.toNatClampNeg (by omega)).symm, (G11 x.toNatClampNeg (by omega)).symm, k.1, k.2.1, k.2.2.1, ?_, q1, q2⟩
      by_cases z : ch = 2 ∧ ca_ = x
      · rw [q1 z]; exact ⟨by decide, by decide⟩
      · rw [q2 z]; exact k.2.2.2
    · obtain ⟨z1, z2⟩ := hz c (by have := hc12.2; omega)
      rw [z1, z2, Int64.add_zero, Int64.add_zero, (i1 c hc).1, l_32]
      exact ⟨rfl, (i1 c hc).2.symm⟩
  · obtain ⟨dw, ds, e, f1, f2⟩ := hab
    rw [e]
    refine ⟨rfl, rfl, f1, fun c hc => ?_, fun v hv2 => ?_, i5⟩
    · show b.2.1 (24 + c) = _
      rw [f2 _ (by omega)]
      exact i3 c hc
    · obtain ⟨d1, d2, d3, d4, d5⟩ := DV_mono (C := rd.toInt + 1) (i4 v hv2) (by by_cases z : (v : Int) < vi.toInt; rw [if_pos z]; exact Int.le_refl _; rw [if_neg z]; omega)
      refine ⟨?_, ?_, ?_, ?_, d5⟩
      · show b.2.1 (36 + v) = _
        rw [f2 _ (by omega)]; exact d1
      · show b.2.1 (42 + v) = _
        rw [f2 _ (by omega)]; exact d2
      · show b.2.1 (48 + v) = _
        rw [f2 _ (by omega)]; exact d3
      · show (b.2.1 (54 + v)).toInt32 = _
        rw [f2 _ (by omega)]; exact d4
/-- behind a day -/
def DR (live : Int32) (ce B : Int) (ch ca_ : Int32) (off : Nat → Int32) (vi : Int) (cells mro : Nat → Int32) (rd : Int32) (a : OT) (b : GT) : Prop := a.2.2.2.2.2.2.2.1 = rd + 1 ∧ b.2.1 = rd + 1 ∧ DA ce vi (rd.toInt + 1) a.2.2.2.2.2.2.2.2.1 a.2.2.2.2.2.2.2.2.2.1 a.2.2.2.2.2.2.2.2.2.2.1 a.2.2.2.2.2.2.2.2.2.2.2.1 a.2.2.2.2.2.2.2.2.2.2.2.2.1 a.2.2.2.2.2.2.2.2.2.2.2.2.2.1 a.2.2.2.2.2.2.2.2.2.2.2.2.2.2 b.2.2.2.2.2.2.1 ∧ RD live cells mro b.2.2.2.2.2.2.1 b.2.1 (B + 1) ∧ ∀ y : Int32, 0 ≤ y.toInt → y.toInt < vi → FG (OF ch ca_ off y) y.toNatClampNeg a.2.2.1 a.2.2.2.2.2.2.2.2.2.2.2.1 b.2.2.2.2.2.2.2.1 b.2.2.2.2.2.2.2.2.1 b.2.2.2.2.2.2.2.2.2.1
set_option maxHeartbeats 4000000 in
theorem j_day {today live ch ca_ pc pm pf pt gpc gtk gfr gto ce pp ri vi ra pumped ib rd : Int32} {B : Int} {ta raA : Int64} {room pfc ptc rcc rlc rsc vc nd le code5 wanting pwc rwc rnc seen cells mro passes one oth rivers rc rl rw rs rains villages home need lf lt_ code ci wants off wide rain lacked level kw stack water took dry first total va pi di wl : Nat → Int32} {ks salt row tk more ms : Nat → Int64} (y : DY live cells mro passes one oth rivers rc rl rw rains villages home lf lt_ code ci) (hne : NE live villages need) (G : GL live ce pp ri vi ra room pfc ptc rcc rlc rsc vc nd le code5 cells mro passes one oth rivers rc rl rs rains villages home need lf lt_ code ci) (p : PN live cells passes rains wants wide rain pc pm) (P : PLN live ch ca_ vi.toInt pp.toInt ri.toInt ra.toInt pc pm pf pt gpc gtk gfr gto wanting pwc rwc rnc wants off wide rain rw) (hr : RD live cells mro row rd B) (hB : B ≤ 1990000) (hDA : DA ce.toInt vi.toInt rd.toInt water salt seen took dry first total row) : pj (f_X0_oneDay ce pp ri vi ra room pfc ptc rcc rlc rsc vc nd le code5 gpc gtk gfr gto wanting pwc rwc rnc pumped today lacked level kw ks stack rd water salt seen took dry first total) (f_X7_goesBy live ch ca_ pc pm pf pt cells mro passes one oth rivers rc rl rw rs rains villages home need lf lt_ code ci wants off wide rain ib rd ta raA va pi row tk di wl more ms) (DR live ce.toInt B ch ca_ off vi.toInt cells mro rd) := by
  refine pj_w (pj_and_r (j_day0 (today := today) (pumped := pumped) (ib := ib) (ta := ta) (raA := raA) (lacked := lacked) (level := level) (kw := kw) (ks := ks) (stack := stack) (va := va) (pi := pi) (tk := tk) (di := di) (wl := wl) (more := more) (ms := ms) y hne G p P hr hB hDA) (pa_ok (t_X7_goesBy live ch ca_ pc pm pf pt cells mro passes one oth rivers rc rl rw rs rains villages home need lf lt_ code ci wants off wide rain ib rd ta raA va pi row tk di wl more ms y p hr (by omega)))) (fun a b hab => ?_)
  obtain ⟨⟨h1, h2, h3, h4, h5, h6⟩, h7, _⟩ := hab
  refine ⟨h1, h2, ⟨fun c hc => ⟨?_, (h3 c hc).2.symm⟩, h4, h5⟩, h7, h6⟩
  have t0 := hr.1
  have t9 := hr.2.1
  have tr : (rd + 1).toInt = rd.toInt + 1 := add_k rfl (by omega) (by omega)
  have hrw := h7.2.2
  rw [h2, tr] at hrw
  obtain ⟨w1, w2, w3, w4⟩ := RW_n y.1 G.1 hrw c hc
  have m9 := mul9 (M := 10000 + 99 * (rd.toInt + 1)) (by omega) w3 w4
  refine l_of ?_
  rw [(h3 c hc).1, Jvm.Kit.i32_of_i64 (by omega) (by omega)]
