/-! one telling, on the whole side -/
def GD (s : Int32) (cells room water ways passes one oth pw rivers rc rl rw rains rain villages home need lf lt_ code ci : Nat → Int32) (codes : Int) : Prop := CI s cells room water ∧ PI s cells passes one oth pw ∧ VI s cells rivers rc rl rw ∧ WY s cells passes one oth rivers rc ways ∧ RI s rains rain ∧ LI s cells villages home need lf lt_ code ci codes
def RG (s nm_ op codes t f w : Int32) (na cells room water ways passes one oth pw rivers rc rl rw rains rain villages home need lf lt_ code ci : Nat → Int32) : Prop := f.toInt = 0 → rg (cells s.toNatClampNeg) 0 12 ∧ rg (passes s.toNatClampNeg) 0 20 ∧ rg (rivers s.toNatClampNeg) 0 3 ∧ rg (rains s.toNatClampNeg) 0 14 ∧ rg (villages s.toNatClampNeg) 0 6 ∧ nm_.toInt = (cells s.toNatClampNeg).toInt + (villages s.toNatClampNeg).toInt ∧ NT nm_ na (nC s cells) ∧ op.toInt = 0 ∧ 420 * s.toInt ≤ codes.toInt ∧ codes.toInt ≤ 420 * s.toInt + t.toInt ∧ (w.toInt = 0 → GD s cells room water ways passes one oth pw rivers rc rl rw rains rain villages home need lf lt_ code ci codes.toInt)
def FM (s : Int32) (cells room water passes one oth pw rivers rc rl rw rains rain villages home need lf lt_ code ci cells0 room0 water0 passes0 one0 oth0 pw0 rivers0 rc0 rl0 rw0 rains0 rain0 villages0 home0 need0 lf0 lt_0 code0 ci0 : Nat → Int32) : Prop := OFF (1 * s.toInt) (1 * s.toInt + 1) cells cells0 ∧ OFF (12 * s.toInt) (12 * s.toInt + 12) room room0 ∧ OFF (12 * s.toInt) (12 * s.toInt + 12) water water0 ∧ OFF (1 * s.toInt) (1 * s.toInt + 1) passes passes0 ∧ OFF (20 * s.toInt) (20 * s.toInt + 20) one one0 ∧ OFF (20 * s.toInt) (20 * s.toInt + 20) oth oth0 ∧ OFF (20 * s.toInt) (20 * s.toInt + 20) pw pw0 ∧ OFF (1 * s.toInt) (1 * s.toInt + 1) rivers rivers0 ∧ OFF (3 * s.toInt) (3 * s.toInt + 3) rc rc0 ∧ OFF (3 * s.toInt) (3 * s.toInt + 3) rl rl0 ∧ OFF (3 * s.toInt) (3 * s.toInt + 3) rw rw0 ∧ OFF (1 * s.toInt) (1 * s.toInt + 1) rains rains0 ∧ OFF (14 * s.toInt) (14 * s.toInt + 14) rain rain0 ∧ OFF (1 * s.toInt) (1 * s.toInt + 1) villages villages0 ∧ OFF (6 * s.toInt) (6 * s.toInt + 6) home home0 ∧ OFF (6 * s.toInt) (6 * s.toInt + 6) need need0 ∧ OFF (6 * s.toInt) (6 * s.toInt + 6) lf lf0 ∧ OFF (6 * s.toInt) (6 * s.toInt + 6) lt_ lt_0 ∧ OFF (420 * s.toInt) (420 * s.toInt + 420) code code0 ∧ OFF (420 * s.toInt) (420 * s.toInt + 420) ci ci0
theorem FM_rf (s : Int32) (cells room water passes one oth pw rivers rc rl rw rains rain villages home need lf lt_ code ci : Nat → Int32) : FM s cells room water passes one oth pw rivers rc rl rw rains rain villages home need lf lt_ code ci cells room water passes one oth pw rivers rc rl rw rains rain villages home need lf lt_ code ci := ⟨OFF_rf _ _ _, OFF_rf _ _ _, OFF_rf _ _ _, OFF_rf _ _ _, OFF_rf _ _ _, OFF_rf _ _ _, OFF_rf _ _ _, OFF_rf _ _ _, OFF_rf _ _ _, OFF_rf _ _ _, OFF_rf _ _ _, OFF_rf _ _ _, OFF_rf _ _ _, OFF_rf _ _ _, OFF_rf _ _ _, OFF_rf _ _ _, OFF_rf _ _ _, OFF_rf _ _ _, OFF_rf _ _ _, OFF_rf _ _ _⟩
theorem FM_tr {s : Int32} {cells room water passes one oth pw rivers rc rl rw rains rain villages home need lf lt_ code ci cells0 room0 water0 passes0 one0 oth0 pw0 rivers0 rc0 rl0 rw0 rains0 rain0 villages0 home0 need0 lf0 lt_0 code0 ci0 cells1 room1 water1 passes1 one1 oth1 pw1 rivers1 rc1 rl1 rw1 rains1 rain1 villages1 home1 need1 lf1 lt_1 code1 ci1 : Nat → Int32} (h : FM s cells room water passes one oth pw rivers rc rl rw rains rain villages home need lf lt_ code ci cells0 room0 water0 passes0 one0 oth0 pw0 rivers0 rc0 rl0 rw0 rains0 rain0 villages0 home0 need0 lf0 lt_0 code0 ci0) (g : FM s cells0 room0 water0 passes0 one0 oth0 pw0 rivers0 rc0 rl0 rw0 rains0 rain0 villages0 home0 need0 lf0 lt_0 code0 ci0 cells1 room1 water1 passes1 one1 oth1 pw1 rivers1 rc1 rl1 rw1 rains1 rain1 villages1 home1 need1 lf1 lt_1 code1 ci1) : FM s cells room water passes one oth pw rivers rc rl rw rains rain villages home need lf lt_ code ci cells1 room1 water1 passes1 one1 oth1 pw1 rivers1 rc1 rl1 rw1 rains1 rain1 villages1 home1 need1 lf1 lt_1 code1 ci1 := by
  obtain ⟨h0, h1, h2, h3, h4, h5, h6, h7, h8, h9, h10, h11, h12, h13, h14, h15, h16, h17, h18, h19⟩ := h
  obtain ⟨g0, g1, g2, g3, g4, g5, g6, g7, g8, g9, g10, g11, g12, g13, g14, g15, g16, g17, g18, g19⟩ := g
  exact ⟨OFF_tr h0 g0, OFF_tr h1 g1, OFF_tr h2 g2, OFF_tr h3 g3, OFF_tr h4 g4, OFF_tr h5 g5, OFF_tr h6 g6, OFF_tr h7 g7, OFF_tr h8 g8, OFF_tr h9 g9, OFF_tr h10 g10, OFF_tr h11 g11, OFF_tr h12 g12, OFF_tr h13 g13, OFF_tr h14 g14, OFF_tr h15 g15, OFF_tr h16 g16, OFF_tr h17 g17, OFF_tr h18 g18, OFF_tr h19 g19⟩
abbrev TT : Type := Int32 × Int32 × Int32 × Int32 × Int32 × Int32 × Int32 × Int32 × Int32 × (Nat → Int64) × (Nat → Int32) × (Nat → Int32) × (Nat → Int32) × (Nat → Int32) × (Nat → Int32) × (Nat → Int32) × (Nat → Int32) × (Nat → Int32) × (Nat → Int32) × (Nat → Int32) × (Nat → Int32) × (Nat → Int32) × (Nat → Int32) × (Nat → Int32) × (Nat → Int32) × (Nat → Int32) × (Nat → Int32) × (Nat → Int32) × (Nat → Int32) × (Nat → Int32) × (Nat → Int32) × (Nat → Int32) × (Nat → Int32) × (Nat → Int32)
def TQ (s t f w : Int32) (cells room water passes one oth pw rivers rc rl rw rains rain villages home need lf lt_ code ci : Nat → Int32) (r : TT) : Prop := Adv 1 t f r.1 r.2.2.1 ∧ W9 w r.2.2.2.2.1 ∧ RG s r.2.2.2.2.2.2.1 r.2.1 r.2.2.2.2.2.2.2.1 r.1 r.2.2.1 r.2.2.2.2.1 r.2.2.2.2.2.2.2.2.2.2.1 r.2.2.2.2.2.2.2.2.2.2.2.1 r.2.2.2.2.2.2.2.2.2.2.2.2.1 r.2.2.2.2.2.2.2.2.2.2.2.2.2.1 r.2.2.2.2.2.2.2.2.2.2.2.2.2.2.1 r.2.2.2.2.2.2.2.2.2.2.2.2.2.2.2.1 r.2.2.2.2.2.2.2.2.2.2.2.2.2.2.2.2.1 r.2.2.2.2.2.2.2.2.2.2.2.2.2.2.2.2.2.1 r.2.2.2.2.2.2.2.2.2.2.2.2.2.2.2.2.2.2.1 r.2.2.2.2.2.2.2.2.2.2.2.2.2.2.2.2.2.2.2.1 r.2.2.2.2.2.2.2.2.2.2.2.2.2.2.2.2.2.2.2.2.1 r.2.2.2.2.2.2.2.2.2.2.2.2.2.2.2.2.2.2.2.2.2.1 r.2.2.2.2.2.2.2.2.2.2.2.2.2.2.2.2.2.2.2.2.2.2.1 r.2.2.2.2.2.2.2.2.2.2.2.2.2.2.2.2.2.2.2.2.2.2.2.2.1 r.2.2.2.2.2.2.2.2.2.2.2.2.2.2.2.2.2.2.2.2.2.2.2.2.2.1 r.2.2.2.2.2.2.2.2.2.2.2.2.2.2.2.2.2.2.2.2.2.2.2.2.2.2.1 r.2.2.2.2.2.2.2.2.2.2.2.2.2.2.2.2.2.2.2.2.2.2.2.2.2.2.2.1 r.2.2.2.2.2.2.2.2.2.2.2.2.2.2.2.2.2.2.2.2.2.2.2.2.2.2.2.2.1 r.2.2.2.2.2.2.2.2.2.2.2.2.2.2.2.2.2.2.2.2.2.2.2.2.2.2.2.2.2.1 r.2.2.2.2.2.2.2.2.2.2.2.2.2.2.2.2.2.2.2.2.2.2.2.2.2.2.2.2.2.2.1 r.2.2.2.2.2.2.2.2.2.2.2.2.2.2.2.2.2.2.2.2.2.2.2.2.2.2.2.2.2.2.2.1 r.2.2.2.2.2.2.2.2.2.2.2.2.2.2.2.2.2.2.2.2.2.2.2.2.2.2.2.2.2.2.2.2.1 ∧ FM s r.2.2.2.2.2.2.2.2.2.2.2.1 r.2.2.2.2.2.2.2.2.2.2.2.2.1 r.2.2.2.2.2.2.2.2.2.2.2.2.2.1 r.2.2.2.2.2.2.2.2.2.2.2.2.2.2.2.1 r.2.2.2.2.2.2.2.2.2.2.2.2.2.2.2.2.1 r.2.2.2.2.2.2.2.2.2.2.2.2.2.2.2.2.2.1 r.2.2.2.2.2.2.2.2.2.2.2.2.2.2.2.2.2.2.1 r.2.2.2.2.2.2.2.2.2.2.2.2.2.2.2.2.2.2.2.1 r.2.2.2.2.2.2.2.2.2.2.2.2.2.2.2.2.2.2.2.2.1 r.2.2.2.2.2.2.2.2.2.2.2.2.2.2.2.2.2.2.2.2.2.1 r.2.2.2.2.2.2.2.2.2.2.2.2.2.2.2.2.2.2.2.2.2.2.1 r.2.2.2.2.2.2.2.2.2.2.2.2.2.2.2.2.2.2.2.2.2.2.2.2.1 r.2.2.2.2.2.2.2.2.2.2.2.2.2.2.2.2.2.2.2.2.2.2.2.2.2.1 r.2.2.2.2.2.2.2.2.2.2.2.2.2.2.2.2.2.2.2.2.2.2.2.2.2.2.1 r.2.2.2.2.2.2.2.2.2.2.2.2.2.2.2.2.2.2.2.2.2.2.2.2.2.2.2.1 r.2.2.2.2.2.2.2.2.2.2.2.2.2.2.2.2.2.2.2.2.2.2.2.2.2.2.2.2.1 r.2.2.2.2.2.2.2.2.2.2.2.2.2.2.2.2.2.2.2.2.2.2.2.2.2.2.2.2.2.1 r.2.2.2.2.2.2.2.2.2.2.2.2.2.2.2.2.2.2.2.2.2.2.2.2.2.2.2.2.2.2.1 r.2.2.2.2.2.2.2.2.2.2.2.2.2.2.2.2.2.2.2.2.2.2.2.2.2.2.2.2.2.2.2.1 r.2.2.2.2.2.2.2.2.2.2.2.2.2.2.2.2.2.2.2.2.2.2.2.2.2.2.2.2.2.2.2.2.1 cells room water passes one oth pw rivers rc rl rw rains rain villages home need lf lt_ code ci
theorem s_X7_tell (s : Int32) (kind pl val : Nat → Int32) (tn : Nat → Int64) (t op f fp w wp nm_ codes waiting : Int32) (no : Nat → Int64) (na cells room water ways passes one oth pw rivers rc rl rw rs rains rain villages home need lf lt_ code ci waits : Nat → Int32) (hs : rg s 0 1) (h : T4 t f) (hf : f.toInt = 0) (hw : 0 ≤ w.toInt ∧ w.toInt ≤ 9) (hG : RG s nm_ op codes t f w na cells room water ways passes one oth pw rivers rc rl rw rains rain villages home need lf lt_ code ci) : ok (f_X7_tell s kind pl val tn t op f fp w wp nm_ codes waiting no na cells room water ways passes one oth pw rivers rc rl rw rs rains rain villages home need lf lt_ code ci waits) (TQ s t f w cells room water passes one oth pw rivers rc rl rw rains rain villages home need lf lt_ code ci) := by
  unfold f_X7_tell
  have p1 := hs.1
  have p2 := hs.2
  have h1 := h.1
  have is := inb_k (x := s) (n := 2) p1 (by omega)
  obtain ⟨gc, gp, gr, gn, gv, gm, gN, go, gk0, gk1, gD⟩ := hG hf
  have gc0 := gc.1
  have gc1 := gc.2
  have gp0 := gp.1
  have gp1 := gp.2
  have gr0 := gr.1
  have gr1 := gr.2
  have gv0 := gv.1
  have gv1 := gv.2
  have hW0 : W9 w w := ⟨hw, fun z => z⟩
  -- a fault: nothing has changed
  have bad : ∀ (t' f' fp' : Int32), Adv 1 t f t' f' → ¬ f'.toInt = 0 → ok (some (t', op, f', fp', w, wp, nm_, codes, waiting, no, na, cells, room, water, ways, passes, one, oth, pw, rivers, rc, rl, rw, rs, rains, rain, villages, home, need, lf, lt_, code, ci, waits)) (TQ s t f w cells room water passes one oth pw rivers rc rl rw rains rain villages home need lf lt_ code ci) := fun t' f' fp' a b => ok_some ⟨a, hW0, fun z => absurd z b, FM_rf s _ _ _ _ _ _ _ _ _ _ _ _ _ _ _ _ _ _ _ _⟩
  refine ok_ck (inb_k h1.1 (by omega)) (ok_if (fun _ => ?_) (fun _ => ok_if (fun _ => ?_) (fun _ => ok_if (fun _ => ?_) (fun _ => ok_if (fun _ => ?_) (fun _ => ok_if (fun _ => ?_) (fun _ => ?_))))))
  · refine ok_ck is (ok_bd3 (s_X7_roomFor pl t f fp (cells s.toNatClampNeg) 12 h) (fun t1 f1 fp1 hr => ?_))
    replace hr : Adv 1 t f t1 f1 ∧ (f1.toInt = 0 → ¬ cells s.toNatClampNeg = 12) := hr
    refine ok_if (fun c => ?_) (fun c => bad t1 f1 fp1 hr.1 (z_ne (k := 0) rfl c))
    have c2 := z_eq (k := 0) rfl c
    have n12 := z_ne (k := 12) rfl (hr.2 c2)
    refine ok_bd12 (s_X7_tellCell s kind pl val tn t1 f1 fp1 w wp nm_ no na cells room water ways hs hr.1.t4 hw (by omega) gc0 (by unfold nC; omega) gN) (fun r0 r1 r2 r3 r4 r5 r6 r7 r8 r9 r10 r11 hp => ?_)
    obtain ⟨a1, a2, ⟨v1, v2, e1, e2, e3, e4⟩, a4⟩ := hp
    replace a1 : Adv 1 t1 f1 r0 r1 := a1
    replace e1 : r9 = upd room (((12 : Int32) * s) + cells s.toNatClampNeg).toNatClampNeg v1 := e1
    replace e2 : r10 = upd water (((12 : Int32) * s) + cells s.toNatClampNeg).toNatClampNeg v2 := e2
    replace e3 : r11 = upd ways (((12 : Int32) * s) + cells s.toNatClampNeg).toNatClampNeg 0 := e3
    replace a4 : (¬ r1.toInt = 0 ∧ r8 = cells) ∨ (r8 = upd cells s.toNatClampNeg (cells s.toNatClampNeg + 1) ∧ r5.toInt = nm_.toInt + 1 ∧ NT r5 r7 (nC s cells + 1)) := a4
    have oc : OFF (1 * s.toInt) (1 * s.toInt + 1) r8 cells := by
      rcases a4 with q | q
      · rw [q.2]; exact OFF_rf _ _ _
      · exact ct_off hs q.1
    refine ok_some ⟨(hr.1.tr a1 (m := 2) rfl).w (by decide), a2, fun z => ?_, ⟨oc, sd_off (K := 12) (k := 12) rfl (by decide) hs gc0 (by omega) e1, sd_off (K := 12) (k := 12) rfl (by decide) hs gc0 (by omega) e2, OFF_rf _ _ _, OFF_rf _ _ _, OFF_rf _ _ _, OFF_rf _ _ _, OFF_rf _ _ _, OFF_rf _ _ _, OFF_rf _ _ _, OFF_rf _ _ _, OFF_rf _ _ _, OFF_rf _ _ _, OFF_rf _ _ _, OFF_rf _ _ _, OFF_rf _ _ _, OFF_rf _ _ _, OFF_rf _ _ _, OFF_rf _ _ _, OFF_rf _ _ _⟩⟩
    replace z : r1.toInt = 0 := z
    rcases a4 with q | ⟨q1, q2, q3⟩
    · exact absurd z q.1
    have en := nC_up q1 gc0 (by omega)
    have ec : nC s r8 = nC s cells + 1 := en
    have ta := (a1.2.2.2 z).2
    have tb := hr.1.2.2.1
    refine ⟨show rg (r8 s.toNatClampNeg) 0 12 from ⟨by omega, by omega⟩, gp, gr, gn, gv, show r5.toInt = (r8 s.toNatClampNeg).toInt + (villages s.toNatClampNeg).toInt by omega, show NT r5 r7 (nC s r8) by rw [ec]; exact q3, go, gk0, by show codes.toInt ≤ 420 * s.toInt + r0.toInt; omega, fun z2 => ?_⟩
    obtain ⟨d1, d2, d3, d4, d5, d6⟩ := gD (a2.2 z2)
    have hle : nC s cells ≤ nC s r8 := by rw [ec]; omega
    exact ⟨CI_add hs gc0 (by unfold nC; omega) q1 e1 e2 (e4 z z2) d1, PI_c hle d2, VI_c hle d3, WY_cell hs gc0 (by unfold nC; omega) gp gr q1 e3 d2 d3 d4, d5, LI_c hle d6⟩
  · refine ok_ck is (ok_bd3 (s_X7_roomFor pl t f fp (passes s.toNatClampNeg) 20 h) (fun t1 f1 fp1 hr => ?_))
    replace hr : Adv 1 t f t1 f1 ∧ (f1.toInt = 0 → ¬ passes s.toNatClampNeg = 20) := hr
    refine ok_if (fun c => ?_) (fun c => bad t1 f1 fp1 hr.1 (z_ne (k := 0) rfl c))
    have c2 := z_eq (k := 0) rfl c
    have n20 := z_ne (k := 20) rfl (hr.2 c2)
    have t11 := (hr.1.2.2.2 c2).2
    have t12 := hr.1.1.2
    have tq := sub_k (x := t1) (v := 1) (k := 1) rfl (by omega) (by omega)
    refine ok_bd10 (s_X7_tellPass s nm_ kind pl val tn no na t1 f1 fp1 w wp ways passes one oth pw (t1 - 1) (C := nC s cells) hs hr.1.t4 hw (by omega) gc0 gc1 gN gp0 (by omega) (by omega)) (fun r0 r1 r2 r3 r4 r5 r6 r7 r8 r9 hp => ?_)
    obtain ⟨a1, a2, a3, a, b, v, e1, e2, e3, e4⟩ := hp
    replace a1 : Adv 1 t1 f1 r0 r1 := a1
    replace e1 : r7 = upd one (((20 : Int32) * s) + passes s.toNatClampNeg).toNatClampNeg a := e1
    replace e2 : r8 = upd oth (((20 : Int32) * s) + passes s.toNatClampNeg).toNatClampNeg b := e2
    replace e3 : r9 = upd pw (((20 : Int32) * s) + passes s.toNatClampNeg).toNatClampNeg v := e3
    replace a3 : (¬ r1.toInt = 0 ∧ r6 = passes) ∨ r6 = upd passes s.toNatClampNeg (passes s.toNatClampNeg + 1) := a3
    have oc : OFF (1 * s.toInt) (1 * s.toInt + 1) r6 passes := by
      rcases a3 with q | q
      · rw [q.2]; exact OFF_rf _ _ _
      · exact ct_off hs q
    refine ok_some ⟨(hr.1.tr a1 (m := 2) rfl).w (by decide), a2, fun z => ?_, ⟨OFF_rf _ _ _, OFF_rf _ _ _, OFF_rf _ _ _, oc, sd_off (K := 20) (k := 20) rfl (by decide) hs gp0 (by omega) e1, sd_off (K := 20) (k := 20) rfl (by decide) hs gp0 (by omega) e2, sd_off (K := 20) (k := 20) rfl (by decide) hs gp0 (by omega) e3, OFF_rf _ _ _, OFF_rf _ _ _, OFF_rf _ _ _, OFF_rf _ _ _, OFF_rf _ _ _, OFF_rf _ _ _, OFF_rf _ _ _, OFF_rf _ _ _, OFF_rf _ _ _, OFF_rf _ _ _, OFF_rf _ _ _, OFF_rf _ _ _, OFF_rf _ _ _⟩⟩
    replace z : r1.toInt = 0 := z
    rcases a3 with q | q1
    · exact absurd z q.1
    have en := nC_up q1 gp0 (by omega)
    have ta := (a1.2.2.2 z).2
    have tb := hr.1.2.2.1
    refine ⟨gc, show rg (r6 s.toNatClampNeg) 0 20 from ⟨by omega, by omega⟩, gr, gn, gv, gm, gN, go, gk0, by show codes.toInt ≤ 420 * s.toInt + r0.toInt; omega, fun z2 => ?_⟩
    obtain ⟨d1, d2, d3, d4, d5, d6⟩ := gD (a2.2 z2)
    obtain ⟨k1, k2, k3, k4, k5⟩ := e4 z z2
    exact ⟨d1, PI_add hs gp0 (by omega) q1 e1 e2 e3 k1 k2 k3 k4 d2, d3, WY_pass hs gc1 gp0 (by omega) q1 e1 e2 k5 d4, d5, d6⟩
  · refine ok_ck is (ok_bd3 (s_X7_roomFor pl t f fp (rivers s.toNatClampNeg) 3 h) (fun t1 f1 fp1 hr => ?_))
    replace hr : Adv 1 t f t1 f1 ∧ (f1.toInt = 0 → ¬ rivers s.toNatClampNeg = 3) := hr
    refine ok_if (fun c => ?_) (fun c => bad t1 f1 fp1 hr.1 (z_ne (k := 0) rfl c))
    have c2 := z_eq (k := 0) rfl c
    have n3 := z_ne (k := 3) rfl (hr.2 c2)
    have t11 := (hr.1.2.2.2 c2).2
    have t12 := hr.1.1.2
    have tq := sub_k (x := t1) (v := 1) (k := 1) rfl (by omega) (by omega)
    refine ok_bd11 (s_X7_tellRiver s nm_ kind pl val tn no na t1 f1 fp1 w wp ways rivers rc rl rw rs (t1 - 1) (C := nC s cells) hs hr.1.t4 hw (by omega) gc0 gc1 gN gr0 (by omega) (by omega)) (fun r0 r1 r2 r3 r4 r5 r6 r7 r8 r9 r10 hp => ?_)
    obtain ⟨a1, a2, a3, a, v, u, e1, e2, e3, e4⟩ := hp
    replace a1 : Adv 1 t1 f1 r0 r1 := a1
    replace e1 : r7 = upd rc (((3 : Int32) * s) + rivers s.toNatClampNeg).toNatClampNeg a := e1
    replace e2 : r8 = upd rl (((3 : Int32) * s) + rivers s.toNatClampNeg).toNatClampNeg v := e2
    replace e3 : r9 = upd rw (((3 : Int32) * s) + rivers s.toNatClampNeg).toNatClampNeg u := e3
    replace a3 : (¬ r1.toInt = 0 ∧ r6 = rivers) ∨ r6 = upd rivers s.toNatClampNeg (rivers s.toNatClampNeg + 1) := a3
    have oc : OFF (1 * s.toInt) (1 * s.toInt + 1) r6 rivers := by
      rcases a3 with q | q
      · rw [q.2]; exact OFF_rf _ _ _
      · exact ct_off hs q
    refine ok_some ⟨(hr.1.tr a1 (m := 2) rfl).w (by decide), a2, fun z => ?_, ⟨OFF_rf _ _ _, OFF_rf _ _ _, OFF_rf _ _ _, OFF_rf _ _ _, OFF_rf _ _ _, OFF_rf _ _ _, OFF_rf _ _ _, oc, sd_off (K := 3) (k := 3) rfl (by decide) hs gr0 (by omega) e1, sd_off (K := 3) (k := 3) rfl (by decide) hs gr0 (by omega) e2, sd_off (K := 3) (k := 3) rfl (by decide) hs gr0 (by omega) e3, OFF_rf _ _ _, OFF_rf _ _ _, OFF_rf _ _ _, OFF_rf _ _ _, OFF_rf _ _ _, OFF_rf _ _ _, OFF_rf _ _ _, OFF_rf _ _ _, OFF_rf _ _ _⟩⟩
    replace z : r1.toInt = 0 := z
    rcases a3 with q | q1
    · exact absurd z q.1
    have en := nC_up q1 gr0 (by omega)
    have ta := (a1.2.2.2 z).2
    have tb := hr.1.2.2.1
    refine ⟨gc, gp, show rg (r6 s.toNatClampNeg) 0 3 from ⟨by omega, by omega⟩, gn, gv, gm, gN, go, gk0, by show codes.toInt ≤ 420 * s.toInt + r0.toInt; omega, fun z2 => ?_⟩
    obtain ⟨d1, d2, d3, d4, d5, d6⟩ := gD (a2.2 z2)
    obtain ⟨k1, k2, k3, k4⟩ := e4 z z2
    exact ⟨d1, d2, VI_add hs gr0 (by omega) q1 e1 e2 e3 k1 k2 k3 d3, WY_river hs gc1 gr0 (by omega) q1 e1 k4 d4, d5, d6⟩
  · refine ok_bd3 (s_X7_goesOn pl t f fp h) (fun t1 f1 fp1 hr => ?_)
    replace hr : Adv 1 t f t1 f1 ∧ t1.toInt ≤ t.toInt + 1 := hr
    refine ok_bd7 (s_X7_tellRain s kind pl val t1 f1 fp1 w wp rains rain hs hr.1.t4 hw) (fun r0 r1 r2 r3 r4 r5 r6 hp => ?_)
    obtain ⟨a1, a2, a3, a4, a5⟩ := hp
    replace a1 : Adv 0 t1 f1 r0 r1 := a1
    refine ok_some ⟨(hr.1.tr a1 (m := 1) rfl), a2, fun z => ?_, ⟨OFF_rf _ _ _, OFF_rf _ _ _, OFF_rf _ _ _, OFF_rf _ _ _, OFF_rf _ _ _, OFF_rf _ _ _, OFF_rf _ _ _, OFF_rf _ _ _, OFF_rf _ _ _, OFF_rf _ _ _, OFF_rf _ _ _, a3, a4, OFF_rf _ _ _, OFF_rf _ _ _, OFF_rf _ _ _, OFF_rf _ _ _, OFF_rf _ _ _, OFF_rf _ _ _, OFF_rf _ _ _⟩⟩
    replace z : r1.toInt = 0 := z
    obtain ⟨k1, k2⟩ := a5 z
    have ta := a1.2.2.1
    have tb := hr.1.2.2.1
    refine ⟨gc, gp, gr, ⟨k1.1, k1.2⟩, gv, gm, gN, go, gk0, by show codes.toInt ≤ 420 * s.toInt + r0.toInt; omega, fun z2 => ?_⟩
    obtain ⟨d1, d2, d3, d4, d5, d6⟩ := gD (a2.2 z2)
    exact ⟨d1, d2, d3, d4, k2 z2, d6⟩
  · refine ok_ck is (ok_bd3 (s_X7_roomFor pl t f fp (villages s.toNatClampNeg) 6 h) (fun t1 f1 fp1 hr => ?_))
    replace hr : Adv 1 t f t1 f1 ∧ (f1.toInt = 0 → ¬ villages s.toNatClampNeg = 6) := hr
    refine ok_if (fun c => ?_) (fun c => bad t1 f1 fp1 hr.1 (z_ne (k := 0) rfl c))
    have c2 := z_eq (k := 0) rfl c
    have n6 := z_ne (k := 6) rfl (hr.2 c2)
    have t11 := (hr.1.2.2.2 c2).2
    refine ok_bd19 (s_X7_tellVillage s kind pl val tn t1 op f1 fp1 w wp nm_ codes waiting no na villages home need lf lt_ code ci waits (C := nC s cells) hs hr.1.t4 hw go (by omega) gc0 gc1 gN gv0 (by omega) gk0 (by omega)) (fun r0 r1 r2 r3 r4 r5 r6 r7 r8 r9 r10 r11 r12 r13 r14 r15 r16 r17 r18 hp => ?_)
    obtain ⟨a1, a2, a3, a4, hh, v, e1, e2, e3, e4, e5⟩ := hp
    replace a1 : Adv 1 t1 f1 r0 r2 := a1
    replace e1 : r12 = upd home (((6 : Int32) * s) + villages s.toNatClampNeg).toNatClampNeg hh := e1
    replace e2 : r13 = upd need (((6 : Int32) * s) + villages s.toNatClampNeg).toNatClampNeg v := e2
    replace e3 : r14 = upd lf (((6 : Int32) * s) + villages s.toNatClampNeg).toNatClampNeg codes := e3
    replace e4 : r15 = upd lt_ (((6 : Int32) * s) + villages s.toNatClampNeg).toNatClampNeg r7 := e4
    replace a4 : (¬ r2.toInt = 0 ∧ r11 = villages) ∨ (r11 = upd villages s.toNatClampNeg (villages s.toNatClampNeg + 1) ∧ r6.toInt = nm_.toInt + 1 ∧ NT r6 r10 (nC s cells) ∧ r1.toInt = 0 ∧ CO s code ci codes r7 r16 r17 0 1 r0.toInt) := a4
    have oc : OFF (1 * s.toInt) (1 * s.toInt + 1) r11 villages := by
      rcases a4 with q | q
      · rw [q.2]; exact OFF_rf _ _ _
      · exact ct_off hs q.1
    refine ok_some ⟨(hr.1.tr a1 (m := 2) rfl).w (by decide), a2, fun z => ?_, ⟨OFF_rf _ _ _, OFF_rf _ _ _, OFF_rf _ _ _, OFF_rf _ _ _, OFF_rf _ _ _, OFF_rf _ _ _, OFF_rf _ _ _, OFF_rf _ _ _, OFF_rf _ _ _, OFF_rf _ _ _, OFF_rf _ _ _, OFF_rf _ _ _, OFF_rf _ _ _, oc, sd_off (K := 6) (k := 6) rfl (by decide) hs gv0 (by omega) e1, sd_off (K := 6) (k := 6) rfl (by decide) hs gv0 (by omega) e2, sd_off (K := 6) (k := 6) rfl (by decide) hs gv0 (by omega) e3, sd_off (K := 6) (k := 6) rfl (by decide) hs gv0 (by omega) e4, a3.1, a3.2⟩⟩
    replace z : r2.toInt = 0 := z
    rcases a4 with q | ⟨q1, q2, q3, q4, q5⟩
    · exact absurd z q.1
    have en := nC_up q1 gv0 (by omega)
    have g1 := q5.1
    have g2 := q5.2.1
    have g3 := q5.2.2.1
    have t04 := a1.1.2
    refine ⟨gc, gp, gr, gn, show rg (r11 s.toNatClampNeg) 0 6 from ⟨by omega, by omega⟩, show r6.toInt = (cells s.toNatClampNeg).toInt + (r11 s.toNatClampNeg).toInt by omega, q3, q4, by show 420 * s.toInt ≤ r7.toInt; omega, by show r7.toInt ≤ 420 * s.toInt + r0.toInt; omega, fun z2 => ?_⟩
    obtain ⟨d1, d2, d3, d4, d5, d6⟩ := gD (a2.2 z2)
    obtain ⟨k1, k2⟩ := e5 z z2
    exact ⟨d1, d2, d3, d4, d5, LI_add hs gv0 (by omega) t04 q1 e1 e2 e3 e4 k1 k2 q5 d6⟩
  · refine ok_bd2 (s_X7_fail t pl f fp 1 h (by decide)) (fun f1 fp1 hq => ?_)
    replace hq : 1 ≤ f1.toInt ∧ f1.toInt ≤ 9 := hq
    exact bad t f1 fp1 (Adv_f h hq) (by omega)
