/-! the reference's tellings: river, rain, village -/
def VQ7 (s : Int32) (C : Int) (t f w : Int32) (ways rivers rc rl rw : Nat → Int32) (r : Int32 × Int32 × Int32 × Int32 × Int32 × (Nat → Int32) × (Nat → Int32) × (Nat → Int32) × (Nat → Int32) × (Nat → Int32) × (Nat → Int32)) : Prop := Adv 1 t f r.1 r.2.1 ∧ W9 w r.2.2.2.1 ∧ ((¬ r.2.1.toInt = 0 ∧ r.2.2.2.2.2.2.1 = rivers) ∨ r.2.2.2.2.2.2.1 = upd rivers s.toNatClampNeg (rivers s.toNatClampNeg + 1)) ∧ (∃ a v u : Int32, r.2.2.2.2.2.2.2.1 = upd rc (((3 : Int32) * s) + rivers s.toNatClampNeg).toNatClampNeg a ∧ r.2.2.2.2.2.2.2.2.1 = upd rl (((3 : Int32) * s) + rivers s.toNatClampNeg).toNatClampNeg v ∧ r.2.2.2.2.2.2.2.2.2.1 = upd rw (((3 : Int32) * s) + rivers s.toNatClampNeg).toNatClampNeg u ∧ (r.2.1.toInt = 0 → r.2.2.2.1.toInt = 0 → (0 ≤ a.toInt ∧ a.toInt < C) ∧ rg v 0 999 ∧ rg u 0 10 ∧ ∀ c : Int32, 0 ≤ c.toInt → c.toInt < 12 → 0 ≤ (rO s ways c).toInt → (rO s ways c).toInt ≤ 8 → (rO s r.2.2.2.2.2.1 c).toInt = (rO s ways c).toInt + (if a = c then 1 else 0) ∧ (rO s r.2.2.2.2.2.1 c).toInt ≤ 8))
theorem s_X7_tellRiver (s nm_ : Int32) (kind pl val : Nat → Int32) (tn no : Nat → Int64) (na : Nat → Int32) (t f fp w wp : Int32) (ways rivers rc rl rw rs : Nat → Int32) (q1 : Int32) {C : Int} (hs : rg s 0 1) (h : T4 t f) (hw : 0 ≤ w.toInt ∧ w.toInt ≤ 9) (hn : 0 ≤ nm_.toInt ∧ nm_.toInt ≤ 20) (hC0 : 0 ≤ C) (hC : C ≤ 12) (hN : NT nm_ na C) (hp0 : 0 ≤ (rivers s.toNatClampNeg).toInt) (hp1 : (rivers s.toNatClampNeg).toInt ≤ 2) (hq : 0 ≤ q1.toInt ∧ q1.toInt ≤ 400) : ok (f_X7_tellRiver s nm_ kind pl val tn no na t f fp w wp ways rivers rc rl rw rs q1) (VQ7 s C t f w ways rivers rc rl rw) := by
  unfold f_X7_tellRiver
  have p1 := hs.1
  have p2 := hs.2
  have is := inb_k (x := s) (n := 2) p1 (by omega)
  have ix := ixn (x := rivers s.toNatClampNeg) (K := 3) (k := 3) (m := 0) rfl (by decide) hs hp0 (by omega)
  refine ok_ck is (ok_nm (fun e2 he2 => ?_))
  subst he2
  have ie := inb_k (n := 6) ix.2.1 (by have := ix.2.2; omega)
  refine ok_bd6 (s_X7_cellAt nm_ kind pl tn no na t f fp w wp (C := C) h hw hn hC0 hN) (fun a t1 f1 fp1 w1 wp1 ha => ?_)
  obtain ⟨a1, a2, a3, a4⟩ := ha
  change Adv 1 t f t1 f1 at a1
  change W9 w w1 at a2
  change -1 ≤ a.toInt ∧ a.toInt < C at a3
  change f1.toInt = 0 → w1.toInt = 0 → 0 ≤ a.toInt at a4
  refine ok_bd3 (s_X7_makesWay s pl f1 fp1 ways a q1 hs a1.2.1 (by omega) hq) (fun f2 fp2 y2 h2 => ?_)
  obtain ⟨m1, m2, m3⟩ := h2
  change 0 ≤ f2.toInt ∧ f2.toInt ≤ 9 at m1
  change f2.toInt = 0 → f1.toInt = 0 ∧ (0 ≤ a.toInt → ¬ rO s ways a = 8) at m2
  have A2 : Adv 1 t f t1 f2 := ⟨a1.1, m1, a1.2.2.1, fun z => a1.2.2.2 (m2 z).1⟩
  refine ok_ck ie (ok_nm (fun r6 e6 => ?_))
  refine ok_bd6 (s_X7_bounded kind pl val t1 f2 fp2 w1 wp1 0 999 A2.t4 a2.1) (fun v3 t3 f3 fp3 w3 wp3 hb => ?_)
  obtain ⟨b1, b2, b3⟩ := hb
  change Adv 1 t1 f2 t3 f3 at b1
  change W9 w1 w3 at b2
  change f3.toInt = 0 → w3.toInt = 0 → rg v3 (0 : Int32).toInt (999 : Int32).toInt at b3
  refine ok_ck ie (ok_nm (fun r9 e9 => ?_))
  refine ok_bd6 (s_X7_bounded kind pl val t3 f3 fp3 w3 wp3 1 10 b1.t4 b2.1) (fun v4 t4 f4 fp4 w4 wp4 hc => ?_)
  obtain ⟨c1, c2, c3⟩ := hc
  change Adv 1 t3 f3 t4 f4 at c1
  change W9 w3 w4 at c2
  change f4.toInt = 0 → w4.toInt = 0 → rg v4 (1 : Int32).toInt (10 : Int32).toInt at c3
  refine ok_ck ie (ok_nm (fun r12 e12 => ?_))
  refine ok_bd6 (s_X7_bounded kind pl val t4 f4 fp4 w4 wp4 0 99 c1.t4 c2.1) (fun v5 t5 f5 fp5 w5 wp5 hd => ?_)
  obtain ⟨d1, d2, _⟩ := hd
  change Adv 1 t4 f4 t5 f5 at d1
  change W9 w4 w5 at d2
  refine ok_ck ie (ok_nm (fun r15 _ => ?_))
  refine ok_bd3 (s_X7_must kind pl t5 f5 fp5 4 d1.t4) (fun t6 f6 fp6 hm => ?_)
  change Adv 1 t5 f5 t6 f6 at hm
  have A := ((((A2.tr b1 (m := 2) rfl).tr c1 (m := 3) rfl).tr d1 (m := 4) rfl).tr hm (m := 5) rfl).w (l := 1) (by decide)
  have Wt := ((a2.tr b2).tr c2).tr d2
  have fin : f6.toInt = 0 → w5.toInt = 0 → (0 ≤ a.toInt ∧ a.toInt < C) ∧ rg v3 0 999 ∧ rg v4 0 10 ∧ ∀ c : Int32, 0 ≤ c.toInt → c.toInt < 12 → 0 ≤ (rO s ways c).toInt → (rO s ways c).toInt ≤ 8 → (rO s y2 c).toInt = (rO s ways c).toInt + (if a = c then 1 else 0) ∧ (rO s y2 c).toInt ≤ 8 := by
    intro z1 z2
    have g5 := (hm.2.2.2 z1).1
    have g4 := (d1.2.2.2 g5).1
    have g3 := (c1.2.2.2 g4).1
    have g2 := (b1.2.2.2 g3).1
    have g1 := m2 g2
    have y4 := d2.2 z2
    have y3 := c2.2 y4
    have y1 := b2.2 y3
    have k := a4 g1.1 y1
    have e3 : y2 = upd ways (((12 : Int32) * s) + a).toNatClampNeg (rO s ways a + 1) := by
      rcases m3 with q | q
      · exact q.2
      · rcases q.1 with z | z
        · omega
        · exact absurd g1.1 z
    exact ⟨⟨k, a3.2⟩, b3 g3 y3, rg_w (c3 g4 y4) (by decide) (by decide), fun c c0 c1 u0 u1 => way_one hs k (by omega) e3 (g1.2 k) c c0 c1 ⟨u0, u1⟩⟩
  refine ok_if (fun c => ?_) (fun c => ok_some ⟨A, Wt, Or.inl ⟨z_ne (k := 0) rfl c, rfl⟩, a, v3, v4, e6, e9, e12, fin⟩)
  exact ok_ck is (ok_ck is (ok_nm (fun a20 e20 => ok_some ⟨A, Wt, Or.inr e20, a, v3, v4, e6, e9, e12, fin⟩)))
/-- the rain's row -/
def RI (s : Int32) (rains rain : Nat → Int32) : Prop := ∀ x : Int32, 0 ≤ x.toInt → x.toInt < (rains s.toNatClampNeg).toInt → rg (nA s rain x) 0 99
def RQ7 (s t f w : Int32) (rains0 rain0 : Nat → Int32) (r : Int32 × Int32 × Int32 × Int32 × Int32 × (Nat → Int32) × (Nat → Int32)) : Prop := Adv 0 t f r.1 r.2.1 ∧ W9 w r.2.2.2.1 ∧ OFF (1 * s.toInt) (1 * s.toInt + 1) r.2.2.2.2.2.1 rains0 ∧ OFF (14 * s.toInt) (14 * s.toInt + 14) r.2.2.2.2.2.2 rain0 ∧ (r.2.1.toInt = 0 → (0 ≤ (r.2.2.2.2.2.1 s.toNatClampNeg).toInt ∧ (r.2.2.2.2.2.1 s.toNatClampNeg).toInt ≤ 14) ∧ (r.2.2.2.1.toInt = 0 → RI s r.2.2.2.2.2.1 r.2.2.2.2.2.2))
theorem s_ra10 {s : Int32} {t0 f0 w0 : Int32} {rains0 rain0 : Nat → Int32} (kind pl val : Nat → Int32) (hs : rg s 0 1) : ∀ (n : Nat) (t f fp w wp : Int32) (rains rain : Nat → Int32), Adv 0 t0 f0 t f → W9 w0 w → OFF (1 * s.toInt) (1 * s.toInt + 1) rains rains0 → OFF (14 * s.toInt) (14 * s.toInt + 14) rain rain0 → (f.toInt = 0 → (0 ≤ (rains s.toNatClampNeg).toInt ∧ (rains s.toNatClampNeg).toInt ≤ 14) ∧ (w.toInt = 0 → RI s rains rain)) → (400 - t.toInt).toNat + (if f.toInt = 0 then 1 else 0) < n → ok (f_X7_tellRain_b10 s kind pl val n t f fp w wp rains rain) (RQ7 s t0 f0 w0 rains0 rain0) := by
  intro n
  induction n with
  | zero => intro t f fp w wp rains rain _ _ _ _ _ h; exact absurd h (Nat.not_lt_zero _)
  | succ n ih =>
    intro t f fp w wp rains rain hA hW o1 o2 hI hn
    show ok (f_X7_tellRain_b10_st (f_X7_tellRain_b10 s kind pl val n) s kind pl val t f fp w wp rains rain) _
    unfold f_X7_tellRain_b10_st
    have p1 := hs.1
    have p2 := hs.2
    have is := inb_k (x := s) (n := 2) p1 (by omega)
    have h4 := hA.t4
    have b97 : ok (f_X7_tellRain_b97 kind pl t f fp w wp rains rain) (RQ7 s t0 f0 w0 rains0 rain0) := by
      unfold f_X7_tellRain_b97
      refine ok_bd3 (s_X7_must kind pl t f fp 4 h4) (fun t1 f1 fp1 hm => ok_some ⟨(hA.tr hm (m := 1) rfl).w (by decide), hW, o1, o2, fun z => hI (hm.2.2.2 z).1⟩)
    refine ok_if (fun c => ?_) (fun _ => b97)
    have c2 := z_eq (k := 0) rfl c
    rw [if_pos c2] at hn
    obtain ⟨hr, hri⟩ := hI c2
    refine ok_bd (s_X7_is t f kind 2 h4) (fun o ho => ok_if (fun _ => b97) (fun d => ok_ck is ?_))
    -- one more rain, where there is room for it
    have b44 : ∀ (f1 fp1 : Int32), T4 t f1 → (f1.toInt = 0 → f.toInt = 0 ∧ (rains s.toNatClampNeg).toInt ≤ 13) → Adv 0 t0 f0 t f1 → ok (f_X7_tellRain_b44 (f_X7_tellRain_b10 s kind pl val n) s kind pl val t f1 fp1 w wp rains rain) (RQ7 s t0 f0 w0 rains0 rain0) := by
      intro f1 fp1 h41 hf1 hA1
      unfold f_X7_tellRain_b44
      refine ok_if (fun e => ?_) (fun e => ok_some ⟨hA1, hW, o1, o2, fun z => ?_⟩)
      · have e2 := le_k (k := 0) rfl e
        have f10 : f1.toInt = 0 := by have := h41.2; omega
        have hr2 := (hf1 f10).2
        have ix := ixn (x := rains s.toNatClampNeg) (K := 14) (k := 14) (m := 0) rfl (by decide) hs hr.1 (by omega)
        refine ok_ck is (ok_bd6 (s_X7_bounded kind pl val t f1 fp1 w wp 0 99 h41 hW.1) (fun v t2 f2 fp2 w2 wp2 hb => ?_))
        obtain ⟨b1, b2, b3⟩ := hb
        change Adv 1 t f1 t2 f2 at b1
        change W9 w w2 at b2
        change f2.toInt = 0 → w2.toInt = 0 → rg v (0 : Int32).toInt (99 : Int32).toInt at b3
        refine ok_ck (inb_k (n := 28) ix.2.1 (by have := ix.2.2; omega)) (ok_nm (fun a5 e5 => ok_ck is (ok_ck is (ok_nm (fun a8 e8 => ?_)))))
        have ev : a8 s.toNatClampNeg = rains s.toNatClampNeg + 1 := sd_eq e8
        have tv := add_k (x := rains s.toNatClampNeg) (v := 1) (k := 1) rfl (by omega) (by omega)
        refine ih t2 f2 fp2 w2 wp2 a8 a5 ((hA1.tr b1 (m := 1) rfl).w (by decide)) (hW.tr b2) (OFF_tr (ct_off hs e8) o1) (OFF_tr (sd_off (K := 14) (k := 14) rfl (by decide) hs hr.1 (by omega) e5) o2) (fun z => ⟨by rw [ev, tv]; omega, fun z2 => ?_⟩) ?_
        · intro x x0 x1
          rw [ev, tv] at x1
          exact sd_in (Q := fun _ v => rg v 0 99) (K := 14) (k := 14) rfl (by decide) hs hr.1 (by omega) e5 (fun c c0 c1 => hri (b2.2 z2) c c0 c1) (b3 z z2) x x0 x1
        · have t20 := b1.1
          have g1 := b1.2.2.1
          by_cases z : f2.toInt = 0
          · have g2 := (b1.2.2.2 z).2
            rw [if_pos z]
            omega
          · rw [if_neg z]
            omega
      · have e2 := nle_k (k := 0) rfl e
        change f1.toInt = 0 at z
        omega
    refine ok_if (fun e => ?_) (fun e => ?_)
    · refine ok_bd2 (s_X7_fail t pl f fp 2 h4 (by decide)) (fun f1 fp1 hq => ?_)
      change 1 ≤ f1.toInt ∧ f1.toInt ≤ 9 at hq
      exact b44 f1 fp1 ⟨h4.1, by omega⟩ (fun z => by omega) (hA.tr (Adv_f (k := 0) h4 hq) rfl)
    · have e2 := z_ne (k := 14) rfl e
      exact b44 f fp h4 (fun z => ⟨z, by omega⟩) hA
theorem s_X7_tellRain (s : Int32) (kind pl val : Nat → Int32) (t f fp w wp : Int32) (rains rain : Nat → Int32) (hs : rg s 0 1) (h : T4 t f) (hw : 0 ≤ w.toInt ∧ w.toInt ≤ 9) : ok (f_X7_tellRain s kind pl val t f fp w wp rains rain) (RQ7 s t f w rains rain) := by
  unfold f_X7_tellRain
  have p1 := hs.1
  have p2 := hs.2
  have is := inb_k (x := s) (n := 2) p1 (by omega)
  refine ok_ck is (ok_nm (fun a2 e2 => ?_))
  have ev : a2 s.toNatClampNeg = 0 := sd_eq e2
  have e0 : (0 : Int32).toInt = 0 := rfl
  have tb := h.1
  refine s_ra10 kind pl val hs fuel t f fp w wp a2 rain (Adv.rf h) ⟨hw, fun z => z⟩ (ct_off hs e2) (OFF_rf _ _ _) (fun _ => ⟨by rw [ev]; decide, fun _ x x0 x1 => ?_⟩) ?_
  · rw [ev] at x1
    omega
  · unfold fuel
    split <;> omega
abbrev VT : Type := Int32 × Int32 × Int32 × Int32 × Int32 × Int32 × Int32 × Int32 × Int32 × (Nat → Int64) × (Nat → Int32) × (Nat → Int32) × (Nat → Int32) × (Nat → Int32) × (Nat → Int32) × (Nat → Int32) × (Nat → Int32) × (Nat → Int32) × (Nat → Int32)
def LQ7 (s : Int32) (C : Int) (t f w nm_ codes : Int32) (villages home need lf lt_ code ci : Nat → Int32) (r : VT) : Prop := Adv 1 t f r.1 r.2.2.1 ∧ W9 w r.2.2.2.2.1 ∧ FR s r.2.2.2.2.2.2.2.2.2.2.2.2.2.2.2.2.1 r.2.2.2.2.2.2.2.2.2.2.2.2.2.2.2.2.2.1 code ci ∧ ((¬ r.2.2.1.toInt = 0 ∧ r.2.2.2.2.2.2.2.2.2.2.2.1 = villages) ∨ (r.2.2.2.2.2.2.2.2.2.2.2.1 = upd villages s.toNatClampNeg (villages s.toNatClampNeg + 1) ∧ r.2.2.2.2.2.2.1.toInt = nm_.toInt + 1 ∧ NT r.2.2.2.2.2.2.1 r.2.2.2.2.2.2.2.2.2.2.1 C ∧ r.2.1.toInt = 0 ∧ CO s code ci codes r.2.2.2.2.2.2.2.1 r.2.2.2.2.2.2.2.2.2.2.2.2.2.2.2.2.1 r.2.2.2.2.2.2.2.2.2.2.2.2.2.2.2.2.2.1 0 1 r.1.toInt)) ∧ (∃ h v : Int32, r.2.2.2.2.2.2.2.2.2.2.2.2.1 = upd home (((6 : Int32) * s) + villages s.toNatClampNeg).toNatClampNeg h ∧ r.2.2.2.2.2.2.2.2.2.2.2.2.2.1 = upd need (((6 : Int32) * s) + villages s.toNatClampNeg).toNatClampNeg v ∧ r.2.2.2.2.2.2.2.2.2.2.2.2.2.2.1 = upd lf (((6 : Int32) * s) + villages s.toNatClampNeg).toNatClampNeg codes ∧ r.2.2.2.2.2.2.2.2.2.2.2.2.2.2.2.1 = upd lt_ (((6 : Int32) * s) + villages s.toNatClampNeg).toNatClampNeg r.2.2.2.2.2.2.2.1 ∧ (r.2.2.1.toInt = 0 → r.2.2.2.2.1.toInt = 0 → (0 ≤ h.toInt ∧ h.toInt < C) ∧ rg v 0 99))
theorem s_X7_tellVillage (s : Int32) (kind pl val : Nat → Int32) (tn : Nat → Int64) (t op f fp w wp nm_ codes waiting : Int32) (no : Nat → Int64) (na villages home need lf lt_ code ci waits : Nat → Int32) {C : Int} (hs : rg s 0 1) (h : T4 t f) (hw : 0 ≤ w.toInt ∧ w.toInt ≤ 9) (ho : op.toInt = 0) (hn : 0 ≤ nm_.toInt ∧ nm_.toInt ≤ 19) (hC0 : 0 ≤ C) (hC : C ≤ 12) (hN : NT nm_ na C) (hp0 : 0 ≤ (villages s.toNatClampNeg).toInt) (hp1 : (villages s.toNatClampNeg).toInt ≤ 5) (hc0 : 420 * s.toInt ≤ codes.toInt) (hc1 : codes.toInt ≤ 420 * s.toInt + t.toInt) : ok (f_X7_tellVillage s kind pl val tn t op f fp w wp nm_ codes waiting no na villages home need lf lt_ code ci waits) (LQ7 s C t f w nm_ codes villages home need lf lt_ code ci) := by
  unfold f_X7_tellVillage
  have p1 := hs.1
  have p2 := hs.2
  have is := inb_k (x := s) (n := 2) p1 (by omega)
  have ix := ixn (x := villages s.toNatClampNeg) (K := 6) (k := 6) (m := 0) rfl (by decide) hs hp0 (by omega)
  refine ok_ck is (ok_nm (fun e2 he2 => ?_))
  subst he2
  have ie := inb_k (n := 12) ix.2.1 (by have := ix.2.2; omega)
  refine ok_bd6 (s_X7_named nm_ kind pl tn no t f fp w wp h hw (by omega)) (fun n0 t1 f1 fp1 w1 wp1 hn1 => ?_)
  obtain ⟨a1, a2, a3⟩ := hn1
  change n0 = t at a1
  change Adv 1 t f t1 f1 at a2
  change W9 w w1 at a3
  refine ok_bd6 (s_X7_cellAt nm_ kind pl tn no na t1 f1 fp1 w1 wp1 (C := C) a2.t4 a3.1 (by omega) hC0 hN) (fun hh t2 f2 fp2 w2 wp2 hb => ?_)
  obtain ⟨b1, b2, b3, b4⟩ := hb
  change Adv 1 t1 f1 t2 f2 at b1
  change W9 w1 w2 at b2
  change -1 ≤ hh.toInt ∧ hh.toInt < C at b3
  change f2.toInt = 0 → w2.toInt = 0 → 0 ≤ hh.toInt at b4
  refine ok_ck ie (ok_nm (fun r6 e6 => ?_))
  refine ok_bd6 (s_X7_bounded kind pl val t2 f2 fp2 w2 wp2 0 99 b1.t4 b2.1) (fun v t3 f3 fp3 w3 wp3 hc => ?_)
  obtain ⟨c1, c2, c3⟩ := hc
  change Adv 1 t2 f2 t3 f3 at c1
  change W9 w2 w3 at c2
  change f3.toInt = 0 → w3.toInt = 0 → rg v (0 : Int32).toInt (99 : Int32).toInt at c3
  refine ok_ck ie (ok_nm (fun r9 e9 => ?_))
  refine ok_bd3 (s_X7_must kind pl t3 f3 fp3 5 c1.t4) (fun t4 f4 fp4 hm => ?_)
  change Adv 1 t3 f3 t4 f4 at hm
  refine ok_ck ie (ok_nm (fun r12 e12 => ?_))
  have A4 := ((a2.tr b1 (m := 2) rfl).tr c1 (m := 3) rfl).tr hm (m := 4) rfl
  have W3 := (a3.tr b2).tr c2
  have vals : f4.toInt = 0 → w3.toInt = 0 → (0 ≤ hh.toInt ∧ hh.toInt < C) ∧ rg v 0 99 := by
    intro z1 z2
    have g3 := (hm.2.2.2 z1).1
    have g2 := (c1.2.2.2 g3).1
    have y2 := c2.2 z2
    exact ⟨⟨b4 g2 y2, b3.2⟩, c3 g3 z2⟩
  -- the end of it
  have b72 : ∀ (t5 op5 f5 fp5 w5 wp5 codes5 wt5 : Int32) (code5 ci5 wts5 : Nat → Int32), Adv 0 t4 f4 t5 f5 → W9 w3 w5 → FR s code5 ci5 code ci → (f5.toInt = 0 → op5.toInt = 0 ∧ CO s code ci codes codes5 code5 ci5 0 1 t5.toInt) → ok (f_X7_tellVillage_b72 s kind pl tn t5 op5 f5 fp5 w5 wp5 nm_ codes5 wt5 no na villages r6 r9 r12 lt_ code5 ci5 wts5 (((6 : Int32) * s) + villages s.toNatClampNeg) n0) (LQ7 s C t f w nm_ codes villages home need lf lt_ code ci) := by
    intro t5 op5 f5 fp5 w5 wp5 codes5 wt5 code5 ci5 wts5 hA5 hW5 hF5 hJ5
    unfold f_X7_tellVillage_b72
    refine ok_ck ie (ok_nm (fun l2 el2 => ?_))
    refine ok_bd3 (s_X7_must kind pl t5 f5 fp5 4 hA5.t4) (fun t6 f6 fp6 hm6 => ?_)
    change Adv 1 t5 f5 t6 f6 at hm6
    have A6 := ((A4.tr hA5 (m := 4) rfl).tr hm6 (m := 5) rfl).w (l := 1) (by decide)
    have vals6 : f6.toInt = 0 → w5.toInt = 0 → (0 ≤ hh.toInt ∧ hh.toInt < C) ∧ rg v 0 99 := fun z1 z2 => vals ((hA5.2.2.2 (hm6.2.2.2 z1).1).1) (hW5.2 z2)
    refine ok_if (fun c => ?_) (fun c => ok_some ⟨A6, W3.tr hW5, hF5, Or.inl ⟨?_, rfl⟩, hh, v, e6, e9, e12, el2, vals6⟩)
    · have d2 := le_k (k := 0) rfl c
      have ht := h.1
      have f60 := hm6.2.1
      have em : (-1 : Int32).toInt = -1 := by decide
      refine ok_bd3 (s_X7_notes tn nm_ no na n0 (-1) hn (by rw [a1]; exact ht) (C := C) hN (by rw [em]; omega)) (fun n1 n2 n3 hnn => ?_)
      refine ok_ck is (ok_ck is (ok_nm (fun a8 e8 => ok_some ⟨A6, W3.tr hW5, hF5, Or.inr ⟨e8, hnn.1, hnn.2, ?_⟩, hh, v, e6, e9, e12, el2, vals6⟩)))
      have g := hm6.2.2.2 (by omega)
      have j := hJ5 g.1
      exact ⟨j.1, CO_w j.2 rfl (by show t5.toInt + ((0 : Nat) : Int) ≤ t6.toInt + ((0 : Nat) : Int); omega)⟩
    · have d2 := nle_k (k := 0) rfl c
      show ¬ f6.toInt = 0
      omega
  refine ok_if (fun c => ?_) (fun c => ?_)
  · have c2' := z_eq (k := 0) rfl c
    have g4 := (A4.2.2.2 c2').2
    refine ok_bd11 (s_X7_expression (s := s) (C := C) nm_ kind pl val tn no na t4 op f4 fp4 w3 wp3 codes waiting code ci waits hs hm.t4 c2' c2.1 ho (by omega) hC0 hC hN hc0 (by omega)) (fun u0 u1 u2 u3 u4 u5 u6 u7 u8 u9 u10 hr => ?_)
    obtain ⟨r1, r2, r3, r4⟩ := hr
    exact b72 u0 u1 u2 u3 u4 u5 u6 u7 u8 u9 u10 (r1.w (by decide)) r2 r3 r4
  · have c2' := z_ne (k := 0) rfl c
    exact b72 t4 op f4 fp4 w3 wp3 codes waiting code ci waits (Adv.rf hm.t4) ⟨c2.1, fun z => z⟩ ⟨OFF_rf _ _ _, OFF_rf _ _ _⟩ (fun z => absurd z c2')
