/-! names told, on both sides -/
def NM (cn : Nat → Int64) (ce : Int32) (vn : Nat → Int64) (vi : Int32) (nm_ : Int32) (no : Nat → Int64) (na : Nat → Int32) : Prop :=
  (0 ≤ ce.toInt ∧ ce.toInt ≤ 12) ∧ (0 ≤ vi.toInt ∧ vi.toInt ≤ 6) ∧ nm_.toInt = ce.toInt + vi.toInt ∧
  (∀ i : Nat, (i : Int) < ce.toInt → ∃ k : Nat, (k : Int) < nm_.toInt ∧ (na k).toInt = i ∧ NR (cn i) (no k)) ∧
  (∀ v : Nat, (v : Int) < vi.toInt → ∃ k : Nat, (k : Int) < nm_.toInt ∧ (na k).toInt = -1 ∧ NR (vn v) (no k)) ∧
  (∀ k : Nat, (k : Int) < nm_.toInt → (∃ i : Nat, (i : Int) < ce.toInt ∧ (na k).toInt = i ∧ NR (cn i) (no k)) ∨ ((na k).toInt = -1 ∧ ∃ v : Nat, (v : Int) < vi.toInt ∧ NR (vn v) (no k))) ∧
  (∀ k l : Nat, k < l → (l : Int) < nm_.toInt → 0 ≤ (na k).toInt → 0 ≤ (na l).toInt → (na k).toInt < (na l).toInt)
theorem l_fc {cn : Nat → Int64} {ce : Int32} {q : Int64} (hc : 0 ≤ ce.toInt ∧ ce.toInt ≤ 12) : ∀ (n : Nat) (x3 : Int32) (i : Nat), x3.toInt = i → (i : Int) ≤ ce.toInt → (∀ j, j < i → ¬ cn j = q) → pa (f_X5_findCell_b2 cn ce n q x3) (fun o => (o = -1 ∧ ∀ j : Nat, (j : Int) < ce.toInt → ¬ cn j = q) ∨ ∃ i : Nat, (i : Int) < ce.toInt ∧ o.toInt = i ∧ cn i = q ∧ ∀ j, j < i → ¬ cn j = q) := by
  intro n
  induction n with
  | zero => intro x3 i _ _ _; exact pa_none
  | succ n ih =>
    intro x3 i h3 hi hj
    show pa (f_X5_findCell_b2_st (f_X5_findCell_b2 cn ce n) cn ce q x3) _
    unfold f_X5_findCell_b2_st
    refine pa_if (fun c => pa_some (Or.inl ⟨rfl, fun j h => hj j ?_⟩)) (fun c => pa_ck (fun _ => ?_))
    · have := ti_le c
      omega
    · have c2 := ti_nle c
      have e : (x3.toNatClampNeg : Int) = x3.toInt := cl_k (by omega)
      have en : x3.toNatClampNeg = i := by omega
      have t := add_k (x := x3) (v := 1) (k := 1) rfl (by omega) (by omega)
      rw [en]
      refine pa_if (fun d => pa_some (Or.inr ⟨i, by omega, h3, (lg_cmp_eq _ _).mp d, hj⟩)) (fun d => ih (x3 + 1) (i + 1) (by omega) (by omega) (fun j hj2 => ?_))
      by_cases z : j = i
      · rw [z]; exact fun y => d ((lg_cmp_eq _ _).mpr y)
      · exact hj j (by omega)
theorem l_findCell {cn : Nat → Int64} {ce : Int32} (q : Int64) (hc : 0 ≤ ce.toInt ∧ ce.toInt ≤ 12) : pa (f_X5_findCell cn ce q) (fun o => (o = -1 ∧ ∀ j : Nat, (j : Int) < ce.toInt → ¬ cn j = q) ∨ ∃ i : Nat, (i : Int) < ce.toInt ∧ o.toInt = i ∧ cn i = q ∧ ∀ j, j < i → ¬ cn j = q) := by
  unfold f_X5_findCell
  exact l_fc hc fuel 0 0 rfl (by omega) (fun j hj => absurd hj (Nat.not_lt_zero _))
/-- whether a NAME was told, in the class -/
theorem l_n40 {S : Nat → Int32} {vn : Nat → Int64} {vi n s f fp lf lp : Int32} {q : Int64} (hv : 0 ≤ vi.toInt ∧ vi.toInt ≤ 6) (hn : 1 ≤ n.toInt) : ∀ (k : Nat) (x3 x4 : Int32) (i : Nat), x4.toInt = i → (i : Int) ≤ vi.toInt → (x3 = 0 ∨ x3 = 1) → pa (f_X5_newName_b40 S vn vi k n s f fp lf lp q x3 x4) (fun o => ∃ lf' lp', o = (q, n, s, f, fp, lf', lp') ∧ ((x3 = 1 ∨ ∃ j : Nat, i ≤ j ∧ (j : Int) < vi.toInt ∧ vn j = q) → lf' = fs lf 3) ∧ ((x3 = 0 ∧ ∀ j : Nat, i ≤ j → (j : Int) < vi.toInt → ¬ vn j = q) → lf' = lf)) := by
  intro k
  induction k with
  | zero => intro x3 x4 i _ _ _; exact pa_none
  | succ k ih =>
    intro x3 x4 i h4 hi h3
    show pa (f_X5_newName_b40_st (f_X5_newName_b40 S vn vi k) S vn vi n s f fp lf lp q x3 x4) _
    unfold f_X5_newName_b40_st
    refine pa_if (fun c => ?_) (fun c => ?_)
    · have c2 := ti_le c
      refine pa_if (fun d => pa_some ⟨lf, lp, rfl, fun z => ?_, fun _ => rfl⟩) (fun d => pa_bd2 (l_later n S lf lp 3) (fun a b hp => pa_some ⟨a, b, rfl, fun _ => hp hn, fun z => absurd z.1 d⟩))
      rcases z with z | ⟨j, h1, h2, _⟩
      · exact absurd (z.symm.trans d) (by decide)
      · omega
    · have c2 := ti_nle c
      have e : (x4.toNatClampNeg : Int) = x4.toInt := cl_k (by omega)
      have en : x4.toNatClampNeg = i := by omega
      have t := add_k (x := x4) (v := 1) (k := 1) rfl (by omega) (by omega)
      rw [en]
      have up1 : pa (f_X5_newName_b40 S vn vi k n s f fp lf lp q 1 (x4 + 1)) (fun o => ∃ lf' lp', o = (q, n, s, f, fp, lf', lp') ∧ lf' = fs lf 3) := pa_w (ih 1 (x4 + 1) (i + 1) (by omega) (by omega) (Or.inr rfl)) (fun o ho => by
        obtain ⟨a, b, h1, h2, _⟩ := ho
        exact ⟨a, b, h1, h2 (Or.inl rfl)⟩)
      refine pa_if (fun d => pa_ck (fun _ => pa_if (fun g => pa_w up1 ?_) (fun g => pa_w (ih 0 (x4 + 1) (i + 1) (by omega) (by omega) (Or.inl rfl)) ?_))) (fun d => pa_w up1 ?_)
      · rintro o ⟨a, b, h1, h2⟩
        refine ⟨a, b, h1, fun _ => h2, fun z => ?_⟩
        exact absurd ((lg_cmp_eq _ _).mp g) (z.2 i (Nat.le_refl _) (by omega))
      · rintro o ⟨a, b, h1, h2, h5⟩
        refine ⟨a, b, h1, fun z => ?_, fun z => h5 ⟨rfl, fun j hj => z.2 j (by omega)⟩⟩
        rcases z with z | ⟨j, g1, g2, g3⟩
        · exact absurd (z.symm.trans d) (by decide)
        · by_cases y : j = i
          · rw [y] at g3
            exact absurd ((lg_cmp_eq _ _).mpr g3) g
          · exact h2 (Or.inr ⟨j, by omega, g2, g3⟩)
      · rintro o ⟨a, b, h1, h2⟩
        exact ⟨a, b, h1, fun _ => h2, fun z => absurd z.1 d⟩
/-- whether a NAME was told, in the reference -/
theorem m_n12 {pl : Nat → Int32} {tn no : Nat → Int64} {nm_ t gp x1 : Int32} (hn : 0 ≤ nm_.toInt ∧ nm_.toInt ≤ 20) : ∀ (k : Nat) (w wp x2 : Int32) (i : Nat), x2.toInt = i → (i : Int) ≤ nm_.toInt → (¬ w = 0 → wp.toInt < (pl x1.toNatClampNeg).toInt ∨ (wp.toInt = (pl x1.toNatClampNeg).toInt ∧ w.toInt ≤ 3)) → (¬ w = 0 → 0 < w.toInt) → pa (f_X7_named_b12 nm_ pl tn no k t 0 gp w wp x1 x2) (fun o => ∃ w' wp', o = (x1, t, 0, gp, w', wp') ∧ ((∃ j : Nat, i ≤ j ∧ (j : Int) < nm_.toInt ∧ no j = tn x1.toNatClampNeg) → w' = fs w 3) ∧ ((∀ j : Nat, i ≤ j → (j : Int) < nm_.toInt → ¬ no j = tn x1.toNatClampNeg) → w' = w) ∧ (¬ w' = 0 → wp'.toInt ≤ (pl x1.toNatClampNeg).toInt ∧ 0 < w'.toInt)) := by
  intro k
  induction k with
  | zero => intro w wp x2 i _ _ _ _; exact pa_none
  | succ k ih =>
    intro w wp x2 i h2 hi hw hps
    show pa (f_X7_named_b12_st (f_X7_named_b12 nm_ pl tn no k) nm_ pl tn no t 0 gp w wp x1 x2) _
    unfold f_X7_named_b12_st
    refine pa_if (fun c => pa_some ⟨w, wp, rfl, fun z => ?_, fun _ => rfl, fun z => ?_⟩) (fun c => pa_if (fun _ => pa_ck (fun _ => pa_ck (fun _ => ?_))) (fun z => absurd rfl z))
    · have c2 := ti_le c
      obtain ⟨j, h1, h3, _⟩ := z
      omega
    · have := hw z
      exact ⟨by omega, hps z⟩
    · have c2 := ti_nle c
      have e : (x2.toNatClampNeg : Int) = x2.toInt := cl_k (by omega)
      have en : x2.toNatClampNeg = i := by omega
      have tt := add_k (x := x2) (v := 1) (k := 1) rfl (by omega) (by omega)
      rw [en]
      refine pa_if (fun d => pa_bd2 (m_wrong hw hps (by decide)) (fun a b hp => ?_)) (fun d => pa_w (ih w wp (x2 + 1) (i + 1) (by omega) (by omega) hw hps) ?_)
      · have ha : a = fs w 3 := hp.1
        have hb : ¬ a = 0 → b.toInt ≤ (pl x1.toNatClampNeg).toInt := hp.2.1
        refine pa_w (ih a b (x2 + 1) (i + 1) (by omega) (by omega) (fun z => ?_) hp.2.2.2) ?_
        · have b2 := hb z
          by_cases y : w = 0
          · have e3 : a = 3 := by rw [ha]; unfold fs; rw [if_pos y]
            have a3 := z_eq (k := 3) rfl e3
            rcases Int.lt_or_eq_of_le b2 with r | r
            · exact Or.inl r
            · exact Or.inr ⟨r, by omega⟩
          · have ew : a = w := by rw [ha]; unfold fs; rw [if_neg y]
            have eb : b = wp := hp.2.2.1 y
            rw [ew, eb]
            exact hw y
        · rintro o ⟨w', wp', h1, h3, h4, h5⟩
          have f3 : w' = fs w 3 := by
            by_cases y : ∃ j : Nat, i + 1 ≤ j ∧ (j : Int) < nm_.toInt ∧ no j = tn x1.toNatClampNeg
            · rw [h3 y, ha, fs_fs (by decide)]
            · rw [h4 (fun j g1 g2 g3 => y ⟨j, g1, g2, g3⟩), ha]
          exact ⟨w', wp', h1, fun _ => f3, fun z => absurd ((lg_cmp_eq _ _).mp d) (z i (Nat.le_refl _) (by omega)), h5⟩
      · rintro o ⟨w', wp', h1, h3, h4, h5⟩
        refine ⟨w', wp', h1, fun z => ?_, fun z => h4 (fun j hj => z j (by omega)), h5⟩
        obtain ⟨j, g1, g2, g3⟩ := z
        by_cases y : j = i
        · rw [y] at g3
          exact absurd ((lg_cmp_eq _ _).mpr g3) d
        · exact h3 ⟨j, by omega, g2, g3⟩
/-- a NAME was told already on one side iff on the other -/
theorem NM_tw {cn vn no : Nat → Int64} {na : Nat → Int32} {ce vi nm_ : Int32} (h : NM cn ce vn vi nm_ no na) {q p : Int64} (hr : NR q p) : ((∃ i : Nat, (i : Int) < ce.toInt ∧ cn i = q) ∨ (∃ v : Nat, (v : Int) < vi.toInt ∧ vn v = q)) ↔ ∃ k : Nat, (k : Int) < nm_.toInt ∧ no k = p := by
  obtain ⟨_, _, _, h1, h2, h3, _⟩ := h
  constructor
  · rintro (⟨i, hi, e⟩ | ⟨v, hv, e⟩)
    · obtain ⟨k, hk, _, r⟩ := h1 i hi
      exact ⟨k, hk, (NR_eq r hr).mp e⟩
    · obtain ⟨k, hk, _, r⟩ := h2 v hv
      exact ⟨k, hk, (NR_eq r hr).mp e⟩
  · rintro ⟨k, hk, e⟩
    rcases h3 k hk with ⟨i, hi, _, r⟩ | ⟨_, v, hv, r⟩
    · exact Or.inl ⟨i, hi, (NR_eq r hr).mpr e⟩
    · exact Or.inr ⟨v, hv, (NR_eq r hr).mpr e⟩
/-- what comes of a new NAME -/
def J3 (K S pl : Nat → Int32) (V tn : Nat → Int64) (n t : Int32) (a : Int64 × Int32 × Int32 × Int32 × Int32 × Int32 × Int32) (b : Int32 × Int32 × Int32 × Int32 × Int32 × Int32) : Prop :=
  (PA K pl a.2.1 a.2.2.1 a.2.2.2.1 a.2.2.2.2.2.1 b.2.1 b.2.2.1 b.2.2.2.2.1 b.2.2.2.2.2 ∧ NR a.1 (tn b.1.toNatClampNeg) ∧ a.2.1 = n + 1 ∧ t.toInt < 400) ∨ PB K S a.2.1 a.2.2.1 a.2.2.2.1 a.2.2.2.2.1 b.2.2.1
theorem j_newName {K S kd pl vl : Nat → Int32} {V tn : Nat → Int64} (tk : TKR K S V kd pl vl tn) {n s f fp lf lp t g gp w wp : Int32} {cn vn no : Nat → Int64} {na : Nat → Int32} {ce vi nm_ : Int32} (hm : NM cn ce vn vi nm_ no na) (h : PA K pl n s f lf t g w wp) : pj (f_X5_newName K S V cn vn ce vi n s f fp lf lp) (f_X7_named nm_ kd pl tn no t g gp w wp) (J3 K S pl V tn n t) := by
  have h0 := h
  obtain ⟨rfl, h1, h2, rfl, rfl, rfl, rfl, h3⟩ := h
  have e : (n.toNatClampNeg : Int) = n.toInt := cl_k h1.1
  have up := cl_up (t := n) (by omega) (by omega)
  have tk1 := tk.1 n.toNatClampNeg (by omega) h2
  have wpl := PA_wp tk h0
  have m1 := hm.1
  have m2 := hm.2.1
  have m3 := hm.2.2.1
  unfold f_X5_newName f_X7_named
  refine pj_b5_3 (j_accept tk h0 (q5 := 1) (q7 := 1) kp_1 (by decide)) (fun a0 a1 a2 a3 a4 b0 b1 b2 hj => ?_)
  rcases hj with ⟨x0, x1, x2, x3, x4⟩ | ⟨x1, _⟩
  · change a0 = 1 at x0
    change PA K pl a1 a2 a3 lf b0 b1 lf wp at x1
    change a1 = n + 1 at x2
    obtain ⟨e01, y1, y2, e2, e3, e4, _, y3⟩ := x1
    have kn : K n.toNatClampNeg = 1 := x4
    rw [x0, ← e01, x2, e2, e3, e4]
    have nr : NR (V n.toNatClampNeg) (tn n.toNatClampNeg) := tk1.2.2.1 (z_eq (k := 1) rfl kn)
    have k34 : ¬ (K n.toNatClampNeg).toInt = 3 ∧ ¬ (K n.toNatClampNeg).toInt = 4 := by rw [kn]; decide
    refine pj_ifl (fun z => absurd z (by decide)) (fun _ => pj_ckl (fun _ => ?_))
    rw [up.2.2]
    refine pj_bl (l_findCell _ m1) (fun o ho => ?_)
    refine pj_of (P := fun o => ∃ lf' lp', o = (V n.toNatClampNeg, n + 1, 0, 0, a4, lf', lp') ∧ (((∃ i : Nat, (i : Int) < ce.toInt ∧ cn i = V n.toNatClampNeg) ∨ (∃ v : Nat, (v : Int) < vi.toInt ∧ vn v = V n.toNatClampNeg)) → lf' = fs lf 3) ∧ (¬ ((∃ i : Nat, (i : Int) < ce.toInt ∧ cn i = V n.toNatClampNeg) ∨ (∃ v : Nat, (v : Int) < vi.toInt ∧ vn v = V n.toNatClampNeg)) → lf' = lf)) ?_ (m_n12 (pl := pl) (tn := tn) (no := no) (nm_ := nm_) (t := n + 1) (gp := b2) (x1 := n) (by omega) fuel lf wp 0 0 rfl (by omega) (fun z => Or.inl (wpl z)) (PA_ps h0)) ?_
    · rcases ho with ⟨ho, hn⟩ | ⟨i, hi, ho, hn, _⟩
      · refine pa_if (fun _ => pa_w (l_n40 m2 (by omega) fuel 0 0 0 rfl (by omega) (Or.inl rfl)) ?_) (fun z => absurd ho z)
        rintro o ⟨lf', lp', g1, g2, g3⟩
        refine ⟨lf', lp', g1, fun z => ?_, fun z => g3 ⟨rfl, fun j _ hj q => z (Or.inr ⟨j, hj, q⟩)⟩⟩
        rcases z with ⟨i, hi, q⟩ | ⟨v, hv, q⟩
        · exact absurd q (hn i hi)
        · exact g2 (Or.inr ⟨v, Nat.zero_le _, hv, q⟩)
      · refine pa_if (fun z => ?_) (fun _ => pa_w (l_n40 m2 (by omega) fuel 1 0 0 rfl (by omega) (Or.inr rfl)) ?_)
        · have : o.toInt = -1 := by rw [z]; decide
          omega
        · rintro o ⟨lf', lp', g1, g2, g3⟩
          exact ⟨lf', lp', g1, fun _ => g2 (Or.inl rfl), fun z => absurd (Or.inl ⟨i, hi, hn⟩) z⟩
    · rintro a b ⟨lf', lp', rfl, g1, g2⟩ ⟨w', wp', rfl, f1, f2, f3⟩
      have tw := NM_tw hm nr
      have ew : lf' = w' := by
        by_cases z : (∃ i : Nat, (i : Int) < ce.toInt ∧ cn i = V n.toNatClampNeg) ∨ (∃ v : Nat, (v : Int) < vi.toInt ∧ vn v = V n.toNatClampNeg)
        · rw [g1 z]
          obtain ⟨k, hk, e2⟩ := tw.mp z
          exact (f1 ⟨k, Nat.zero_le _, hk, e2⟩).symm
        · rw [g2 z]
          exact (f2 (fun j _ hj e2 => z (tw.mpr ⟨j, hj, e2⟩))).symm
      exact Or.inl ⟨PA_up tk h0 x3 k34 ew f3, nr, rfl, x3⟩
  · refine pj_of (P := fun o => PB K S o.2.1 o.2.2.1 o.2.2.2.1 o.2.2.2.2.1 b1) (Q := fun o => o.2.2.1 = b1) ?_ ?_ (fun a b ha hb => Or.inr (by rw [hb]; exact ha))
    · exact pa_if (fun _ => pa_some x1) (fun _ => pa_ck (fun _ => pa_bd (P := fun _ => True) (fun _ _ => trivial) (fun o _ => pa_if (fun _ => b_nn40 x1 _ _ _ _ _ _) (fun _ => b_nn40 x1 _ _ _ _ _ _))))
    · exact pa_w (r_nm12 (FB_rf x1) fuel) (fun o ho => ho.1)
