/-! a CELL named, a WAY made, on both sides -/
theorem m_b21 {pl na : Nat → Int32} {tn no : Nat → Int64} {nm_ t gp w wp x1 : Int32} (hn : 0 ≤ nm_.toInt ∧ nm_.toInt ≤ 20) (hw : ¬ w = 0 → wp.toInt < (pl x1.toNatClampNeg).toInt) (hps : ¬ w = 0 → 0 < w.toInt) : ∀ (k : Nat) (x2 : Int32) (i : Nat), x2.toInt = i → (i : Int) ≤ nm_.toInt → (∀ j, j < i → ¬ (no j = tn x1.toNatClampNeg ∧ 0 ≤ (na j).toInt)) → pa (f_X7_cellAt_b21 nm_ pl tn no na k t 0 gp w wp x1 x2) (fun o => (∃ j : Nat, (j : Int) < nm_.toInt ∧ no j = tn x1.toNatClampNeg ∧ 0 ≤ (na j).toInt ∧ o = (na j, t, 0, gp, w, wp) ∧ ∀ i, i < j → ¬ (no i = tn x1.toNatClampNeg ∧ 0 ≤ (na i).toInt)) ∨ ((∀ j : Nat, (j : Int) < nm_.toInt → ¬ (no j = tn x1.toNatClampNeg ∧ 0 ≤ (na j).toInt)) ∧ ∃ w' wp', o = (-1, t, 0, gp, w', wp') ∧ w' = fs w 4 ∧ (¬ w' = 0 → wp'.toInt ≤ (pl x1.toNatClampNeg).toInt ∧ 0 < w'.toInt))) := by
  intro k
  induction k with
  | zero => intro x2 i _ _ _; exact pa_none
  | succ k ih =>
    intro x2 i h2 hi hj
    show pa (f_X7_cellAt_b21_st (f_X7_cellAt_b21 nm_ pl tn no na k) nm_ pl tn no na t 0 gp w wp x1 x2) _
    unfold f_X7_cellAt_b21_st
    refine pa_if (fun c => ?_) (fun c => pa_ck (fun _ => pa_ck (fun _ => ?_)))
    · have c2 := ti_le c
      refine pa_bd2 (m_wrong (q := 4) (fun z => Or.inl (hw z)) hps (by decide)) (fun a b hp => pa_some (Or.inr ⟨fun j h => hj j (by omega), a, b, rfl, hp.1, fun z => ⟨hp.2.1 z, hp.2.2.2 z⟩⟩))
    · have c2 := ti_nle c
      have e : (x2.toNatClampNeg : Int) = x2.toInt := cl_k (by omega)
      have en : x2.toNatClampNeg = i := by omega
      have tt := add_k (x := x2) (v := 1) (k := 1) rfl (by omega) (by omega)
      rw [en]
      have go : ¬ (no i = tn x1.toNatClampNeg ∧ 0 ≤ (na i).toInt) → pa (f_X7_cellAt_b21 nm_ pl tn no na k t 0 gp w wp x1 (x2 + 1)) (fun o => (∃ j : Nat, (j : Int) < nm_.toInt ∧ no j = tn x1.toNatClampNeg ∧ 0 ≤ (na j).toInt ∧ o = (na j, t, 0, gp, w, wp) ∧ ∀ i, i < j → ¬ (no i = tn x1.toNatClampNeg ∧ 0 ≤ (na i).toInt)) ∨ ((∀ j : Nat, (j : Int) < nm_.toInt → ¬ (no j = tn x1.toNatClampNeg ∧ 0 ≤ (na j).toInt)) ∧ ∃ w' wp', o = (-1, t, 0, gp, w', wp') ∧ w' = fs w 4 ∧ (¬ w' = 0 → wp'.toInt ≤ (pl x1.toNatClampNeg).toInt ∧ 0 < w'.toInt))) := by
        intro z
        refine ih (x2 + 1) (i + 1) (by omega) (by omega) (fun j h => ?_)
        by_cases y : j = i
        · rw [y]; exact z
        · exact hj j (by omega)
      refine pa_if (fun d => pa_ck (fun _ => pa_if (fun f => go (fun z => ?_)) (fun f => pa_ck (fun _ => pa_some (Or.inl ⟨i, by omega, (lg_cmp_eq _ _).mp d, nlt_k (k := 0) rfl f, rfl, hj⟩))))) (fun d => go (fun z => d ((lg_cmp_eq _ _).mpr z.1)))
      have := lt_k (k := 0) rfl f
      omega
/-- what comes of a CELL's NAME -/
def J4 (K S pl : Nat → Int32) (ce n lf t w wp : Int32) (a : Int32 × Int32 × Int32 × Int32 × Int32 × Int32 × Int32) (b : Int32 × Int32 × Int32 × Int32 × Int32 × Int32) : Prop :=
  (PA K pl a.2.1 a.2.2.1 a.2.2.2.1 a.2.2.2.2.2.1 b.2.1 b.2.2.1 b.2.2.2.2.1 b.2.2.2.2.2 ∧ a.1 = b.1 ∧ (a.1 = -1 ∨ (0 ≤ a.1.toInt ∧ a.1.toInt < ce.toInt ∧ a.2.2.2.2.2.1 = lf ∧ b.2.2.2.2.1 = w ∧ b.2.2.2.2.2 = wp)) ∧ a.2.1 = n + 1 ∧ t.toInt < 400) ∨ (PB K S a.2.1 a.2.2.1 a.2.2.2.1 a.2.2.2.2.1 b.2.2.1 ∧ (¬ a.1 = -1 → a.2.2.1 = 0))
theorem NM_cell {cn vn no : Nat → Int64} {na : Nat → Int32} {ce vi nm_ : Int32} (h : NM cn ce vn vi nm_ no na) {q p : Int64} (hr : NR q p) {i : Nat} (hi : (i : Int) < ce.toInt) (he : cn i = q) (hl : ∀ j, j < i → ¬ cn j = q) {k : Nat} (hk : (k : Int) < nm_.toInt) (ek : no k = p) (ak : 0 ≤ (na k).toInt) (lk : ∀ j, j < k → ¬ (no j = p ∧ 0 ≤ (na j).toInt)) : (na k).toInt = i := by
  obtain ⟨_, _, _, h1, h2, h3, h4⟩ := h
  obtain ⟨k2, hk2, e2, r2⟩ := h1 i hi
  have n2 : no k2 = p := (NR_eq r2 hr).mp he
  have le : k ≤ k2 := by
    rcases Nat.lt_or_ge k2 k with z | z
    · exact absurd ⟨n2, by omega⟩ (lk k2 z)
    · exact z
  rcases h3 k hk with ⟨m, hm, em, rm⟩ | ⟨e1, _⟩
  · have cm : cn m = q := (NR_eq rm hr).mpr ek
    have ge : i ≤ m := by
      rcases Nat.lt_or_ge m i with z | z
      · exact absurd cm (hl m z)
      · exact z
    rcases Nat.lt_or_eq_of_le le with z | z
    · have := h4 k k2 z hk2 ak (by omega)
      omega
    · rw [z]; exact e2
  · omega
theorem j_knownCell {K S kd pl vl : Nat → Int32} {V tn : Nat → Int64} (tk : TKR K S V kd pl vl tn) {n s f fp lf lp t g gp w wp : Int32} {cn vn no : Nat → Int64} {na : Nat → Int32} {ce vi nm_ : Int32} (hm : NM cn ce vn vi nm_ no na) (h : PA K pl n s f lf t g w wp) : pj (f_X5_knownCell K S V cn ce n s f fp lf lp) (f_X7_cellAt nm_ kd pl tn no na t g gp w wp) (J4 K S pl ce n lf t w wp) := by
  have h0 := h
  obtain ⟨rfl, h1, h2, rfl, rfl, rfl, rfl, h3⟩ := h
  have e : (n.toNatClampNeg : Int) = n.toInt := cl_k h1.1
  have up := cl_up (t := n) (by omega) (by omega)
  have tk1 := tk.1 n.toNatClampNeg (by omega) h2
  have wpl := PA_wp tk h0
  have m1 := hm.1
  have m2 := hm.2.1
  have m3 := hm.2.2.1
  have mm := hm
  obtain ⟨_, _, _, hm1, hm2, hm3, hm4⟩ := mm
  unfold f_X5_knownCell f_X7_cellAt
  refine pj_b5_3 (j_accept tk h0 (q5 := 1) (q7 := 1) kp_1 (by decide)) (fun a0 a1 a2 a3 a4 b0 b1 b2 hj => ?_)
  rcases hj with ⟨x0, x1, x2, x3, x4⟩ | ⟨x1, x2⟩
  · change a0 = 1 at x0
    change PA K pl a1 a2 a3 lf b0 b1 lf wp at x1
    change a1 = n + 1 at x2
    obtain ⟨e01, y1, y2, e2, e3, e4, _, y3⟩ := x1
    have kn : K n.toNatClampNeg = 1 := x4
    rw [x0, ← e01, x2, e2, e3, e4]
    have nr : NR (V n.toNatClampNeg) (tn n.toNatClampNeg) := tk1.2.2.1 (z_eq (k := 1) rfl kn)
    have k34 : ¬ (K n.toNatClampNeg).toInt = 3 ∧ ¬ (K n.toNatClampNeg).toInt = 4 := by rw [kn]; decide
    refine pj_ifl (fun z => absurd z (by decide)) (fun _ => pj_ckl (fun _ => pj_ifr (fun _ => ?_) (fun z => absurd (by decide) z)))
    rw [up.2.2]
    refine pj_bl (l_findCell _ m1) (fun o ho => ?_)
    have ref := m_b21 (pl := pl) (na := na) (tn := tn) (no := no) (nm_ := nm_) (t := n + 1) (gp := b2) (w := lf) (wp := wp) (x1 := n) (by omega) wpl (PA_ps h0) fuel 0 0 rfl (by omega) (fun j hj => absurd hj (Nat.not_lt_zero _))
    rcases ho with ⟨ho, hn⟩ | ⟨i, hi, ho, hn, hl⟩
    · refine pj_ifl (fun _ => pj_bl2 (l_later (n + 1) S lf lp 4) (fun c0 c1 hc => ?_)) (fun z => absurd ho z)
      refine pj_of (P := fun o2 => o2 = (o, n + 1, 0, 0, a4, c0, c1)) (pa_some rfl) ref ?_
      rintro a b rfl hb
      rcases hb with ⟨k, hk, g1, g2, _, _⟩ | ⟨_, w', wp', rfl, g2, g3⟩
      · rcases hm3 k hk with ⟨m, hm', em, rm⟩ | ⟨e1, _⟩
        · exact absurd ((NR_eq rm nr).mpr g1) (hn m hm')
        · omega
      · have hc2 : c0 = fs lf 4 := hc (by omega)
        exact Or.inl ⟨PA_up tk h0 x3 k34 (hc2.trans g2.symm) g3, ho, Or.inl ho, rfl, x3⟩
    · refine pj_ifl (fun z => ?_) (fun _ => ?_)
      · have : o.toInt = -1 := by rw [z]; decide
        omega
      refine pj_of (P := fun o2 => o2 = (o, n + 1, 0, 0, a4, lf, lp)) (pa_some rfl) ref ?_
      rintro a b rfl hb
      rcases hb with ⟨k, hk, g1, g2, rfl, g4⟩ | ⟨g1, _⟩
      · have ei := NM_cell hm nr hi hn hl hk g1 g2 g4
        have eo : o = na k := Int32.toInt_inj.mp (by omega)
        exact Or.inl ⟨PA_up tk h0 x3 k34 rfl (fun z => ⟨Int.le_of_lt (wpl z), PA_ps h0 z⟩), eo, Or.inr ⟨by show 0 ≤ o.toInt; omega, by show o.toInt < ce.toInt; omega, rfl, rfl, rfl⟩, rfl, x3⟩
      · obtain ⟨k, hk, ek, rk⟩ := hm1 i hi
        exact absurd ⟨(NR_eq rk nr).mp hn, by omega⟩ (g1 k hk)
  · refine pj_of (P := fun o => PB K S o.2.1 o.2.2.1 o.2.2.2.1 o.2.2.2.2.1 b1 ∧ (¬ o.1 = -1 → o.2.2.1 = 0)) (Q := fun o => FB o.2.2.1 b1) ?_ ?_ (fun a b ha hb => Or.inr (by rw [hb.1]; exact ha))
    · refine pa_if (fun _ => pa_some ⟨x1, fun z => absurd rfl z⟩) (fun c => pa_ck (fun _ => pa_bd (P := fun _ => True) (fun _ _ => trivial) (fun o _ => pa_if (fun d => pa_bd2 (l_later _ _ _ _ _) (fun c0 c1 _ => pa_some ⟨x1, fun z => absurd d z⟩)) (fun _ => pa_some ⟨x1, fun _ => x2 c⟩))))
    · exact pa_if (fun z => absurd z (FB_le (FB_rf x1))) (fun _ => pa_some (FB_rf x1))
/-- rows alike: the class's, and the reference's from off on, up to cnt -/
def AL (g m : Nat → Int32) (off : Nat) (cnt : Int) : Prop := ∀ i : Nat, (i : Int) < cnt → g i = m (off + i)
theorem AL_0 {g m : Nat → Int32} {off : Nat} {cnt : Int} (h : cnt ≤ 0) : AL g m off cnt := fun i hi => absurd hi (by omega)
theorem AL_up {g m : Nat → Int32} {off k : Nat} {cnt c2 : Int} {v v2 : Int32} (h : AL g m off cnt) (hv : v = v2) (hc : c2 ≤ cnt ∨ (c2 ≤ cnt + 1 ∧ cnt = k)) : AL (upd g k v) (upd m (off + k) v2) off c2 := by
  intro i hi
  unfold upd
  by_cases q : i = k
  · rw [if_pos q, if_pos (by omega)]; exact hv
  · rw [if_neg q, if_neg (by omega)]
    exact h i (by omega)
/-- the place in the reference's rows -/
theorem ix_e {side c m : Int32} {M : Nat} (hs : 0 ≤ side.toInt ∧ side.toInt ≤ 1) (hc : 0 ≤ c.toInt ∧ c.toInt ≤ 1000) (hm : m.toInt = M) (hM : M ≤ 1000) : (m * side + c).toNatClampNeg = M * side.toNatClampNeg + c.toNatClampNeg := by
  have es : (side.toNatClampNeg : Int) = side.toInt := cl_k hs.1
  have ec : (c.toNatClampNeg : Int) = c.toInt := cl_k hc.1
  have ms : m.toInt * side.toInt = M * side.toInt := by rw [hm]
  have mb : (M : Int) * side.toInt = 0 ∨ (M : Int) * side.toInt = M := by
    rcases (show side.toInt = 0 ∨ side.toInt = 1 by omega) with z | z
    · rw [z]; exact Or.inl (Int.mul_zero _)
    · rw [z]; exact Or.inr (Int.mul_one _)
  have t1 : (m * side).toInt = M * side.toInt := by rw [Jvm.Kit.i32_mul (by omega) (by omega), ms]
  have t2 : (m * side + c).toInt = M * side.toInt + c.toInt := by rw [Jvm.Kit.i32_add (by omega) (by omega), t1]
  have e2 : ((m * side + c).toNatClampNeg : Int) = (m * side + c).toInt := cl_k (by omega)
  have e3 : ((M * side.toNatClampNeg : Nat) : Int) = M * side.toInt := by rw [Int.natCast_mul, es]
  omega
def G1 (side ce : Int32) (room water ways mc mro mwa mwy : Nat → Int32) : Prop :=
  (0 ≤ side.toInt ∧ side.toInt ≤ 1) ∧ (0 ≤ ce.toInt ∧ ce.toInt ≤ 12) ∧ mc side.toNatClampNeg = ce ∧ AL room mro (12 * side.toNatClampNeg) ce.toInt ∧ AL water mwa (12 * side.toNatClampNeg) ce.toInt ∧ AL ways mwy (12 * side.toNatClampNeg) ce.toInt ∧ ∀ i : Nat, i < 12 → (0 ≤ (ways i).toInt ∧ (ways i).toInt ≤ 8) ∧ (ce.toInt ≤ i → ways i = 0)
theorem G1_way {side ce c : Int32} {room water ways mc mro mwa mwy : Nat → Int32} (h : G1 side ce room water ways mc mro mwa mwy) (hc : 0 ≤ c.toInt ∧ c.toInt < ce.toInt) (h8 : (ways c.toNatClampNeg).toInt < 8) : G1 side ce room water (upd ways c.toNatClampNeg (ways c.toNatClampNeg + 1)) mc mro mwa (upd mwy (12 * side.toNatClampNeg + c.toNatClampNeg) (mwy (12 * side.toNatClampNeg + c.toNatClampNeg) + 1)) := by
  obtain ⟨h1, h2, h3, h4, h5, h6, h7⟩ := h
  have e : (c.toNatClampNeg : Int) = c.toInt := cl_k hc.1
  have w7 := h7 c.toNatClampNeg (by omega)
  refine ⟨h1, h2, h3, h4, h5, AL_up h6 (by rw [h6 _ (by omega)]) (Or.inl (Int.le_refl _)), fun i hi => ?_⟩
  unfold upd
  by_cases q : i = c.toNatClampNeg
  · rw [if_pos q]
    have t := add_k (x := ways c.toNatClampNeg) (v := 1) (k := 1) rfl (by omega) (by omega)
    exact ⟨⟨by omega, by omega⟩, fun z => by omega⟩
  · rw [if_neg q]; exact h7 i hi
/-- what comes of a WAY -/
def J5 (K S : Nat → Int32) (n side ce : Int32) (room water mc mro mwa : Nat → Int32) (a : Int32 × Int32 × Int32 × (Nat → Int32)) (b : Int32 × Int32 × (Nat → Int32)) : Prop :=
  (a.1 = 0 ∧ a.2.1 = 0 ∧ b.1 = 0 ∧ G1 side ce room water a.2.2.2 mc mro mwa b.2.2) ∨ (PB K S n a.1 a.2.1 a.2.2.1 b.1 ∧ b.1.toInt = 2)
theorem j_addWay {K S kd pl vl : Nat → Int32} {V tn : Nat → Int64} (tk : TKR K S V kd pl vl tn) {n s f fp lf t g gp w wp side ce c word tok : Int32} {room water ways mc mro mwa mwy : Nat → Int32} (h : PA K pl n s f lf t g w wp) (hg : G1 side ce room water ways mc mro mwa mwy) (hc : 0 ≤ c.toInt ∧ c.toInt < ce.toInt) : pj (f_X5_addWay s f fp ways c word) (f_X7_makesWay side pl g gp mwy c tok) (J5 K S n side ce room water mc mro mwa) := by
  obtain ⟨rfl, h1, h2, rfl, rfl, rfl, rfl, h3⟩ := h
  have hg0 := hg
  obtain ⟨g1, g2, g3, g4, g5, g6, g7⟩ := hg
  have e : (c.toNatClampNeg : Int) = c.toInt := cl_k hc.1
  have ew := g6 c.toNatClampNeg (by omega)
  have w7 := (g7 c.toNatClampNeg (by omega)).1
  have ix : ((12 : Int32) * side + c).toNatClampNeg = 12 * side.toNatClampNeg + c.toNatClampNeg := ix_e (M := 12) g1 ⟨hc.1, by omega⟩ rfl (by decide)
  have c0le : (0 : Int32) ≤ c := Int32.le_iff_toInt_le.mpr hc.1
  unfold f_X5_addWay f_X7_makesWay f_X7_makesWay_b39
  refine pj_ckl (fun _ => pj_ifr (fun z => absurd z (by decide)) (fun _ => pj_ifr (fun _ => pj_ckr (fun _ => ?_)) (fun z => absurd c0le z)))
  rw [ix]
  refine pj_ifl (fun d => ?_) (fun d => ?_)
  · have d2 := lt_k (k := 8) rfl d
    refine pj_ckl (fun _ => pj_ckl (fun _ => pj_nml ?_))
    refine pj_ifr (fun z => ?_) (fun _ => pj_ckr (fun _ => pj_ckr (fun _ => pj_nmr (pj_ss (Or.inl ⟨rfl, rfl, rfl, ?_⟩)))))
    · rw [← ew] at z
      have := z_eq (k := 8) rfl z
      omega
    · exact G1_way hg0 hc d2
  · have d2 := nlt_k (k := 8) rfl d
    have e8 : mwy (12 * side.toNatClampNeg + c.toNatClampNeg) = 8 := by rw [← ew]; exact z_of (k := 8) rfl (by omega)
    refine pj_ifr (fun _ => ?_) (fun z => absurd e8 z)
    refine pj_bl3 (P := fun o => o = (1, 2, word)) ?_ (fun a0 a1 a2 hp => ?_)
    · unfold f_X5_stop
      refine pa_bd2 (P := fun o => o = (2, word)) ?_ (fun a b hp => ?_)
      · unfold f_X5_note f_X5_note_b15
        exact pa_if (fun _ => pa_some rfl) (fun z => absurd rfl z)
      · cases hp
        exact pa_some rfl
    · cases hp
      refine pj_br2 (P := fun o => o.1 = 2) ?_ (fun b0 b1 hb => pj_ckr (fun _ => pj_ckr (fun _ => pj_nmr (pj_ss (Or.inr ?_)))))
      · unfold f_X7_failAt
        exact pa_if (fun _ => pa_ck (fun _ => pa_some rfl)) (fun z => absurd (by decide) z)
      · change b0 = 2 at hb
        show PB K S n 1 2 word b0 ∧ b0.toInt = 2
        rw [hb]
        exact ⟨⟨rfl, by decide, fun z => absurd z (by decide)⟩, by decide⟩
