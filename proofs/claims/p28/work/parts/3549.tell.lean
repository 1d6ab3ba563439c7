/-! the five tellings, on both sides -/
theorem PB_sub {K S : Nat → Int32} {n s f fp g c : Int32} (e : g = c) (h : PB K S n s f fp c) : PB K S n s f fp g := by
  rw [e]
  exact h
theorem inb_lt {x : Int32} {n : Nat} (h : inb x n = true) : 0 ≤ x.toInt ∧ x.toInt < n := by
  have q := of_decide_eq_true h
  have h0 : ¬ x < 0 := fun z => q (Or.inl z)
  have h1 : ¬ n ≤ x.toNatClampNeg := fun z => q (Or.inr z)
  have h2 := nlt_k (k := 0) rfl h0
  have e : (x.toNatClampNeg : Int) = x.toInt := cl_k h2
  exact ⟨h2, by omega⟩
theorem PA_nx {K pl : Nat → Int32} {n s f lf t g w wp m : Int32} (h : PA K pl n s f lf t g w wp) (e : m = n + 1) : m.toInt = n.toInt + 1 := by
  have a := h.2.1
  rw [e, h.1]
  exact (cl_up a.1 (by omega)).1
theorem le_0 {x : Int32} (h : x = 0) : x ≤ 0 := Int32.le_iff_toInt_le.mpr (Int.le_of_eq (congrArg Int32.toInt h))
theorem PA_tn {K pl : Nat → Int32} {n s f lf t g w wp : Int32} (h : PA K pl n s f lf t g w wp) : n = t := h.1
def G2 (side pp : Int32) (pf pt pw mp mo mh mw : Nat → Int32) : Prop :=
  (0 ≤ side.toInt ∧ side.toInt ≤ 1) ∧ (0 ≤ pp.toInt ∧ pp.toInt ≤ 20) ∧ mp side.toNatClampNeg = pp ∧ AL pf mo (20 * side.toNatClampNeg) pp.toInt ∧ AL pt mh (20 * side.toNatClampNeg) pp.toInt ∧ AL pw mw (20 * side.toNatClampNeg) pp.toInt
def G3 (side ri : Int32) (rc rl rw rs mr mrc mrl mrw mrs : Nat → Int32) : Prop :=
  (0 ≤ side.toInt ∧ side.toInt ≤ 1) ∧ (0 ≤ ri.toInt ∧ ri.toInt ≤ 3) ∧ mr side.toNatClampNeg = ri ∧ AL rc mrc (3 * side.toNatClampNeg) ri.toInt ∧ AL rl mrl (3 * side.toNatClampNeg) ri.toInt ∧ AL rw mrw (3 * side.toNatClampNeg) ri.toInt ∧ AL rs mrs (3 * side.toNatClampNeg) ri.toInt
def G4 (side ra : Int32) (rn mra mrn : Nat → Int32) : Prop :=
  (0 ≤ side.toInt ∧ side.toInt ≤ 1) ∧ (0 ≤ ra.toInt ∧ ra.toInt ≤ 14) ∧ mra side.toNatClampNeg = ra ∧ AL rn mrn (14 * side.toNatClampNeg) ra.toInt
def G5 (side vi : Int32) (vc nd mv mhm mnd : Nat → Int32) : Prop :=
  (0 ≤ side.toInt ∧ side.toInt ≤ 1) ∧ (0 ≤ vi.toInt ∧ vi.toInt ≤ 6) ∧ mv side.toNatClampNeg = vi ∧ AL vc mhm (6 * side.toNatClampNeg) vi.toInt ∧ AL nd mnd (6 * side.toNatClampNeg) vi.toInt
theorem up_at {m : Nat → Int32} {i : Nat} {v : Int32} : upd m i v i = v := by unfold upd; rw [if_pos rfl]
theorem G1_up {side ce r r2 q q2 : Int32} {room water ways mc mro mwa mwy : Nat → Int32} (h : G1 side ce room water ways mc mro mwa mwy) (h12 : ce.toInt < 12) (er : r = r2) (eq : q = q2) : G1 side (ce + 1) (upd room ce.toNatClampNeg r) (upd water ce.toNatClampNeg q) ways (upd mc side.toNatClampNeg (ce + 1)) (upd mro (12 * side.toNatClampNeg + ce.toNatClampNeg) r2) (upd mwa (12 * side.toNatClampNeg + ce.toNatClampNeg) q2) (upd mwy (12 * side.toNatClampNeg + ce.toNatClampNeg) 0) := by
  obtain ⟨h1, h2, h3, h4, h5, h6, h7⟩ := h
  have e : (ce.toNatClampNeg : Int) = ce.toInt := cl_k h2.1
  have t := add_k (x := ce) (v := 1) (k := 1) rfl (by omega) (by omega)
  have w0 := (h7 ce.toNatClampNeg (by omega)).2 (by omega)
  refine ⟨h1, ⟨by omega, by omega⟩, up_at, AL_up h4 er (Or.inr ⟨by omega, by omega⟩), AL_up h5 eq (Or.inr ⟨by omega, by omega⟩), fun i hi => ?_, fun i hi => ?_⟩
  · unfold upd
    by_cases z : i = ce.toNatClampNeg
    · rw [if_pos (by omega), z]; exact w0
    · rw [if_neg (by omega)]; exact h6 i (by omega)
  · have w := h7 i hi
    exact ⟨w.1, fun z => w.2 (by omega)⟩
theorem vp_at {m : Nat → Int64} {i : Nat} {v : Int64} : vp_updL m i v i = v := by unfold vp_updL; rw [if_pos rfl]
theorem vp_ne {m : Nat → Int64} {i j : Nat} {v : Int64} (h : ¬ j = i) : vp_updL m i v j = m j := by unfold vp_updL; rw [if_neg h]
theorem up_ne {m : Nat → Int32} {i j : Nat} {v : Int32} (h : ¬ j = i) : upd m i v j = m j := by unfold upd; rw [if_neg h]
theorem NM_c {cn vn no : Nat → Int64} {na : Nat → Int32} {ce vi nm_ : Int32} {v u : Int64} (h : NM cn ce vn vi nm_ no na) (hr : NR v u) (h12 : ce.toInt < 12) : NM (vp_updL cn ce.toNatClampNeg v) (ce + 1) vn vi (nm_ + 1) (vp_updL no nm_.toNatClampNeg u) (upd na nm_.toNatClampNeg ce) := by
  obtain ⟨h1, h2, h3, h4, h5, h6, h7⟩ := h
  have e : (ce.toNatClampNeg : Int) = ce.toInt := cl_k h1.1
  have en : (nm_.toNatClampNeg : Int) = nm_.toInt := cl_k (by omega)
  have t := add_k (x := ce) (v := 1) (k := 1) rfl (by omega) (by omega)
  have tn := add_k (x := nm_) (v := 1) (k := 1) rfl (by omega) (by omega)
  refine ⟨⟨by omega, by omega⟩, h2, by omega, fun i hi => ?_, fun q hq => ?_, fun k hk => ?_, fun k l hkl hl hk0 hl0 => ?_⟩
  · by_cases z : i = ce.toNatClampNeg
    · refine ⟨nm_.toNatClampNeg, by omega, ?_, ?_⟩
      · rw [up_at]; omega
      · rw [vp_at, z, vp_at]; exact hr
    · obtain ⟨k, hk, a, b⟩ := h4 i (by omega)
      refine ⟨k, by omega, ?_, ?_⟩
      · rw [up_ne (by omega)]; exact a
      · rw [vp_ne z, vp_ne (by omega)]; exact b
  · obtain ⟨k, hk, a, b⟩ := h5 q hq
    refine ⟨k, by omega, ?_, ?_⟩
    · rw [up_ne (by omega)]; exact a
    · rw [vp_ne (by omega)]; exact b
  · by_cases z : k = nm_.toNatClampNeg
    · refine Or.inl ⟨ce.toNatClampNeg, by omega, ?_, ?_⟩
      · rw [z, up_at]; omega
      · rw [z, vp_at, vp_at]; exact hr
    · rcases h6 k (by omega) with ⟨i, hi, a, b⟩ | ⟨a, q, hq, b⟩
      · refine Or.inl ⟨i, by omega, ?_, ?_⟩
        · rw [up_ne z]; exact a
        · rw [vp_ne (by omega), vp_ne z]; exact b
      · refine Or.inr ⟨?_, q, hq, ?_⟩
        · rw [up_ne z]; exact a
        · rw [vp_ne z]; exact b
  · have kn : ¬ k = nm_.toNatClampNeg := by omega
    rw [up_ne kn] at hk0 ⊢
    by_cases z : l = nm_.toNatClampNeg
    · rw [z, up_at]
      rcases h6 k (by omega) with ⟨i, hi, a, b⟩ | ⟨a, _⟩ <;> omega
    · rw [up_ne z] at hl0 ⊢
      exact h7 k l hkl (by omega) hk0 hl0
theorem NM_v {cn vn no : Nat → Int64} {na : Nat → Int32} {ce vi nm_ : Int32} {v u : Int64} (h : NM cn ce vn vi nm_ no na) (hr : NR v u) (h6' : vi.toInt < 6) : NM cn ce (vp_updL vn vi.toNatClampNeg v) (vi + 1) (nm_ + 1) (vp_updL no nm_.toNatClampNeg u) (upd na nm_.toNatClampNeg (-1)) := by
  obtain ⟨h1, h2, h3, h4, h5, h6, h7⟩ := h
  have e : (vi.toNatClampNeg : Int) = vi.toInt := cl_k h2.1
  have en : (nm_.toNatClampNeg : Int) = nm_.toInt := cl_k (by omega)
  have t := add_k (x := vi) (v := 1) (k := 1) rfl (by omega) (by omega)
  have tn := add_k (x := nm_) (v := 1) (k := 1) rfl (by omega) (by omega)
  have em : (-1 : Int32).toInt = -1 := by decide
  refine ⟨h1, ⟨by omega, by omega⟩, by omega, fun i hi => ?_, fun q hq => ?_, fun k hk => ?_, fun k l hkl hl hk0 hl0 => ?_⟩
  · obtain ⟨k, hk, a, b⟩ := h4 i hi
    refine ⟨k, by omega, ?_, ?_⟩
    · rw [up_ne (by omega)]; exact a
    · rw [vp_ne (by omega)]; exact b
  · by_cases z : q = vi.toNatClampNeg
    · refine ⟨nm_.toNatClampNeg, by omega, ?_, ?_⟩
      · rw [up_at]; exact em
      · rw [vp_at, z, vp_at]; exact hr
    · obtain ⟨k, hk, a, b⟩ := h5 q (by omega)
      refine ⟨k, by omega, ?_, ?_⟩
      · rw [up_ne (by omega)]; exact a
      · rw [vp_ne z, vp_ne (by omega)]; exact b
  · by_cases z : k = nm_.toNatClampNeg
    · refine Or.inr ⟨?_, vi.toNatClampNeg, by omega, ?_⟩
      · rw [z, up_at]; exact em
      · rw [z, vp_at, vp_at]; exact hr
    · rcases h6 k (by omega) with ⟨i, hi, a, b⟩ | ⟨a, q, hq, b⟩
      · refine Or.inl ⟨i, hi, ?_, ?_⟩
        · rw [up_ne z]; exact a
        · rw [vp_ne z]; exact b
      · refine Or.inr ⟨?_, q, by omega, ?_⟩
        · rw [up_ne z]; exact a
        · rw [vp_ne (by omega), vp_ne z]; exact b
  · have kn : ¬ k = nm_.toNatClampNeg := by omega
    rw [up_ne kn] at hk0 ⊢
    by_cases z : l = nm_.toNatClampNeg
    · rw [z, up_at, em] at hl0
      omega
    · rw [up_ne z] at hl0 ⊢
      exact h7 k l hkl (by omega) hk0 hl0
theorem m_notes {tn no : Nat → Int64} {na : Nat → Int32} {nm_ q1 q2 : Int32} : pa (f_X7_notes tn nm_ no na q1 q2) (fun o => o = (nm_ + 1, vp_updL no nm_.toNatClampNeg (tn q1.toNatClampNeg), upd na nm_.toNatClampNeg q2)) := by
  unfold f_X7_notes
  exact pa_ck (fun _ => pa_ck (fun _ => pa_nx (pa_ck (fun _ => pa_nx (pa_some rfl)))))
def GA (K pl : Nat → Int32) (side n s f lf : Int32) (cn : Nat → Int64) (ce : Int32) (vn : Nat → Int64) (vi : Int32) (room water ways : Nat → Int32) (pp : Int32) (pf pt pw : Nat → Int32) (ri : Int32) (rc rl rw rs : Nat → Int32) (ra : Int32) (rn vc nd : Nat → Int32) (t op g w wp nm_ : Int32) (no : Nat → Int64) (na mc mro mwa mwy mp mo mh mw mr mrc mrl mrw mrs mra mrn mv mhm mnd : Nat → Int32) : Prop :=
  PA K pl n s f lf t g w wp ∧ op = 0 ∧ NM cn ce vn vi nm_ no na ∧ G1 side ce room water ways mc mro mwa mwy ∧ G2 side pp pf pt pw mp mo mh mw ∧ G3 side ri rc rl rw rs mr mrc mrl mrw mrs ∧ G4 side ra rn mra mrn ∧ G5 side vi vc nd mv mhm mnd
theorem j_readCell {K S kd pl vl : Nat → Int32} {V tn : Nat → Int64} (tk : TKR K S V kd pl vl tn) {side n s f fp lf lp t op g gp w wp ce vi pp ri ra nm_ codes waiting : Int32} {cn vn no : Nat → Int64} {room water ways pf pt pw rc rl rw rs rn vc nd na mc mro mwa mwy mp mo mh mw mr mrc mrl mrw mrs mra mrn mv mhm mnd lwf lwt code ci waits : Nat → Int32} (h : GA K pl side n s f lf cn ce vn vi room water ways pp pf pt pw ri rc rl rw rs ra rn vc nd t op g w wp nm_ no na mc mro mwa mwy mp mo mh mw mr mrc mrl mrw mrs mra mrn mv mhm mnd) (hk : K t.toNatClampNeg = 5) : pj (f_X5_readCell K S V vn vi n s f fp lf lp cn ce room water) (f_X7_tell side kd pl vl tn t op g gp w wp nm_ codes waiting no na mc mro mwa mwy mp mo mh mw mr mrc mrl mrw mrs mra mrn mv mhm mnd lwf lwt code ci waits) (fun a b => (GA K pl side a.1 a.2.1 a.2.2.1 a.2.2.2.2.1 a.2.2.2.2.2.2.1 a.2.2.2.2.2.2.2.1 vn vi a.2.2.2.2.2.2.2.2.1 a.2.2.2.2.2.2.2.2.2 ways pp pf pt pw ri rc rl rw rs ra rn vc nd b.1 b.2.1 b.2.2.1 b.2.2.2.2.1 b.2.2.2.2.2.1 b.2.2.2.2.2.2.1 b.2.2.2.2.2.2.2.2.2.1 b.2.2.2.2.2.2.2.2.2.2.1 b.2.2.2.2.2.2.2.2.2.2.2.1 b.2.2.2.2.2.2.2.2.2.2.2.2.1 b.2.2.2.2.2.2.2.2.2.2.2.2.2.1 b.2.2.2.2.2.2.2.2.2.2.2.2.2.2.1 b.2.2.2.2.2.2.2.2.2.2.2.2.2.2.2.1 b.2.2.2.2.2.2.2.2.2.2.2.2.2.2.2.2.1 b.2.2.2.2.2.2.2.2.2.2.2.2.2.2.2.2.2.1 b.2.2.2.2.2.2.2.2.2.2.2.2.2.2.2.2.2.2.1 b.2.2.2.2.2.2.2.2.2.2.2.2.2.2.2.2.2.2.2.1 b.2.2.2.2.2.2.2.2.2.2.2.2.2.2.2.2.2.2.2.2.1 b.2.2.2.2.2.2.2.2.2.2.2.2.2.2.2.2.2.2.2.2.2.1 b.2.2.2.2.2.2.2.2.2.2.2.2.2.2.2.2.2.2.2.2.2.2.1 b.2.2.2.2.2.2.2.2.2.2.2.2.2.2.2.2.2.2.2.2.2.2.2.1 b.2.2.2.2.2.2.2.2.2.2.2.2.2.2.2.2.2.2.2.2.2.2.2.2.1 b.2.2.2.2.2.2.2.2.2.2.2.2.2.2.2.2.2.2.2.2.2.2.2.2.2.1 b.2.2.2.2.2.2.2.2.2.2.2.2.2.2.2.2.2.2.2.2.2.2.2.2.2.2.1 b.2.2.2.2.2.2.2.2.2.2.2.2.2.2.2.2.2.2.2.2.2.2.2.2.2.2.2.1 b.2.2.2.2.2.2.2.2.2.2.2.2.2.2.2.2.2.2.2.2.2.2.2.2.2.2.2.2.1 ∧ n.toInt < (a.1).toInt) ∨ PB K S a.1 a.2.1 a.2.2.1 a.2.2.2.1 b.2.2.1) := by
  obtain ⟨hA, hop, hN, h1, h2, h3, h4, h5⟩ := h
  have tt := hA.2.1
  have te : (t.toNatClampNeg : Int) = t.toInt := cl_k tt.1
  have kdt : kd t.toNatClampNeg = 20 := (kp_5 (tk.1 t.toNatClampNeg (by omega) hA.2.2.1).1).mp hk
  have ix : ((12 : Int32) * side + ce).toNatClampNeg = 12 * side.toNatClampNeg + ce.toNatClampNeg := ix_e (M := 12) h1.1 ⟨h1.2.1.1, by have := h1.2.1; omega⟩ rfl (by decide)
  unfold f_X5_readCell f_X7_tell
  refine pj_ckr (fun _ => pj_ifr (fun _ => pj_ckr (fun _ => ?_)) (fun z => absurd kdt z))
  rw [h1.2.2.1]
  refine pj_b5_3 (j_opens tk hA (by rw [hk]; decide) (by have hm := h1.2.1.2; have em : (12 : Int32).toInt = 12 := rfl; omega)) (fun a1_0 a1_1 a1_2 a1_3 a1_4 b1_0 b1_1 b1_2 hj1 => ?_)
  rcases hj1 with ⟨v1, h1x, m1, _, _⟩ | ⟨q1, _⟩
  · change a1_0 = 1 at v1
    change PA K pl a1_1 a1_2 a1_3 lf b1_0 b1_1 w wp at h1x
    have n1 : a1_1.toInt = n.toInt + 1 := PA_nx hA m1
    have z1 : b1_1 = 0 := h1x.2.2.2.2.2.1
    refine pj_ifl (fun z => absurd (v1.symm.trans z) (by decide)) (fun _ => pj_ifr (fun _ => ?_) (fun z => absurd z1 z))
    refine pj_bR12 (J := fun (a : Int32 × Int32 × Int32 × Int32 × Int32 × Int32 × (Nat → Int64) × Int32 × (Nat → Int32) × (Nat → Int32)) (b : Int32 × Int32 × Int32 × Int32 × Int32 × Int32 × (Nat → Int64) × (Nat → Int32) × (Nat → Int32) × (Nat → Int32) × (Nat → Int32) × (Nat → Int32)) => (PA K pl a.1 a.2.1 a.2.2.1 a.2.2.2.2.1 b.1 b.2.1 b.2.2.2.1 b.2.2.2.2.1 ∧ NM a.2.2.2.2.2.2.1 a.2.2.2.2.2.2.2.1 vn vi b.2.2.2.2.2.1 b.2.2.2.2.2.2.1 b.2.2.2.2.2.2.2.1 ∧ G1 side a.2.2.2.2.2.2.2.1 a.2.2.2.2.2.2.2.2.1 a.2.2.2.2.2.2.2.2.2 ways b.2.2.2.2.2.2.2.2.1 b.2.2.2.2.2.2.2.2.2.1 b.2.2.2.2.2.2.2.2.2.2.1 b.2.2.2.2.2.2.2.2.2.2.2 ∧ n.toInt < a.1.toInt) ∨ PB K S a.1 a.2.1 a.2.2.1 a.2.2.2.1 b.2.1) ?_ ?_
    · unfold f_X7_tellCell
      refine pj_ckr (fun _ => pj_nmr ?_)
      rw [h1.2.2.1, ix]
      refine pj_b7_6 (j_newName tk hN h1x) (fun a2_0 a2_1 a2_2 a2_3 a2_4 a2_5 a2_6 b2_0 b2_1 b2_2 b2_3 b2_4 b2_5 hj2 => ?_)
      rcases hj2 with ⟨h2x, v2, m2, _⟩ | q2
      · change PA K pl a2_1 a2_2 a2_3 a2_5 b2_1 b2_2 b2_4 b2_5 at h2x
        change NR a2_0 (tn b2_0.toNatClampNeg) at v2
        have n2 : a2_1.toInt = a1_1.toInt + 1 := PA_nx h1x m2
        refine pj_ckl (fun i12 => pj_nml ?_)
        have lt12 := (inb_lt i12).2
        refine pj_b7_6 (j_number tk h2x) (fun a3_0 a3_1 a3_2 a3_3 a3_4 a3_5 a3_6 b3_0 b3_1 b3_2 b3_3 b3_4 b3_5 hj3 => ?_)
        rcases hj3 with ⟨h3x, v3, m3, _⟩ | q3
        · change PA K pl a3_1 a3_2 a3_3 a3_5 b3_1 b3_2 b3_4 b3_5 at h3x
          change a3_0 = b3_0 at v3
          have n3 : a3_1.toInt = a2_1.toInt + 1 := PA_nx h2x m3
          refine pj_ckl (fun _ => pj_nml (pj_ckr (fun _ => pj_nmr ?_)))
          refine pj_b7_6 (j_number tk h3x) (fun a4_0 a4_1 a4_2 a4_3 a4_4 a4_5 a4_6 b4_0 b4_1 b4_2 b4_3 b4_4 b4_5 hj4 => ?_)
          rcases hj4 with ⟨h4x, v4, m4, _⟩ | q4
          · change PA K pl a4_1 a4_2 a4_3 a4_5 b4_1 b4_2 b4_4 b4_5 at h4x
            change a4_0 = b4_0 at v4
            have n4 : a4_1.toInt = a3_1.toInt + 1 := PA_nx h3x m4
            refine pj_ckl (fun _ => pj_nml (pj_ckr (fun _ => pj_nmr (pj_ckr (fun _ => pj_nmr ?_)))))
            refine pj_b5_3 (j_accept tk h4x (q5 := 59) (q7 := 4) kp_59 (by decide)) (fun a5_0 a5_1 a5_2 a5_3 a5_4 b5_0 b5_1 b5_2 hj5 => ?_)
            rcases hj5 with ⟨v5, h5x, m5, _, _⟩ | ⟨q5, _⟩
            · change PA K pl a5_1 a5_2 a5_3 a4_5 b5_0 b5_1 b4_4 b4_5 at h5x
              have n5 : a5_1.toInt = a4_1.toInt + 1 := PA_nx h4x m5
              have z5 : b5_1 = 0 := h5x.2.2.2.2.2.1
              refine pj_ifr (fun _ => pj_ckr (fun _ => pj_br3 m_notes (fun y0 y1 y2 hy => ?_))) (fun z => absurd (le_0 z5) z)
              cases hy
              refine pj_ckr (fun _ => pj_ckr (fun _ => pj_nmr (pj_ss (Or.inl ⟨h5x, NM_c hN v2 lt12, G1_up h1 lt12 v3 v4, ?_⟩))))
              show n.toInt < a5_1.toInt
              omega
            · change PB K S a5_1 a5_2 a5_3 a5_4 b5_1 at q5
              exact pj_of (P := fun a => PB K S a.1 a.2.1 a.2.2.1 a.2.2.2.1 b5_1) (Q := fun b => FB b.2.1 b5_1) (pa_some q5) (pa_if (fun z => absurd z (FB_le (FB_rf q5))) (fun _ => pa_some (FB_rf q5))) (fun a b ha hb => Or.inr (PB_sub hb.1 ha))
          · change PB K S a4_1 a4_2 a4_3 a4_4 b4_2 at q4
            exact pj_of (P := fun a => PB K S a.1 a.2.1 a.2.2.1 a.2.2.2.1 b4_2) (Q := fun b => FB b.2.1 b4_2) (pa_ck (fun _ => pa_nx (pa_bd5 (b_accept tk q4 (by decide)) (fun _ _ _ _ _ k2 => pa_some k2.1)))) (pa_ck (fun _ => pa_nx (pa_ck (fun _ => pa_nx (pa_bd3 (r_must (FB_rf q4)) (fun _ _ _ k3 => pa_if (fun z => absurd z (FB_le k3)) (fun _ => pa_some k3))))))) (fun a b ha hb => Or.inr (PB_sub hb.1 ha))
        · change PB K S a3_1 a3_2 a3_3 a3_4 b3_2 at q3
          exact pj_of (P := fun a => PB K S a.1 a.2.1 a.2.2.1 a.2.2.2.1 b3_2) (Q := fun b => FB b.2.1 b3_2) (pa_ck (fun _ => pa_nx (pa_bd7 (b_number tk _ _ _ _ q3) (fun _ _ _ _ _ _ _ k5 => pa_ck (fun _ => pa_nx (pa_bd5 (b_accept tk k5 (by decide)) (fun _ _ _ _ _ k6 => pa_some k6.1))))))) (pa_ck (fun _ => pa_nx (pa_bd6 (r_bounded (FB_rf q3)) (fun _ _ _ _ _ _ k7 => pa_ck (fun _ => pa_nx (pa_ck (fun _ => pa_nx (pa_bd3 (r_must k7) (fun _ _ _ k8 => pa_if (fun z => absurd z (FB_le k8)) (fun _ => pa_some k8)))))))))) (fun a b ha hb => Or.inr (PB_sub hb.1 ha))
      · change PB K S a2_1 a2_2 a2_3 a2_4 b2_2 at q2
        exact pj_of (P := fun a => PB K S a.1 a.2.1 a.2.2.1 a.2.2.2.1 b2_2) (Q := fun b => FB b.2.1 b2_2) (pa_ck (fun _ => pa_nx (pa_bd7 (b_number tk _ _ _ _ q2) (fun _ _ _ _ _ _ _ k10 => pa_ck (fun _ => pa_nx (pa_bd7 (b_number tk _ _ _ _ k10) (fun _ _ _ _ _ _ _ k11 => pa_ck (fun _ => pa_nx (pa_bd5 (b_accept tk k11 (by decide)) (fun _ _ _ _ _ k12 => pa_some k12.1)))))))))) (pa_bd6 (r_bounded (FB_rf q2)) (fun _ _ _ _ _ _ k13 => pa_ck (fun _ => pa_nx (pa_bd6 (r_bounded k13) (fun _ _ _ _ _ _ k14 => pa_ck (fun _ => pa_nx (pa_ck (fun _ => pa_nx (pa_bd3 (r_must k14) (fun _ _ _ k15 => pa_if (fun z => absurd z (FB_le k15)) (fun _ => pa_some k15))))))))))) (fun a b ha hb => Or.inr (PB_sub hb.1 ha))
    · intro a b0 b1 b2 b3 b4 b5 b6 b7 b8 b9 b10 b11 hJ
      rcases hJ with ⟨j1, j2, j3, j4⟩ | jB
      · exact pa_some (Or.inl ⟨⟨j1, hop, j2, j3, h2, h3, h4, h5⟩, j4⟩)
      · exact pa_some (Or.inr jB)
  · change PB K S a1_1 a1_2 a1_3 a1_4 b1_1 at q1
    exact pj_of (P := fun a => PB K S a.1 a.2.1 a.2.2.1 a.2.2.2.1 b1_1) (Q := fun b => FB b.2.2.1 b1_1) (pa_if (fun _ => pa_some q1) (fun _ => pa_bd7 (b_newName tk _ _ _ _ _ _ q1) (fun _ _ _ _ _ _ _ k18 => pa_ck (fun _ => pa_nx (pa_bd7 (b_number tk _ _ _ _ k18) (fun _ _ _ _ _ _ _ k19 => pa_ck (fun _ => pa_nx (pa_bd7 (b_number tk _ _ _ _ k19) (fun _ _ _ _ _ _ _ k20 => pa_ck (fun _ => pa_nx (pa_bd5 (b_accept tk k20 (by decide)) (fun _ _ _ _ _ k21 => pa_some k21.1)))))))))))) (pa_if (fun z => absurd z (FB_eq (FB_rf q1))) (fun _ => pa_some (FB_rf q1))) (fun a b ha hb => Or.inr (PB_sub hb.1 ha))
theorem PA_w {K pl : Nat → Int32} {n s f lf t g w wp lf' w' wp' : Int32} (h : PA K pl n s f lf t g w wp) (e : lf' = w') (hw : ¬ w' = 0 → 1 ≤ t.toInt ∧ wp'.toInt ≤ (pl (t.toNatClampNeg - 1)).toInt ∧ 0 < w'.toInt) : PA K pl n s f lf' t g w' wp' := ⟨h.1, h.2.1, h.2.2.1, h.2.2.2.1, h.2.2.2.2.1, h.2.2.2.2.2.1, e, hw⟩
theorem PA_s {K pl : Nat → Int32} {n s f lf t g w wp s' f' g' : Int32} (h : PA K pl n s f lf t g w wp) (e1 : s' = 0) (e2 : f' = 0) (e3 : g' = 0) : PA K pl n s' f' lf t g' w wp := ⟨h.1, h.2.1, h.2.2.1, e1, e2, e3, h.2.2.2.2.2.2.1, h.2.2.2.2.2.2.2⟩
theorem PB_2 {K S : Nat → Int32} {n s f fp g : Int32} (h : PB K S n s f fp g) (e : s = 0) : g.toInt = 2 := (h.2.2 e).1
theorem G2_up {side pp r r2 q q2 u u2 : Int32} {pf pt pw mp mo mh mw : Nat → Int32} (h : G2 side pp pf pt pw mp mo mh mw) (h20 : pp.toInt < 20) (er : r = r2) (eq : q = q2) (eu : u = u2) : G2 side (pp + 1) (upd pf pp.toNatClampNeg r) (upd pt pp.toNatClampNeg q) (upd pw pp.toNatClampNeg u) (upd mp side.toNatClampNeg (pp + 1)) (upd mo (20 * side.toNatClampNeg + pp.toNatClampNeg) r2) (upd mh (20 * side.toNatClampNeg + pp.toNatClampNeg) q2) (upd mw (20 * side.toNatClampNeg + pp.toNatClampNeg) u2) := by
  obtain ⟨h1, h2, h3, h4, h5, h6⟩ := h
  have e : (pp.toNatClampNeg : Int) = pp.toInt := cl_k h2.1
  have t := add_k (x := pp) (v := 1) (k := 1) rfl (by omega) (by omega)
  exact ⟨h1, ⟨by omega, by omega⟩, up_at, AL_up h4 er (Or.inr ⟨by omega, by omega⟩), AL_up h5 eq (Or.inr ⟨by omega, by omega⟩), AL_up h6 eu (Or.inr ⟨by omega, by omega⟩)⟩
theorem b_p89 {K S kd pl vl : Nat → Int32} {V tn : Nat → Int64} (tk : TKR K S V kd pl vl tn) {n s f fp g lf lp pp x2 x3 x4 : Int32} {ways pf pt pw : Nat → Int32} (h : PB K S n s f fp g) : pa (f_X5_readPass_b89 K S V n s f fp lf lp pp ways pf pt pw x2 x3 x4) (fun a => PB K S a.1 a.2.1 a.2.2.1 a.2.2.2.1 g) := by
  unfold f_X5_readPass_b89
  exact pa_ck (fun _ => pa_nx (pa_ck (fun _ => pa_nx (pa_bd7 (b_number tk _ _ _ _ h) (fun _ _ _ _ _ _ _ k23 => pa_ck (fun _ => pa_nx (pa_bd5 (b_accept tk k23 (by decide)) (fun _ _ _ _ _ k24 => pa_some k24.1))))))))
theorem r_p87 {kd pl vl : Nat → Int32} {side t g gp w wp c x2 x3 x5 : Int32} {mwy mp mo mh mw : Nat → Int32} (h : FB g c) : pa (f_X7_tellPass_b87 side kd pl vl t g gp w wp mwy mp mo mh mw x2 x3 x5) (fun b => FB b.2.1 c) := by
  unfold f_X7_tellPass_b87
  exact pa_ck (fun _ => pa_nx (pa_ck (fun _ => pa_nx (pa_bd6 (r_bounded h) (fun _ _ _ _ _ _ k25 => pa_ck (fun _ => pa_nx (pa_bd3 (r_must k25) (fun _ _ _ k26 => pa_if (fun z => absurd z (FB_eq k26)) (fun _ => pa_some k26)))))))))
theorem b_p65 {K S kd pl vl : Nat → Int32} {V tn : Nat → Int64} (tk : TKR K S V kd pl vl tn) {n s f fp g lf lp pp x1 x2 x3 x4 : Int32} {ways pf pt pw : Nat → Int32} (h : PB K S n s f fp g) (h2 : ¬ x4 = -1 → g.toInt = 2) : pa (f_X5_readPass_b65 K S V n s f fp lf lp pp ways pf pt pw x1 x2 x3 x4) (fun a => PB K S a.1 a.2.1 a.2.2.1 a.2.2.2.1 g) := by
  unfold f_X5_readPass_b65
  exact pa_if (fun _ => b_p89 tk h) (fun _ => pa_if (fun _ => b_p89 tk h) (fun z => pa_bd4 (b_addWay _ h (h2 z)) (fun _ _ _ _ k1 => pa_bd4 (b_addWay _ k1 (h2 z)) (fun _ _ _ _ k2 => b_p89 tk k2))))
theorem r_p59 {kd pl vl : Nat → Int32} {side t g gp w wp c x1 x2 x3 x5 : Int32} {mwy mp mo mh mw : Nat → Int32} (h : FB g c) : pa (f_X7_tellPass_b59 side kd pl vl t g gp w wp mwy mp mo mh mw x1 x2 x3 x5) (fun b => FB b.2.1 c) := by
  unfold f_X7_tellPass_b59
  exact pa_if (fun _ => r_p87 h) (fun _ => pa_if (fun _ => r_p87 h) (fun _ => pa_if (fun _ => r_p87 h) (fun _ => pa_bd3 (r_makesWay h) (fun _ _ _ k1 => pa_bd3 (r_makesWay k1) (fun _ _ _ k2 => r_p87 k2)))))
theorem j_p89 {K S kd pl vl : Nat → Int32} {V tn : Nat → Int64} (tk : TKR K S V kd pl vl tn) {n0 side n s f fp lf lp t g gp w wp pp ce x2 x3 x4 : Int32} {room water ways pf pt pw mc mro mwa mwy mp mo mh mw : Nat → Int32} (h : PA K pl n s f lf t g w wp) (h1 : G1 side ce room water ways mc mro mwa mwy) (h2 : G2 side pp pf pt pw mp mo mh mw) (h0 : n0.toInt ≤ n.toInt) (ix : x2.toNatClampNeg = 20 * side.toNatClampNeg + pp.toNatClampNeg) : pj (f_X5_readPass_b89 K S V n s f fp lf lp pp ways pf pt pw pp x3 x4) (f_X7_tellPass_b87 side kd pl vl t g gp w wp mwy mp mo mh mw x2 x3 x4) (fun (a : Int32 × Int32 × Int32 × Int32 × Int32 × Int32 × Int32 × (Nat → Int32) × (Nat → Int32) × (Nat → Int32) × (Nat → Int32)) (b : Int32 × Int32 × Int32 × Int32 × Int32 × (Nat → Int32) × (Nat → Int32) × (Nat → Int32) × (Nat → Int32) × (Nat → Int32)) => (PA K pl a.1 a.2.1 a.2.2.1 a.2.2.2.2.1 b.1 b.2.1 b.2.2.2.1 b.2.2.2.2.1 ∧ G1 side ce room water a.2.2.2.2.2.2.2.1 mc mro mwa b.2.2.2.2.2.1 ∧ G2 side a.2.2.2.2.2.2.1 a.2.2.2.2.2.2.2.2.1 a.2.2.2.2.2.2.2.2.2.1 a.2.2.2.2.2.2.2.2.2.2 b.2.2.2.2.2.2.1 b.2.2.2.2.2.2.2.1 b.2.2.2.2.2.2.2.2.1 b.2.2.2.2.2.2.2.2.2 ∧ n0.toInt < a.1.toInt) ∨ PB K S a.1 a.2.1 a.2.2.1 a.2.2.2.1 b.2.1) := by
  unfold f_X5_readPass_b89 f_X7_tellPass_b87
  rw [ix, h2.2.2.1]
  refine pj_ckl (fun i20 => pj_nml (pj_ckl (fun _ => pj_nml (pj_ckr (fun _ => pj_nmr (pj_ckr (fun _ => pj_nmr ?_)))))))
  have lt20 := (inb_lt i20).2
  refine pj_b7_6 (j_number tk h) (fun a1_0 a1_1 a1_2 a1_3 a1_4 a1_5 a1_6 b1_0 b1_1 b1_2 b1_3 b1_4 b1_5 hj1 => ?_)
  rcases hj1 with ⟨h1x, v1, m1, _⟩ | q1
  · change PA K pl a1_1 a1_2 a1_3 a1_5 b1_1 b1_2 b1_4 b1_5 at h1x
    change a1_0 = b1_0 at v1
    have n1 : a1_1.toInt = n.toInt + 1 := PA_nx h m1
    refine pj_ckl (fun _ => pj_nml (pj_ckr (fun _ => pj_nmr ?_)))
    refine pj_b5_3 (j_accept tk h1x (q5 := 59) (q7 := 4) kp_59 (by decide)) (fun a2_0 a2_1 a2_2 a2_3 a2_4 b2_0 b2_1 b2_2 hj2 => ?_)
    rcases hj2 with ⟨v2, h2x, m2, _, _⟩ | ⟨q2, _⟩
    · change PA K pl a2_1 a2_2 a2_3 a1_5 b2_0 b2_1 b1_4 b1_5 at h2x
      have n2 : a2_1.toInt = a1_1.toInt + 1 := PA_nx h1x m2
      have z2 : b2_1 = 0 := h2x.2.2.2.2.2.1
      refine pj_ifr (fun _ => pj_ckr (fun _ => pj_ckr (fun _ => pj_nmr (pj_ss (Or.inl ⟨h2x, h1, G2_up h2 lt20 rfl rfl v1, ?_⟩))))) (fun z => absurd z2 z)
      show n0.toInt < a2_1.toInt
      omega
    · change PB K S a2_1 a2_2 a2_3 a2_4 b2_1 at q2
      exact pj_of (P := fun a => PB K S a.1 a.2.1 a.2.2.1 a.2.2.2.1 b2_1) (Q := fun b => FB b.2.1 b2_1) (pa_some q2) (pa_if (fun z => absurd z (FB_eq (FB_rf q2))) (fun _ => pa_some (FB_rf q2))) (fun a b ha hb => Or.inr (PB_sub hb.1 ha))
  · change PB K S a1_1 a1_2 a1_3 a1_4 b1_2 at q1
    exact pj_of (P := fun a => PB K S a.1 a.2.1 a.2.2.1 a.2.2.2.1 b1_2) (Q := fun b => FB b.2.1 b1_2) (pa_ck (fun _ => pa_nx (pa_bd5 (b_accept tk q1 (by decide)) (fun _ _ _ _ _ k29 => pa_some k29.1)))) (pa_ck (fun _ => pa_nx (pa_bd3 (r_must (FB_rf q1)) (fun _ _ _ k30 => pa_if (fun z => absurd z (FB_eq k30)) (fun _ => pa_some k30))))) (fun a b ha hb => Or.inr (PB_sub hb.1 ha))
theorem j_readPass {K S kd pl vl : Nat → Int32} {V tn : Nat → Int64} (tk : TKR K S V kd pl vl tn) {side n s f fp lf lp t op g gp w wp ce vi pp ri ra nm_ codes waiting : Int32} {cn vn no : Nat → Int64} {room water ways pf pt pw rc rl rw rs rn vc nd na mc mro mwa mwy mp mo mh mw mr mrc mrl mrw mrs mra mrn mv mhm mnd lwf lwt code ci waits : Nat → Int32} (h : GA K pl side n s f lf cn ce vn vi room water ways pp pf pt pw ri rc rl rw rs ra rn vc nd t op g w wp nm_ no na mc mro mwa mwy mp mo mh mw mr mrc mrl mrw mrs mra mrn mv mhm mnd) (hk : K t.toNatClampNeg = 6) : pj (f_X5_readPass K S V cn ce n s f fp lf lp pp ways pf pt pw) (f_X7_tell side kd pl vl tn t op g gp w wp nm_ codes waiting no na mc mro mwa mwy mp mo mh mw mr mrc mrl mrw mrs mra mrn mv mhm mnd lwf lwt code ci waits) (fun a b => (GA K pl side a.1 a.2.1 a.2.2.1 a.2.2.2.2.1 cn ce vn vi room water a.2.2.2.2.2.2.2.1 a.2.2.2.2.2.2.1 a.2.2.2.2.2.2.2.2.1 a.2.2.2.2.2.2.2.2.2.1 a.2.2.2.2.2.2.2.2.2.2 ri rc rl rw rs ra rn vc nd b.1 b.2.1 b.2.2.1 b.2.2.2.2.1 b.2.2.2.2.2.1 b.2.2.2.2.2.2.1 b.2.2.2.2.2.2.2.2.2.1 b.2.2.2.2.2.2.2.2.2.2.1 b.2.2.2.2.2.2.2.2.2.2.2.1 b.2.2.2.2.2.2.2.2.2.2.2.2.1 b.2.2.2.2.2.2.2.2.2.2.2.2.2.1 b.2.2.2.2.2.2.2.2.2.2.2.2.2.2.1 b.2.2.2.2.2.2.2.2.2.2.2.2.2.2.2.1 b.2.2.2.2.2.2.2.2.2.2.2.2.2.2.2.2.1 b.2.2.2.2.2.2.2.2.2.2.2.2.2.2.2.2.2.1 b.2.2.2.2.2.2.2.2.2.2.2.2.2.2.2.2.2.2.1 b.2.2.2.2.2.2.2.2.2.2.2.2.2.2.2.2.2.2.2.1 b.2.2.2.2.2.2.2.2.2.2.2.2.2.2.2.2.2.2.2.2.1 b.2.2.2.2.2.2.2.2.2.2.2.2.2.2.2.2.2.2.2.2.2.1 b.2.2.2.2.2.2.2.2.2.2.2.2.2.2.2.2.2.2.2.2.2.2.1 b.2.2.2.2.2.2.2.2.2.2.2.2.2.2.2.2.2.2.2.2.2.2.2.1 b.2.2.2.2.2.2.2.2.2.2.2.2.2.2.2.2.2.2.2.2.2.2.2.2.1 b.2.2.2.2.2.2.2.2.2.2.2.2.2.2.2.2.2.2.2.2.2.2.2.2.2.1 b.2.2.2.2.2.2.2.2.2.2.2.2.2.2.2.2.2.2.2.2.2.2.2.2.2.2.1 b.2.2.2.2.2.2.2.2.2.2.2.2.2.2.2.2.2.2.2.2.2.2.2.2.2.2.2.1 b.2.2.2.2.2.2.2.2.2.2.2.2.2.2.2.2.2.2.2.2.2.2.2.2.2.2.2.2.1 ∧ n.toInt < (a.1).toInt) ∨ PB K S a.1 a.2.1 a.2.2.1 a.2.2.2.1 b.2.2.1) := by
  obtain ⟨hA, hop, hN, h1, h2, h3, h4, h5⟩ := h
  have tt := hA.2.1
  have te : (t.toNatClampNeg : Int) = t.toInt := cl_k tt.1
  have kdt : kd t.toNatClampNeg = 21 := (kp_6 (tk.1 t.toNatClampNeg (by omega) hA.2.2.1).1).mp hk
  have ix : ((20 : Int32) * side + pp).toNatClampNeg = 20 * side.toNatClampNeg + pp.toNatClampNeg := ix_e (M := 20) h1.1 ⟨h2.2.1.1, by have := h2.2.1; omega⟩ rfl (by decide)
  unfold f_X5_readPass f_X7_tell
  refine pj_ckl (fun _ => pj_ckr (fun _ => pj_ifr (fun z => absurd (kdt.symm.trans z) (by decide)) (fun _ => pj_ifr (fun _ => pj_ckr (fun _ => ?_)) (fun z => absurd kdt z))))
  rw [h2.2.2.1]
  refine pj_b5_3 (j_opens tk hA (by rw [hk]; decide) (by have hm := h2.2.1.2; have em : (20 : Int32).toInt = 20 := rfl; omega)) (fun a1_0 a1_1 a1_2 a1_3 a1_4 b1_0 b1_1 b1_2 hj1 => ?_)
  rcases hj1 with ⟨v1, h1x, m1, _, _⟩ | ⟨q1, _⟩
  · change a1_0 = 1 at v1
    change PA K pl a1_1 a1_2 a1_3 lf b1_0 b1_1 w wp at h1x
    have n1 : a1_1.toInt = n.toInt + 1 := PA_nx hA m1
    have z1 : b1_1 = 0 := h1x.2.2.2.2.2.1
    refine pj_ifl (fun z => absurd (v1.symm.trans z) (by decide)) (fun _ => pj_ifr (fun _ => ?_) (fun z => absurd z1 z))
    refine pj_bR10 (J := (fun (a : Int32 × Int32 × Int32 × Int32 × Int32 × Int32 × Int32 × (Nat → Int32) × (Nat → Int32) × (Nat → Int32) × (Nat → Int32)) (b : Int32 × Int32 × Int32 × Int32 × Int32 × (Nat → Int32) × (Nat → Int32) × (Nat → Int32) × (Nat → Int32) × (Nat → Int32)) => (PA K pl a.1 a.2.1 a.2.2.1 a.2.2.2.2.1 b.1 b.2.1 b.2.2.2.1 b.2.2.2.2.1 ∧ G1 side ce room water a.2.2.2.2.2.2.2.1 mc mro mwa b.2.2.2.2.2.1 ∧ G2 side a.2.2.2.2.2.2.1 a.2.2.2.2.2.2.2.2.1 a.2.2.2.2.2.2.2.2.2.1 a.2.2.2.2.2.2.2.2.2.2 b.2.2.2.2.2.2.1 b.2.2.2.2.2.2.2.1 b.2.2.2.2.2.2.2.2.1 b.2.2.2.2.2.2.2.2.2 ∧ n.toInt < a.1.toInt) ∨ PB K S a.1 a.2.1 a.2.2.1 a.2.2.2.1 b.2.1)) ?_ ?_
    · unfold f_X7_tellPass
      refine pj_ckr (fun _ => pj_nmr ?_)
      rw [h2.2.2.1]
      refine pj_b7_6 (j_knownCell tk hN h1x) (fun a2_0 a2_1 a2_2 a2_3 a2_4 a2_5 a2_6 b2_0 b2_1 b2_2 b2_3 b2_4 b2_5 hj2 => ?_)
      rcases hj2 with ⟨h2x, v2, u2, m2, _⟩ | ⟨q2, qs2⟩
      · change PA K pl a2_1 a2_2 a2_3 a2_5 b2_1 b2_2 b2_4 b2_5 at h2x
        change a2_0 = b2_0 at v2
        change a2_0 = -1 ∨ (0 ≤ a2_0.toInt ∧ a2_0.toInt < ce.toInt ∧ a2_5 = lf ∧ b2_4 = w ∧ b2_5 = wp) at u2
        have n2 : a2_1.toInt = a1_1.toInt + 1 := PA_nx h1x m2
        refine pj_b7_6 (j_knownCell tk hN h2x) (fun a3_0 a3_1 a3_2 a3_3 a3_4 a3_5 a3_6 b3_0 b3_1 b3_2 b3_3 b3_4 b3_5 hj3 => ?_)
        rcases hj3 with ⟨h3x, v3, u3, m3, _⟩ | ⟨q3, qs3⟩
        · change PA K pl a3_1 a3_2 a3_3 a3_5 b3_1 b3_2 b3_4 b3_5 at h3x
          change a3_0 = b3_0 at v3
          change a3_0 = -1 ∨ (0 ≤ a3_0.toInt ∧ a3_0.toInt < ce.toInt ∧ a3_5 = a2_5 ∧ b3_4 = b2_4 ∧ b3_5 = b2_5) at u3
          have n3 : a3_1.toInt = a2_1.toInt + 1 := PA_nx h2x m3
          rw [v2, v3]
          rw [v2] at u2
          rw [v3] at u3
          have z3 : b3_2 = 0 := h3x.2.2.2.2.2.1
          refine pj_ifr (fun _ => ?_) (fun z => absurd z3 z)
          have on : ∀ (S1 F1 FP1 LF1 LP1 G1x GP1 W1 WP1 : Int32) (WY MWY : Nat → Int32), PA K pl a3_1 S1 F1 LF1 b3_1 G1x W1 WP1 → G1 side ce room water WY mc mro mwa MWY → pj (f_X5_readPass_b89 K S V a3_1 S1 F1 FP1 LF1 LP1 pp WY pf pt pw pp b2_0 b3_0) (f_X7_tellPass_b87 side kd pl vl b3_1 G1x GP1 W1 WP1 MWY mp mo mh mw (20 * side + pp) b2_0 b3_0) (fun (a : Int32 × Int32 × Int32 × Int32 × Int32 × Int32 × Int32 × (Nat → Int32) × (Nat → Int32) × (Nat → Int32) × (Nat → Int32)) (b : Int32 × Int32 × Int32 × Int32 × Int32 × (Nat → Int32) × (Nat → Int32) × (Nat → Int32) × (Nat → Int32) × (Nat → Int32)) => (PA K pl a.1 a.2.1 a.2.2.1 a.2.2.2.2.1 b.1 b.2.1 b.2.2.2.1 b.2.2.2.2.1 ∧ G1 side ce room water a.2.2.2.2.2.2.2.1 mc mro mwa b.2.2.2.2.2.1 ∧ G2 side a.2.2.2.2.2.2.1 a.2.2.2.2.2.2.2.2.1 a.2.2.2.2.2.2.2.2.2.1 a.2.2.2.2.2.2.2.2.2.2 b.2.2.2.2.2.2.1 b.2.2.2.2.2.2.2.1 b.2.2.2.2.2.2.2.2.1 b.2.2.2.2.2.2.2.2.2 ∧ n.toInt < a.1.toInt) ∨ PB K S a.1 a.2.1 a.2.2.1 a.2.2.2.1 b.2.1) := fun S1 F1 FP1 LF1 LP1 G1x GP1 W1 WP1 WY MWY hp hg => j_p89 tk hp hg h2 (by omega) ix
          have em : (-1 : Int32).toInt = -1 := by decide
          have ng : ∀ x : Int32, x = -1 → x < 0 := fun x e => Int32.lt_iff_toInt_lt.mpr (by rw [e, em]; decide)
          rcases u2 with u2 | ⟨u20, u21, _, _, _⟩
          · refine pj_ifl (fun _ => pj_ifr (fun _ => ?_) (fun z => absurd (ng _ u2) z)) (fun z => absurd u2 z)
            unfold f_X5_readPass_b65 f_X7_tellPass_b59
            refine pj_ifl (fun _ => pj_ifr (fun _ => ?_) (fun z => absurd (ng _ u2) z)) (fun z => absurd u2 z)
            exact on _ _ _ _ _ _ _ _ _ _ _ h3x h1
          · have f1 : ¬ b2_0 = -1 := fun z => by have e := congrArg Int32.toInt z; omega
            have f2 : ¬ b2_0 < 0 := fun z => by have e := lt_k (k := 0) rfl z; omega
            refine pj_ifl (fun z => absurd z f1) (fun _ => pj_ifr (fun z => absurd z f2) (fun _ => ?_))
            rcases u3 with u3 | ⟨u30, u31, u32, u33, u34⟩
            · have f3 : ¬ b2_0 = b3_0 := fun z => f1 (z.trans u3)
              refine pj_ifl (fun z => absurd z f3) (fun _ => pj_ifr (fun z => absurd z f3) (fun _ => ?_))
              unfold f_X5_readPass_b65 f_X7_tellPass_b59
              refine pj_ifl (fun z => absurd z f1) (fun _ => pj_ifl (fun _ => pj_ifr (fun z => absurd z f2) (fun _ => pj_ifr (fun _ => ?_) (fun z => absurd (ng _ u3) z))) (fun z => absurd u3 z))
              exact on _ _ _ _ _ _ _ _ _ _ _ h3x h1
            · have g1 : ¬ b3_0 = -1 := fun z => by have e := congrArg Int32.toInt z; omega
              have g2 : ¬ b3_0 < 0 := fun z => by have e := lt_k (k := 0) rfl z; omega
              by_cases f3 : b2_0 = b3_0
              · have t2 := h2x.2.1
                have e2 : (b2_1.toNatClampNeg : Int) = b2_1.toInt := cl_k t2.1
                have e3 : (b3_1.toNatClampNeg : Int) = b3_1.toInt := cl_k h3x.2.1.1
                have a3b : a3_1.toInt = b3_1.toInt := by rw [PA_tn h3x]
                have a2b : a2_1.toInt = b2_1.toInt := by rw [PA_tn h2x]
                have wpl := PA_wp tk h2x
                refine pj_ifl (fun _ => pj_ifr (fun _ => ?_) (fun z => absurd f3 z)) (fun z => absurd f3 z)
                rw [z3]
                refine pj_bl2 (l_later _ _ _ _ _) (fun x0 x1 hx => pj_br2 (m_wrong (q := 5) (fun z => Or.inl ?_) (PA_ps h3x) (by decide)) (fun y0 y1 hy => ?_))
                · rw [u34]; exact wpl (by rw [← u33]; exact z)
                · have hx2 : x0 = fs a3_5 5 := hx (by omega)
                  have hy1 : y0 = fs b3_4 5 := hy.1
                  have lw : a3_5 = b3_4 := h3x.2.2.2.2.2.2.1
                  have h4x : PA K pl a3_1 a3_2 a3_3 x0 b3_1 0 y0 y1 := PA_w (PA_s h3x h3x.2.2.2.1 h3x.2.2.2.2.1 rfl) (by rw [hx2, hy1, lw]) (fun z => ⟨by omega, by rw [show b3_1.toNatClampNeg - 1 = b2_1.toNatClampNeg from by omega]; exact hy.2.1 z, hy.2.2.2 z⟩)
                  unfold f_X7_tellPass_b59
                  refine pj_ifr (fun z => absurd z f2) (fun _ => pj_ifr (fun z => absurd z g2) (fun _ => pj_ifr (fun _ => ?_) (fun z => absurd f3 z)))
                  exact on _ _ _ _ _ _ _ _ _ _ _ h4x h1
              · refine pj_ifl (fun z => absurd z f3) (fun _ => pj_ifr (fun z => absurd z f3) (fun _ => ?_))
                unfold f_X5_readPass_b65 f_X7_tellPass_b59
                refine pj_ifl (fun z => absurd z f1) (fun _ => pj_ifl (fun z => absurd z g1) (fun _ => pj_ifr (fun z => absurd z f2) (fun _ => pj_ifr (fun z => absurd z g2) (fun _ => pj_ifr (fun z => absurd z f3) (fun _ => ?_)))))
                refine pj_b4_3 (j_addWay tk h3x h1 ⟨u20, u21⟩) (fun x0 x1 x2 x3 y0 y1 y2 hw => ?_)
                rcases hw with ⟨w1, w2, w3, w4⟩ | ⟨wB, wC⟩
                · refine pj_b4_3 (j_addWay tk (PA_s h3x w1 w2 w3) w4 ⟨u30, u31⟩) (fun x4 x5 x6 x7 y3 y4 y5 hw => ?_)
                  rcases hw with ⟨r1, r2, r3, r4⟩ | ⟨rB, _⟩
                  · exact on _ _ _ _ _ _ _ _ _ _ _ (PA_s h3x r1 r2 r3) r4
                  · change PB K S a3_1 x4 x5 x6 y3 at rB
                    exact pj_of (P := fun a => PB K S a.1 a.2.1 a.2.2.1 a.2.2.2.1 y3) (Q := fun b => FB b.2.1 y3) (b_p89 tk rB) (r_p87 (FB_rf rB)) (fun a b ha hb => Or.inr (PB_sub hb.1 ha))
                · change PB K S a3_1 x0 x1 x2 y0 at wB
                  change y0.toInt = 2 at wC
                  exact pj_of (P := fun a => PB K S a.1 a.2.1 a.2.2.1 a.2.2.2.1 y0) (Q := fun b => FB b.2.1 y0) (pa_bd4 (b_addWay _ wB wC) (fun _ _ _ _ k2 => b_p89 tk k2)) (pa_bd3 (r_makesWay (FB_rf wB)) (fun _ _ _ k2 => r_p87 k2)) (fun a b ha hb => Or.inr (PB_sub hb.1 ha))
        · change PB K S a3_1 a3_2 a3_3 a3_4 b3_2 at q3
          change ¬ a3_0 = -1 → a3_2 = 0 at qs3
          have q3x : PB K S a3_1 a3_2 a3_3 a3_4 b3_2 ∧ (¬ a3_0 = -1 → a3_2 = 0) := ⟨q3, qs3⟩
          exact pj_of (P := fun a => PB K S a.1 a.2.1 a.2.2.1 a.2.2.2.1 b3_2) (Q := fun b => FB b.2.1 b3_2) (pa_if (fun _ => b_p65 tk q3x.1 (fun z => PB_2 q3x.1 (q3x.2 z))) (fun _ => pa_if (fun _ => pa_bd2 (l_later _ _ _ _ _) (fun _ _ _ => b_p89 tk q3x.1)) (fun _ => b_p65 tk q3x.1 (fun z => PB_2 q3x.1 (q3x.2 z))))) (pa_if (fun z => absurd z (FB_eq (FB_rf q3))) (fun _ => r_p59 (FB_rf q3))) (fun a b ha hb => Or.inr (PB_sub hb.1 ha))
      · change PB K S a2_1 a2_2 a2_3 a2_4 b2_2 at q2
        change ¬ a2_0 = -1 → a2_2 = 0 at qs2
        exact pj_of (P := fun a => PB K S a.1 a.2.1 a.2.2.1 a.2.2.2.1 b2_2) (Q := fun b => FB b.2.1 b2_2) (pa_bd7 (b_knownCell tk _ _ _ _ q2) (fun _ _ _ _ _ _ _ k => pa_if (fun _ => b_p65 tk k.1 (fun z => PB_2 k.1 (k.2 z))) (fun _ => pa_if (fun _ => pa_bd2 (l_later _ _ _ _ _) (fun _ _ _ => b_p89 tk k.1)) (fun _ => b_p65 tk k.1 (fun z => PB_2 k.1 (k.2 z)))))) (pa_bd6 (r_cellAt (FB_rf q2)) (fun _ _ _ _ _ _ k => pa_if (fun z => absurd z (FB_eq k)) (fun _ => r_p59 k))) (fun a b ha hb => Or.inr (PB_sub hb.1 ha))
    · intro a b0 b1 b2 b3 b4 b5 b6 b7 b8 b9 hJ
      rcases hJ with ⟨j1, j2, j3, j4⟩ | jB
      · exact pa_some (Or.inl ⟨⟨j1, hop, hN, j2, j3, h3, h4, h5⟩, j4⟩)
      · exact pa_some (Or.inr jB)
  · change PB K S a1_1 a1_2 a1_3 a1_4 b1_1 at q1
    exact pj_of (P := fun a => PB K S a.1 a.2.1 a.2.2.1 a.2.2.2.1 b1_1) (Q := fun b => FB b.2.2.1 b1_1) (pa_if (fun _ => pa_some q1) (fun _ => pa_bd7 (b_knownCell tk _ _ _ _ q1) (fun _ _ _ _ _ _ _ k0 => pa_bd7 (b_knownCell tk _ _ _ _ k0.1) (fun _ _ _ _ _ _ _ k => pa_if (fun _ => b_p65 tk k.1 (fun z => PB_2 k.1 (k.2 z))) (fun _ => pa_if (fun _ => pa_bd2 (l_later _ _ _ _ _) (fun _ _ _ => b_p89 tk k.1)) (fun _ => b_p65 tk k.1 (fun z => PB_2 k.1 (k.2 z)))))))) (pa_if (fun z => absurd z (FB_eq (FB_rf q1))) (fun _ => pa_some (FB_rf q1))) (fun a b ha hb => Or.inr (PB_sub hb.1 ha))
theorem G3_up {side ri a1 a2 b1 b2 c1 c2 d1 d2 : Int32} {rc rl rw rs mr mrc mrl mrw mrs : Nat → Int32} (h : G3 side ri rc rl rw rs mr mrc mrl mrw mrs) (h3' : ri.toInt < 3) (e1 : a1 = a2) (e2 : b1 = b2) (e3 : c1 = c2) (e4 : d1 = d2) : G3 side (ri + 1) (upd rc ri.toNatClampNeg a1) (upd rl ri.toNatClampNeg b1) (upd rw ri.toNatClampNeg c1) (upd rs ri.toNatClampNeg d1) (upd mr side.toNatClampNeg (ri + 1)) (upd mrc (3 * side.toNatClampNeg + ri.toNatClampNeg) a2) (upd mrl (3 * side.toNatClampNeg + ri.toNatClampNeg) b2) (upd mrw (3 * side.toNatClampNeg + ri.toNatClampNeg) c2) (upd mrs (3 * side.toNatClampNeg + ri.toNatClampNeg) d2) := by
  obtain ⟨h1, h2, h3, h4, h5, h6, h7⟩ := h
  have e : (ri.toNatClampNeg : Int) = ri.toInt := cl_k h2.1
  have t := add_k (x := ri) (v := 1) (k := 1) rfl (by omega) (by omega)
  exact ⟨h1, ⟨by omega, by omega⟩, up_at, AL_up h4 e1 (Or.inr ⟨by omega, by omega⟩), AL_up h5 e2 (Or.inr ⟨by omega, by omega⟩), AL_up h6 e3 (Or.inr ⟨by omega, by omega⟩), AL_up h7 e4 (Or.inr ⟨by omega, by omega⟩)⟩
theorem m_wayn {pl wy : Nat → Int32} {side gp q1 q2 : Int32} (h : q1 = -1) : pa (f_X7_makesWay side pl 0 gp wy q1 q2) (fun o => o = (0, gp, wy)) := by
  unfold f_X7_makesWay
  refine pa_if (fun _ => pa_some rfl) (fun _ => pa_if (fun z => ?_) (fun _ => pa_some rfl))
  have e := k_le (k := 0) rfl z
  have em : (-1 : Int32).toInt = -1 := by decide
  rw [h, em] at e
  omega
theorem b_r50 {K S kd pl vl : Nat → Int32} {V tn : Nat → Int64} (tk : TKR K S V kd pl vl tn) {n s f fp g lf lp ri x2 x3 : Int32} {ways rc rl rw rs : Nat → Int32} (h : PB K S n s f fp g) : pa (f_X5_readRiver_b50 K S V n s f fp lf lp ri ways rc rl rw rs x2 x3) (fun a => PB K S a.1 a.2.1 a.2.2.1 a.2.2.2.1 g) := by
  unfold f_X5_readRiver_b50
  exact pa_ck (fun _ => pa_nx (pa_bd7 (b_number tk _ _ _ _ h) (fun _ _ _ _ _ _ _ k32 => pa_ck (fun _ => pa_nx (pa_bd7 (b_number tk _ _ _ _ k32) (fun _ _ _ _ _ _ _ k33 => pa_ck (fun _ => pa_nx (pa_bd7 (b_number tk _ _ _ _ k33) (fun _ _ _ _ _ _ _ k34 => pa_ck (fun _ => pa_nx (pa_bd5 (b_accept tk k34 (by decide)) (fun _ _ _ _ _ k35 => pa_some k35.1))))))))))))
theorem j_readRiver {K S kd pl vl : Nat → Int32} {V tn : Nat → Int64} (tk : TKR K S V kd pl vl tn) {side n s f fp lf lp t op g gp w wp ce vi pp ri ra nm_ codes waiting : Int32} {cn vn no : Nat → Int64} {room water ways pf pt pw rc rl rw rs rn vc nd na mc mro mwa mwy mp mo mh mw mr mrc mrl mrw mrs mra mrn mv mhm mnd lwf lwt code ci waits : Nat → Int32} (h : GA K pl side n s f lf cn ce vn vi room water ways pp pf pt pw ri rc rl rw rs ra rn vc nd t op g w wp nm_ no na mc mro mwa mwy mp mo mh mw mr mrc mrl mrw mrs mra mrn mv mhm mnd) (hk : K t.toNatClampNeg = 7) : pj (f_X5_readRiver K S V cn ce n s f fp lf lp ri ways rc rl rw rs) (f_X7_tell side kd pl vl tn t op g gp w wp nm_ codes waiting no na mc mro mwa mwy mp mo mh mw mr mrc mrl mrw mrs mra mrn mv mhm mnd lwf lwt code ci waits) (fun a b => (GA K pl side a.1 a.2.1 a.2.2.1 a.2.2.2.2.1 cn ce vn vi room water a.2.2.2.2.2.2.2.1 pp pf pt pw a.2.2.2.2.2.2.1 a.2.2.2.2.2.2.2.2.1 a.2.2.2.2.2.2.2.2.2.1 a.2.2.2.2.2.2.2.2.2.2.1 a.2.2.2.2.2.2.2.2.2.2.2 ra rn vc nd b.1 b.2.1 b.2.2.1 b.2.2.2.2.1 b.2.2.2.2.2.1 b.2.2.2.2.2.2.1 b.2.2.2.2.2.2.2.2.2.1 b.2.2.2.2.2.2.2.2.2.2.1 b.2.2.2.2.2.2.2.2.2.2.2.1 b.2.2.2.2.2.2.2.2.2.2.2.2.1 b.2.2.2.2.2.2.2.2.2.2.2.2.2.1 b.2.2.2.2.2.2.2.2.2.2.2.2.2.2.1 b.2.2.2.2.2.2.2.2.2.2.2.2.2.2.2.1 b.2.2.2.2.2.2.2.2.2.2.2.2.2.2.2.2.1 b.2.2.2.2.2.2.2.2.2.2.2.2.2.2.2.2.2.1 b.2.2.2.2.2.2.2.2.2.2.2.2.2.2.2.2.2.2.1 b.2.2.2.2.2.2.2.2.2.2.2.2.2.2.2.2.2.2.2.1 b.2.2.2.2.2.2.2.2.2.2.2.2.2.2.2.2.2.2.2.2.1 b.2.2.2.2.2.2.2.2.2.2.2.2.2.2.2.2.2.2.2.2.2.1 b.2.2.2.2.2.2.2.2.2.2.2.2.2.2.2.2.2.2.2.2.2.2.1 b.2.2.2.2.2.2.2.2.2.2.2.2.2.2.2.2.2.2.2.2.2.2.2.1 b.2.2.2.2.2.2.2.2.2.2.2.2.2.2.2.2.2.2.2.2.2.2.2.2.1 b.2.2.2.2.2.2.2.2.2.2.2.2.2.2.2.2.2.2.2.2.2.2.2.2.2.1 b.2.2.2.2.2.2.2.2.2.2.2.2.2.2.2.2.2.2.2.2.2.2.2.2.2.2.1 b.2.2.2.2.2.2.2.2.2.2.2.2.2.2.2.2.2.2.2.2.2.2.2.2.2.2.2.1 b.2.2.2.2.2.2.2.2.2.2.2.2.2.2.2.2.2.2.2.2.2.2.2.2.2.2.2.2.1 ∧ n.toInt < (a.1).toInt) ∨ PB K S a.1 a.2.1 a.2.2.1 a.2.2.2.1 b.2.2.1) := by
  obtain ⟨hA, hop, hN, h1, h2, h3, h4, h5⟩ := h
  have tt := hA.2.1
  have te : (t.toNatClampNeg : Int) = t.toInt := cl_k tt.1
  have kdt : kd t.toNatClampNeg = 22 := (kp_7 (tk.1 t.toNatClampNeg (by omega) hA.2.2.1).1).mp hk
  have ix : ((3 : Int32) * side + ri).toNatClampNeg = 3 * side.toNatClampNeg + ri.toNatClampNeg := ix_e (M := 3) h1.1 ⟨h3.2.1.1, by have := h3.2.1; omega⟩ rfl (by decide)
  unfold f_X5_readRiver f_X7_tell
  refine pj_ckl (fun _ => pj_ckr (fun _ => pj_ifr (fun z => absurd (kdt.symm.trans z) (by decide)) (fun _ => pj_ifr (fun z => absurd (kdt.symm.trans z) (by decide)) (fun _ => pj_ifr (fun _ => pj_ckr (fun _ => ?_)) (fun z => absurd kdt z)))))
  rw [h3.2.2.1]
  refine pj_b5_3 (j_opens tk hA (by rw [hk]; decide) (by have hm := h3.2.1.2; have em : (3 : Int32).toInt = 3 := rfl; omega)) (fun a1_0 a1_1 a1_2 a1_3 a1_4 b1_0 b1_1 b1_2 hj1 => ?_)
  rcases hj1 with ⟨v1, h1x, m1, _, _⟩ | ⟨q1, _⟩
  · change a1_0 = 1 at v1
    change PA K pl a1_1 a1_2 a1_3 lf b1_0 b1_1 w wp at h1x
    have n1 : a1_1.toInt = n.toInt + 1 := PA_nx hA m1
    have z1 : b1_1 = 0 := h1x.2.2.2.2.2.1
    refine pj_ifl (fun z => absurd (v1.symm.trans z) (by decide)) (fun _ => pj_ifr (fun _ => ?_) (fun z => absurd z1 z))
    refine pj_bR11 (J := (fun (a : Int32 × Int32 × Int32 × Int32 × Int32 × Int32 × Int32 × (Nat → Int32) × (Nat → Int32) × (Nat → Int32) × (Nat → Int32) × (Nat → Int32)) (b : Int32 × Int32 × Int32 × Int32 × Int32 × (Nat → Int32) × (Nat → Int32) × (Nat → Int32) × (Nat → Int32) × (Nat → Int32) × (Nat → Int32)) => (PA K pl a.1 a.2.1 a.2.2.1 a.2.2.2.2.1 b.1 b.2.1 b.2.2.2.1 b.2.2.2.2.1 ∧ G1 side ce room water a.2.2.2.2.2.2.2.1 mc mro mwa b.2.2.2.2.2.1 ∧ G3 side a.2.2.2.2.2.2.1 a.2.2.2.2.2.2.2.2.1 a.2.2.2.2.2.2.2.2.2.1 a.2.2.2.2.2.2.2.2.2.2.1 a.2.2.2.2.2.2.2.2.2.2.2 b.2.2.2.2.2.2.1 b.2.2.2.2.2.2.2.1 b.2.2.2.2.2.2.2.2.1 b.2.2.2.2.2.2.2.2.2.1 b.2.2.2.2.2.2.2.2.2.2 ∧ n.toInt < a.1.toInt) ∨ PB K S a.1 a.2.1 a.2.2.1 a.2.2.2.1 b.2.1)) ?_ ?_
    · unfold f_X7_tellRiver
      refine pj_ckr (fun _ => pj_nmr ?_)
      rw [h3.2.2.1, ix]
      refine pj_b7_6 (j_knownCell tk hN h1x) (fun a2_0 a2_1 a2_2 a2_3 a2_4 a2_5 a2_6 b2_0 b2_1 b2_2 b2_3 b2_4 b2_5 hj2 => ?_)
      rcases hj2 with ⟨h2x, v2, u2, m2, _⟩ | ⟨q2, qs2⟩
      · change PA K pl a2_1 a2_2 a2_3 a2_5 b2_1 b2_2 b2_4 b2_5 at h2x
        change a2_0 = b2_0 at v2
        change a2_0 = -1 ∨ (0 ≤ a2_0.toInt ∧ a2_0.toInt < ce.toInt ∧ a2_5 = lf ∧ b2_4 = w ∧ b2_5 = wp) at u2
        have n2 : a2_1.toInt = a1_1.toInt + 1 := PA_nx h1x m2
        have z2 : b2_2 = 0 := h2x.2.2.2.2.2.1
        rcases u2 with u2 | ⟨u20, u21, _, _, _⟩
        · refine pj_ifl (fun _ => ?_) (fun z => absurd u2 z)
          rw [z2]
          refine pj_br3 (m_wayn (v2.symm.trans u2)) (fun y0 y1 y2 hy => ?_)
          cases hy
          have h9 := PA_s h2x h2x.2.2.2.1 h2x.2.2.2.2.1 (rfl : (0 : Int32) = 0)
          unfold f_X5_readRiver_b50
          refine pj_ckl (fun i3 => pj_nml (pj_ckr (fun _ => pj_nmr ?_)))
          have lt3 := (inb_lt i3).2
          refine pj_b7_6 (j_number tk h9) (fun a3_0 a3_1 a3_2 a3_3 a3_4 a3_5 a3_6 b3_0 b3_1 b3_2 b3_3 b3_4 b3_5 hj3 => ?_)
          rcases hj3 with ⟨h3x, v3, m3, _⟩ | q3
          · change PA K pl a3_1 a3_2 a3_3 a3_5 b3_1 b3_2 b3_4 b3_5 at h3x
            change a3_0 = b3_0 at v3
            have n3 : a3_1.toInt = a2_1.toInt + 1 := PA_nx h9 m3
            refine pj_ckl (fun _ => pj_nml (pj_ckr (fun _ => pj_nmr ?_)))
            refine pj_b7_6 (j_number tk h3x) (fun a4_0 a4_1 a4_2 a4_3 a4_4 a4_5 a4_6 b4_0 b4_1 b4_2 b4_3 b4_4 b4_5 hj4 => ?_)
            rcases hj4 with ⟨h4x, v4, m4, _⟩ | q4
            · change PA K pl a4_1 a4_2 a4_3 a4_5 b4_1 b4_2 b4_4 b4_5 at h4x
              change a4_0 = b4_0 at v4
              have n4 : a4_1.toInt = a3_1.toInt + 1 := PA_nx h3x m4
              refine pj_ckl (fun _ => pj_nml (pj_ckr (fun _ => pj_nmr ?_)))
              refine pj_b7_6 (j_number tk h4x) (fun a5_0 a5_1 a5_2 a5_3 a5_4 a5_5 a5_6 b5_0 b5_1 b5_2 b5_3 b5_4 b5_5 hj5 => ?_)
              rcases hj5 with ⟨h5x, v5, m5, _⟩ | q5
              · change PA K pl a5_1 a5_2 a5_3 a5_5 b5_1 b5_2 b5_4 b5_5 at h5x
                change a5_0 = b5_0 at v5
                have n5 : a5_1.toInt = a4_1.toInt + 1 := PA_nx h4x m5
                refine pj_ckl (fun _ => pj_nml (pj_ckr (fun _ => pj_nmr ?_)))
                refine pj_b5_3 (j_accept tk h5x (q5 := 59) (q7 := 4) kp_59 (by decide)) (fun a6_0 a6_1 a6_2 a6_3 a6_4 b6_0 b6_1 b6_2 hj6 => ?_)
                rcases hj6 with ⟨v6, h6x, m6, _, _⟩ | ⟨q6, _⟩
                · change PA K pl a6_1 a6_2 a6_3 a5_5 b6_0 b6_1 b5_4 b5_5 at h6x
                  have n6 : a6_1.toInt = a5_1.toInt + 1 := PA_nx h5x m6
                  have z6 : b6_1 = 0 := h6x.2.2.2.2.2.1
                  refine pj_ifr (fun _ => pj_ckr (fun _ => pj_ckr (fun _ => pj_nmr (pj_ss (Or.inl ⟨h6x, h1, G3_up h3 lt3 v2 v3 v4 v5, ?_⟩))))) (fun z => absurd z6 z)
                  show n.toInt < a6_1.toInt
                  omega
                · change PB K S a6_1 a6_2 a6_3 a6_4 b6_1 at q6
                  exact pj_of (P := fun a => PB K S a.1 a.2.1 a.2.2.1 a.2.2.2.1 b6_1) (Q := fun b => FB b.2.1 b6_1) (pa_some q6) (pa_if (fun z => absurd z (FB_eq (FB_rf q6))) (fun _ => pa_some (FB_rf q6))) (fun a b ha hb => Or.inr (PB_sub hb.1 ha))
              · change PB K S a5_1 a5_2 a5_3 a5_4 b5_2 at q5
                exact pj_of (P := fun a => PB K S a.1 a.2.1 a.2.2.1 a.2.2.2.1 b5_2) (Q := fun b => FB b.2.1 b5_2) (pa_ck (fun _ => pa_nx (pa_bd5 (b_accept tk q5 (by decide)) (fun _ _ _ _ _ k37 => pa_some k37.1)))) (pa_ck (fun _ => pa_nx (pa_bd3 (r_must (FB_rf q5)) (fun _ _ _ k38 => pa_if (fun z => absurd z (FB_eq k38)) (fun _ => pa_some k38))))) (fun a b ha hb => Or.inr (PB_sub hb.1 ha))
            · change PB K S a4_1 a4_2 a4_3 a4_4 b4_2 at q4
              exact pj_of (P := fun a => PB K S a.1 a.2.1 a.2.2.1 a.2.2.2.1 b4_2) (Q := fun b => FB b.2.1 b4_2) (pa_ck (fun _ => pa_nx (pa_bd7 (b_number tk _ _ _ _ q4) (fun _ _ _ _ _ _ _ k40 => pa_ck (fun _ => pa_nx (pa_bd5 (b_accept tk k40 (by decide)) (fun _ _ _ _ _ k41 => pa_some k41.1))))))) (pa_ck (fun _ => pa_nx (pa_bd6 (r_bounded (FB_rf q4)) (fun _ _ _ _ _ _ k42 => pa_ck (fun _ => pa_nx (pa_bd3 (r_must k42) (fun _ _ _ k43 => pa_if (fun z => absurd z (FB_eq k43)) (fun _ => pa_some k43)))))))) (fun a b ha hb => Or.inr (PB_sub hb.1 ha))
          · change PB K S a3_1 a3_2 a3_3 a3_4 b3_2 at q3
            exact pj_of (P := fun a => PB K S a.1 a.2.1 a.2.2.1 a.2.2.2.1 b3_2) (Q := fun b => FB b.2.1 b3_2) (pa_ck (fun _ => pa_nx (pa_bd7 (b_number tk _ _ _ _ q3) (fun _ _ _ _ _ _ _ k45 => pa_ck (fun _ => pa_nx (pa_bd7 (b_number tk _ _ _ _ k45) (fun _ _ _ _ _ _ _ k46 => pa_ck (fun _ => pa_nx (pa_bd5 (b_accept tk k46 (by decide)) (fun _ _ _ _ _ k47 => pa_some k47.1)))))))))) (pa_ck (fun _ => pa_nx (pa_bd6 (r_bounded (FB_rf q3)) (fun _ _ _ _ _ _ k48 => pa_ck (fun _ => pa_nx (pa_bd6 (r_bounded k48) (fun _ _ _ _ _ _ k49 => pa_ck (fun _ => pa_nx (pa_bd3 (r_must k49) (fun _ _ _ k50 => pa_if (fun z => absurd z (FB_eq k50)) (fun _ => pa_some k50))))))))))) (fun a b ha hb => Or.inr (PB_sub hb.1 ha))
        · have em : (-1 : Int32).toInt = -1 := by decide
          have f1 : ¬ a2_0 = -1 := fun z => by have e := congrArg Int32.toInt z; omega
          refine pj_ifl (fun z => absurd z f1) (fun _ => ?_)
          rw [← v2]
          refine pj_b4_3 (j_addWay tk h2x h1 ⟨u20, u21⟩) (fun x0 x1 x2 x3 y0 y1 y2 hw => ?_)
          rcases hw with ⟨w1, w2, w3, w4⟩ | ⟨wB, _⟩
          · have h9 := PA_s h2x w1 w2 w3
            unfold f_X5_readRiver_b50
            refine pj_ckl (fun i3 => pj_nml (pj_ckr (fun _ => pj_nmr ?_)))
            have lt3 := (inb_lt i3).2
            refine pj_b7_6 (j_number tk h9) (fun a3_0 a3_1 a3_2 a3_3 a3_4 a3_5 a3_6 b3_0 b3_1 b3_2 b3_3 b3_4 b3_5 hj3 => ?_)
            rcases hj3 with ⟨h3x, v3, m3, _⟩ | q3
            · change PA K pl a3_1 a3_2 a3_3 a3_5 b3_1 b3_2 b3_4 b3_5 at h3x
              change a3_0 = b3_0 at v3
              have n3 : a3_1.toInt = a2_1.toInt + 1 := PA_nx h9 m3
              refine pj_ckl (fun _ => pj_nml (pj_ckr (fun _ => pj_nmr ?_)))
              refine pj_b7_6 (j_number tk h3x) (fun a4_0 a4_1 a4_2 a4_3 a4_4 a4_5 a4_6 b4_0 b4_1 b4_2 b4_3 b4_4 b4_5 hj4 => ?_)
              rcases hj4 with ⟨h4x, v4, m4, _⟩ | q4
              · change PA K pl a4_1 a4_2 a4_3 a4_5 b4_1 b4_2 b4_4 b4_5 at h4x
                change a4_0 = b4_0 at v4
                have n4 : a4_1.toInt = a3_1.toInt + 1 := PA_nx h3x m4
                refine pj_ckl (fun _ => pj_nml (pj_ckr (fun _ => pj_nmr ?_)))
                refine pj_b7_6 (j_number tk h4x) (fun a5_0 a5_1 a5_2 a5_3 a5_4 a5_5 a5_6 b5_0 b5_1 b5_2 b5_3 b5_4 b5_5 hj5 => ?_)
                rcases hj5 with ⟨h5x, v5, m5, _⟩ | q5
                · change PA K pl a5_1 a5_2 a5_3 a5_5 b5_1 b5_2 b5_4 b5_5 at h5x
                  change a5_0 = b5_0 at v5
                  have n5 : a5_1.toInt = a4_1.toInt + 1 := PA_nx h4x m5
                  refine pj_ckl (fun _ => pj_nml (pj_ckr (fun _ => pj_nmr ?_)))
                  refine pj_b5_3 (j_accept tk h5x (q5 := 59) (q7 := 4) kp_59 (by decide)) (fun a6_0 a6_1 a6_2 a6_3 a6_4 b6_0 b6_1 b6_2 hj6 => ?_)
                  rcases hj6 with ⟨v6, h6x, m6, _, _⟩ | ⟨q6, _⟩
                  · change PA K pl a6_1 a6_2 a6_3 a5_5 b6_0 b6_1 b5_4 b5_5 at h6x
                    have n6 : a6_1.toInt = a5_1.toInt + 1 := PA_nx h5x m6
                    have z6 : b6_1 = 0 := h6x.2.2.2.2.2.1
                    refine pj_ifr (fun _ => pj_ckr (fun _ => pj_ckr (fun _ => pj_nmr (pj_ss (Or.inl ⟨h6x, w4, G3_up h3 lt3 rfl v3 v4 v5, ?_⟩))))) (fun z => absurd z6 z)
                    show n.toInt < a6_1.toInt
                    omega
                  · change PB K S a6_1 a6_2 a6_3 a6_4 b6_1 at q6
                    exact pj_of (P := fun a => PB K S a.1 a.2.1 a.2.2.1 a.2.2.2.1 b6_1) (Q := fun b => FB b.2.1 b6_1) (pa_some q6) (pa_if (fun z => absurd z (FB_eq (FB_rf q6))) (fun _ => pa_some (FB_rf q6))) (fun a b ha hb => Or.inr (PB_sub hb.1 ha))
                · change PB K S a5_1 a5_2 a5_3 a5_4 b5_2 at q5
                  exact pj_of (P := fun a => PB K S a.1 a.2.1 a.2.2.1 a.2.2.2.1 b5_2) (Q := fun b => FB b.2.1 b5_2) (pa_ck (fun _ => pa_nx (pa_bd5 (b_accept tk q5 (by decide)) (fun _ _ _ _ _ k53 => pa_some k53.1)))) (pa_ck (fun _ => pa_nx (pa_bd3 (r_must (FB_rf q5)) (fun _ _ _ k54 => pa_if (fun z => absurd z (FB_eq k54)) (fun _ => pa_some k54))))) (fun a b ha hb => Or.inr (PB_sub hb.1 ha))
              · change PB K S a4_1 a4_2 a4_3 a4_4 b4_2 at q4
                exact pj_of (P := fun a => PB K S a.1 a.2.1 a.2.2.1 a.2.2.2.1 b4_2) (Q := fun b => FB b.2.1 b4_2) (pa_ck (fun _ => pa_nx (pa_bd7 (b_number tk _ _ _ _ q4) (fun _ _ _ _ _ _ _ k56 => pa_ck (fun _ => pa_nx (pa_bd5 (b_accept tk k56 (by decide)) (fun _ _ _ _ _ k57 => pa_some k57.1))))))) (pa_ck (fun _ => pa_nx (pa_bd6 (r_bounded (FB_rf q4)) (fun _ _ _ _ _ _ k58 => pa_ck (fun _ => pa_nx (pa_bd3 (r_must k58) (fun _ _ _ k59 => pa_if (fun z => absurd z (FB_eq k59)) (fun _ => pa_some k59)))))))) (fun a b ha hb => Or.inr (PB_sub hb.1 ha))
            · change PB K S a3_1 a3_2 a3_3 a3_4 b3_2 at q3
              exact pj_of (P := fun a => PB K S a.1 a.2.1 a.2.2.1 a.2.2.2.1 b3_2) (Q := fun b => FB b.2.1 b3_2) (pa_ck (fun _ => pa_nx (pa_bd7 (b_number tk _ _ _ _ q3) (fun _ _ _ _ _ _ _ k61 => pa_ck (fun _ => pa_nx (pa_bd7 (b_number tk _ _ _ _ k61) (fun _ _ _ _ _ _ _ k62 => pa_ck (fun _ => pa_nx (pa_bd5 (b_accept tk k62 (by decide)) (fun _ _ _ _ _ k63 => pa_some k63.1)))))))))) (pa_ck (fun _ => pa_nx (pa_bd6 (r_bounded (FB_rf q3)) (fun _ _ _ _ _ _ k64 => pa_ck (fun _ => pa_nx (pa_bd6 (r_bounded k64) (fun _ _ _ _ _ _ k65 => pa_ck (fun _ => pa_nx (pa_bd3 (r_must k65) (fun _ _ _ k66 => pa_if (fun z => absurd z (FB_eq k66)) (fun _ => pa_some k66))))))))))) (fun a b ha hb => Or.inr (PB_sub hb.1 ha))
          · change PB K S a2_1 x0 x1 x2 y0 at wB
            exact pj_of (P := fun a => PB K S a.1 a.2.1 a.2.2.1 a.2.2.2.1 y0) (Q := fun b => FB b.2.1 y0) (b_r50 tk wB) (pa_ck (fun _ => pa_nx (pa_bd6 (r_bounded (FB_rf wB)) (fun _ _ _ _ _ _ k68 => pa_ck (fun _ => pa_nx (pa_bd6 (r_bounded k68) (fun _ _ _ _ _ _ k69 => pa_ck (fun _ => pa_nx (pa_bd6 (r_bounded k69) (fun _ _ _ _ _ _ k70 => pa_ck (fun _ => pa_nx (pa_bd3 (r_must k70) (fun _ _ _ k71 => pa_if (fun z => absurd z (FB_eq k71)) (fun _ => pa_some k71)))))))))))))) (fun a b ha hb => Or.inr (PB_sub hb.1 ha))
      · change PB K S a2_1 a2_2 a2_3 a2_4 b2_2 at q2
        change ¬ a2_0 = -1 → a2_2 = 0 at qs2
        exact pj_of (P := fun a => PB K S a.1 a.2.1 a.2.2.1 a.2.2.2.1 b2_2) (Q := fun b => FB b.2.1 b2_2) (pa_if (fun _ => b_r50 tk q2) (fun z => pa_bd4 (b_addWay _ q2 (PB_2 q2 (qs2 z))) (fun _ _ _ _ k2 => b_r50 tk k2))) (pa_bd3 (r_makesWay (FB_rf q2)) (fun _ _ _ k73 => pa_ck (fun _ => pa_nx (pa_bd6 (r_bounded k73) (fun _ _ _ _ _ _ k74 => pa_ck (fun _ => pa_nx (pa_bd6 (r_bounded k74) (fun _ _ _ _ _ _ k75 => pa_ck (fun _ => pa_nx (pa_bd6 (r_bounded k75) (fun _ _ _ _ _ _ k76 => pa_ck (fun _ => pa_nx (pa_bd3 (r_must k76) (fun _ _ _ k77 => pa_if (fun z => absurd z (FB_eq k77)) (fun _ => pa_some k77))))))))))))))) (fun a b ha hb => Or.inr (PB_sub hb.1 ha))
    · intro a b0 b1 b2 b3 b4 b5 b6 b7 b8 b9 b10 hJ
      rcases hJ with ⟨j1, j2, j3, j4⟩ | jB
      · exact pa_some (Or.inl ⟨⟨j1, hop, hN, j2, h2, j3, h4, h5⟩, j4⟩)
      · exact pa_some (Or.inr jB)
  · change PB K S a1_1 a1_2 a1_3 a1_4 b1_1 at q1
    exact pj_of (P := fun a => PB K S a.1 a.2.1 a.2.2.1 a.2.2.2.1 b1_1) (Q := fun b => FB b.2.2.1 b1_1) (pa_if (fun _ => pa_some q1) (fun _ => pa_bd7 (b_knownCell tk _ _ _ _ q1) (fun _ _ _ _ _ _ _ k => pa_if (fun _ => b_r50 tk k.1) (fun z => pa_bd4 (b_addWay _ k.1 (PB_2 k.1 (k.2 z))) (fun _ _ _ _ k2 => b_r50 tk k2))))) (pa_if (fun z => absurd z (FB_eq (FB_rf q1))) (fun _ => pa_some (FB_rf q1))) (fun a b ha hb => Or.inr (PB_sub hb.1 ha))
theorem G4_up {side ra a1 a2 : Int32} {rn mra mrn : Nat → Int32} (h : G4 side ra rn mra mrn) (h14 : ra.toInt < 14) (e1 : a1 = a2) : G4 side (ra + 1) (upd rn ra.toNatClampNeg a1) (upd mra side.toNatClampNeg (ra + 1)) (upd mrn (14 * side.toNatClampNeg + ra.toNatClampNeg) a2) := by
  obtain ⟨h1, h2, h3, h4⟩ := h
  have e : (ra.toNatClampNeg : Int) = ra.toInt := cl_k h2.1
  have t := add_k (x := ra) (v := 1) (k := 1) rfl (by omega) (by omega)
  exact ⟨h1, ⟨by omega, by omega⟩, up_at, AL_up h4 e1 (Or.inr ⟨by omega, by omega⟩)⟩
theorem b_113 {K S kd pl vl : Nat → Int32} {V tn : Nat → Int64} (tk : TKR K S V kd pl vl tn) {n s f fp g lf lp ra : Int32} {rn : Nat → Int32} (h : PB K S n s f fp g) : pa (f_X5_readRain_b113 K S n s f fp lf lp ra rn) (fun a => PB K S a.1 a.2.1 a.2.2.1 a.2.2.2.1 g) := by
  unfold f_X5_readRain_b113
  exact pa_bd5 (b_accept tk h (by decide)) (fun _ _ _ _ _ k => pa_some k.1)
theorem b_n17 {K S kd pl vl : Nat → Int32} {V tn : Nat → Int64} (tk : TKR K S V kd pl vl tn) {g : Int32} : ∀ (m : Nat) (n s f fp lf lp ra x1 : Int32) (rn : Nat → Int32), PB K S n s f fp g → pa (f_X5_readRain_b17 K S V m n s f fp lf lp ra rn x1) (fun a => PB K S a.1 a.2.1 a.2.2.1 a.2.2.2.1 g) := by
  intro m
  induction m with
  | zero => intro n s f fp lf lp ra x1 rn _; exact pa_none
  | succ m ih =>
    intro n s f fp lf lp ra x1 rn h
    show pa (f_X5_readRain_b17_st (f_X5_readRain_b17 K S V m) K S V n s f fp lf lp ra rn x1) _
    unfold f_X5_readRain_b17_st
    refine pa_if (fun _ => b_113 tk h) (fun _ => pa_if (fun c => pa_ck (fun _ => pa_if (fun _ => pa_if (fun _ => pa_bd7 (b_number tk _ _ _ _ h) (fun _ _ _ _ _ _ _ k => pa_ck (fun _ => pa_nx (ih _ _ _ _ _ _ _ _ _ k)))) (fun _ => pa_ck (fun _ => ?_))) (fun _ => b_113 tk h))) (fun _ => b_113 tk h))
    obtain ⟨rfl, h1, h2⟩ := h
    have h3 := h2 c
    have en : (n.toNatClampNeg : Int) = n.toInt := cl_k (by omega)
    have so := tk.2.1 n.toNatClampNeg (by omega) h3.2.2.2.1 400 (by omega)
    refine pa_bd3 (b_stop (ne_0 h1) (by omega)) (fun a b c2 hp => ?_)
    cases hp
    exact ih _ _ _ _ _ _ _ _ _ ⟨rfl, h1, fun z => absurd z (by decide)⟩
theorem r_97 {kd pl : Nat → Int32} {t g gp w wp c : Int32} {mra mrn : Nat → Int32} (h : FB g c) : pa (f_X7_tellRain_b97 kd pl t g gp w wp mra mrn) (fun b => FB b.2.1 c) := by
  unfold f_X7_tellRain_b97
  exact pa_bd3 (r_must h) (fun _ _ _ k => pa_some k)
theorem r_n10 {kd pl vl : Nat → Int32} {side c : Int32} {t g gp w wp : Int32} {mra mrn : Nat → Int32} (h : FB g c) : ∀ m, pa (f_X7_tellRain_b10 side kd pl vl m t g gp w wp mra mrn) (fun b => FB b.2.1 c) := by
  intro m
  cases m with
  | zero => exact pa_none
  | succ m =>
    show pa (f_X7_tellRain_b10_st (f_X7_tellRain_b10 side kd pl vl m) side kd pl vl t g gp w wp mra mrn) _
    unfold f_X7_tellRain_b10_st
    exact pa_if (fun z => absurd z (FB_eq h)) (fun _ => r_97 h)
theorem j_97 {K S kd pl vl : Nat → Int32} {V tn : Nat → Int64} (tk : TKR K S V kd pl vl tn) {n0 side n s f fp lf lp t g gp w wp ra : Int32} {rn mra mrn : Nat → Int32} (h : PA K pl n s f lf t g w wp) (h4 : G4 side ra rn mra mrn) (h0 : n0.toInt ≤ n.toInt) : pj (f_X5_readRain_b113 K S n s f fp lf lp ra rn) (f_X7_tellRain_b97 kd pl t g gp w wp mra mrn) (fun (a : Int32 × Int32 × Int32 × Int32 × Int32 × Int32 × Int32 × (Nat → Int32)) (b : Int32 × Int32 × Int32 × Int32 × Int32 × (Nat → Int32) × (Nat → Int32)) => (PA K pl a.1 a.2.1 a.2.2.1 a.2.2.2.2.1 b.1 b.2.1 b.2.2.2.1 b.2.2.2.2.1 ∧ G4 side a.2.2.2.2.2.2.1 a.2.2.2.2.2.2.2 b.2.2.2.2.2.1 b.2.2.2.2.2.2 ∧ n0.toInt < a.1.toInt) ∨ PB K S a.1 a.2.1 a.2.2.1 a.2.2.2.1 b.2.1) := by
  unfold f_X5_readRain_b113 f_X7_tellRain_b97
  refine pj_b5_3 (j_accept tk h (q5 := 59) (q7 := 4) kp_59 (by decide)) (fun a1_0 a1_1 a1_2 a1_3 a1_4 b1_0 b1_1 b1_2 hj1 => ?_)
  rcases hj1 with ⟨v1, h1x, m1, _, _⟩ | ⟨q1, _⟩
  · change PA K pl a1_1 a1_2 a1_3 lf b1_0 b1_1 w wp at h1x
    have n1 : a1_1.toInt = n.toInt + 1 := PA_nx h m1
    have z1 : b1_1 = 0 := h1x.2.2.2.2.2.1
    refine pj_ss (Or.inl ⟨h1x, h4, ?_⟩)
    show n0.toInt < a1_1.toInt
    omega
  · change PB K S a1_1 a1_2 a1_3 a1_4 b1_1 at q1
    exact pj_of (P := fun a => PB K S a.1 a.2.1 a.2.2.1 a.2.2.2.1 b1_1) (Q := fun b => FB b.2.1 b1_1) (pa_some q1) (pa_some (FB_rf q1)) (fun a b ha hb => Or.inr (PB_sub hb.1 ha))
theorem j_n17 {K S kd pl vl : Nat → Int32} {V tn : Nat → Int64} (tk : TKR K S V kd pl vl tn) {n0 side : Int32} : ∀ (m m2 : Nat) (n s f fp lf lp t g gp w wp ra x1 : Int32) (rn mra mrn : Nat → Int32), PA K pl n s f lf t g w wp → G4 side ra rn mra mrn → n0.toInt ≤ n.toInt → x1 = ra → pj (f_X5_readRain_b17 K S V m n s f fp lf lp ra rn x1) (f_X7_tellRain_b10 side kd pl vl m2 t g gp w wp mra mrn) (fun (a : Int32 × Int32 × Int32 × Int32 × Int32 × Int32 × Int32 × (Nat → Int32)) (b : Int32 × Int32 × Int32 × Int32 × Int32 × (Nat → Int32) × (Nat → Int32)) => (PA K pl a.1 a.2.1 a.2.2.1 a.2.2.2.2.1 b.1 b.2.1 b.2.2.2.1 b.2.2.2.2.1 ∧ G4 side a.2.2.2.2.2.2.1 a.2.2.2.2.2.2.2 b.2.2.2.2.2.1 b.2.2.2.2.2.2 ∧ n0.toInt < a.1.toInt) ∨ PB K S a.1 a.2.1 a.2.2.1 a.2.2.2.1 b.2.1) := by
  intro m
  induction m with
  | zero => intro m2 n s f fp lf lp t g gp w wp ra x1 rn mra mrn _ _ _ _; exact pj_nl
  | succ m ih =>
    intro m2 n s f fp lf lp t g gp w wp ra x1 rn mra mrn h h4 h0 hx
    cases m2 with
    | zero => exact pj_nr
    | succ m2 =>
      have tt := h.2.1
      have te : (t.toNatClampNeg : Int) = t.toInt := cl_k tt.1
      have kp := kp_2 (tk.1 t.toNatClampNeg (by omega) h.2.2.1).1
      have r4 := h4.2.1
      have e14 : (14 : Int32).toInt = 14 := rfl
      have hg := h.2.2.2.2.2.1
      have hs := h.2.2.2.1
      have hf := h.2.2.2.2.1
      have nt := PA_tn h
      have ix : ((14 : Int32) * side + ra).toNatClampNeg = 14 * side.toNatClampNeg + ra.toNatClampNeg := ix_e (M := 14) h4.1 ⟨r4.1, by omega⟩ rfl (by decide)
      show pj (f_X5_readRain_b17_st (f_X5_readRain_b17 K S V m) K S V n s f fp lf lp ra rn x1) (f_X7_tellRain_b10_st (f_X7_tellRain_b10 side kd pl vl m2) side kd pl vl t g gp w wp mra mrn) _
      unfold f_X5_readRain_b17_st f_X7_tellRain_b10_st
      refine pj_ifl (fun z => ?_) (fun _ => pj_ifl (fun _ => pj_ckl (fun _ => pj_ifr (fun _ => ?_) (fun z => absurd hg z))) (fun z => absurd hs z))
      · have z2 := k_lt (k := 14) rfl z
        rw [hx] at z2
        omega
      rw [hg]
      refine pj_br (m_is kd t 2) (fun o ho => ?_)
      have kn : K n.toNatClampNeg = K t.toNatClampNeg := by rw [nt]
      rcases ho with ⟨rfl, ko⟩ | ⟨rfl, ko⟩
      · have k2 := kp.mpr ko
        refine pj_ifl (fun _ => pj_ifr (fun z => absurd z (by decide)) (fun _ => pj_ckr (fun _ => ?_))) (fun z => absurd (kn.trans k2) z)
        rw [h4.2.2.1]
        refine pj_ifl (fun c => ?_) (fun c => pj_ckl (fun _ => ?_))
        · have c2 := lt_k (k := 14) rfl c
          refine pj_ifr (fun z => ?_) (fun _ => ?_)
          · have := z_eq (k := 14) rfl z
            omega
          unfold f_X7_tellRain_b44
          refine pj_ifr (fun _ => pj_ckr (fun _ => ?_)) (fun z => absurd (le_0 rfl) z)
          rw [h4.2.2.1, ix]
          have h9 := PA_s h hs hf (rfl : (0 : Int32) = 0)
          refine pj_b7_6 (j_number tk h9) (fun a1_0 a1_1 a1_2 a1_3 a1_4 a1_5 a1_6 b1_0 b1_1 b1_2 b1_3 b1_4 b1_5 hj1 => ?_)
          rcases hj1 with ⟨h1x, v1, m1, _⟩ | q1
          · change PA K pl a1_1 a1_2 a1_3 a1_5 b1_1 b1_2 b1_4 b1_5 at h1x
            change a1_0 = b1_0 at v1
            have n1 : a1_1.toInt = n.toInt + 1 := PA_nx h9 m1
            refine pj_ckl (fun _ => pj_nml (pj_ckr (fun _ => pj_nmr (pj_ckr (fun _ => pj_ckr (fun _ => pj_nmr ?_))))))
            exact ih m2 _ _ _ _ _ _ _ _ _ _ _ _ _ _ _ _ h1x (G4_up h4 c2 v1) (by omega) (by rw [hx])
          · change PB K S a1_1 a1_2 a1_3 a1_4 b1_2 at q1
            exact pj_of (P := fun a => PB K S a.1 a.2.1 a.2.2.1 a.2.2.2.1 b1_2) (Q := fun b => FB b.2.1 b1_2) (pa_ck (fun _ => pa_nx (b_n17 tk _ _ _ _ _ _ _ _ _ _ q1))) (pa_ck (fun _ => pa_nx (pa_ck (fun _ => pa_ck (fun _ => pa_nx (r_n10 (FB_rf q1) m2)))))) (fun a b ha hb => Or.inr (PB_sub hb.1 ha))
        · have c2 := nlt_k (k := 14) rfl c
          have r14 : ra = 14 := z_of (k := 14) rfl (by omega)
          refine pj_ifr (fun _ => ?_) (fun z => absurd r14 z)
          rw [hf]
          refine pj_of (P := fun a => PB K S a.1 a.2.1 a.2.2.1 a.2.2.2.1 2) (Q := fun b => FB b.2.1 2) ?_ ?_ (fun a b ha hb => Or.inr (PB_sub hb.1 ha))
          · refine pa_bd3 (P := fun o => o = (1, 2, S n.toNatClampNeg)) ?_ (fun x0 x1 x2 hp => ?_)
            · unfold f_X5_stop
              refine pa_bd2 (P := fun o => o = (2, S n.toNatClampNeg)) ?_ (fun a b hp => ?_)
              · unfold f_X5_note f_X5_note_b15
                exact pa_if (fun _ => pa_some rfl) (fun z => absurd rfl z)
              · cases hp
                exact pa_some rfl
            · cases hp
              exact b_n17 tk _ _ _ _ _ _ _ _ _ _ ⟨rfl, by decide, fun z => absurd z (by decide)⟩
          · refine pa_bd2 (m_fail pl t gp 2) (fun x0 x1 hp => ?_)
            change x0 = 2 at hp
            unfold f_X7_tellRain_b44
            rw [hp]
            exact pa_if (fun z => absurd z (by decide)) (fun _ => pa_some ⟨rfl, by decide⟩)
      · refine pj_ifl (fun z => absurd (kp.mp (kn.symm.trans z)) ko) (fun _ => pj_ifr (fun _ => ?_) (fun z => absurd rfl z))
        have h9 := PA_s h hs hf (rfl : (0 : Int32) = 0)
        exact j_97 tk h9 h4 h0
theorem j_readRain {K S kd pl vl : Nat → Int32} {V tn : Nat → Int64} (tk : TKR K S V kd pl vl tn) {side n s f fp lf lp t op g gp w wp ce vi pp ri ra nm_ codes waiting : Int32} {cn vn no : Nat → Int64} {room water ways pf pt pw rc rl rw rs rn vc nd na mc mro mwa mwy mp mo mh mw mr mrc mrl mrw mrs mra mrn mv mhm mnd lwf lwt code ci waits : Nat → Int32} (h : GA K pl side n s f lf cn ce vn vi room water ways pp pf pt pw ri rc rl rw rs ra rn vc nd t op g w wp nm_ no na mc mro mwa mwy mp mo mh mw mr mrc mrl mrw mrs mra mrn mv mhm mnd) (hk : K t.toNatClampNeg = 8) : pj (f_X5_readRain K S V n s f fp lf lp ra rn) (f_X7_tell side kd pl vl tn t op g gp w wp nm_ codes waiting no na mc mro mwa mwy mp mo mh mw mr mrc mrl mrw mrs mra mrn mv mhm mnd lwf lwt code ci waits) (fun a b => (GA K pl side a.1 a.2.1 a.2.2.1 a.2.2.2.2.1 cn ce vn vi room water ways pp pf pt pw ri rc rl rw rs a.2.2.2.2.2.2.1 a.2.2.2.2.2.2.2 vc nd b.1 b.2.1 b.2.2.1 b.2.2.2.2.1 b.2.2.2.2.2.1 b.2.2.2.2.2.2.1 b.2.2.2.2.2.2.2.2.2.1 b.2.2.2.2.2.2.2.2.2.2.1 b.2.2.2.2.2.2.2.2.2.2.2.1 b.2.2.2.2.2.2.2.2.2.2.2.2.1 b.2.2.2.2.2.2.2.2.2.2.2.2.2.1 b.2.2.2.2.2.2.2.2.2.2.2.2.2.2.1 b.2.2.2.2.2.2.2.2.2.2.2.2.2.2.2.1 b.2.2.2.2.2.2.2.2.2.2.2.2.2.2.2.2.1 b.2.2.2.2.2.2.2.2.2.2.2.2.2.2.2.2.2.1 b.2.2.2.2.2.2.2.2.2.2.2.2.2.2.2.2.2.2.1 b.2.2.2.2.2.2.2.2.2.2.2.2.2.2.2.2.2.2.2.1 b.2.2.2.2.2.2.2.2.2.2.2.2.2.2.2.2.2.2.2.2.1 b.2.2.2.2.2.2.2.2.2.2.2.2.2.2.2.2.2.2.2.2.2.1 b.2.2.2.2.2.2.2.2.2.2.2.2.2.2.2.2.2.2.2.2.2.2.1 b.2.2.2.2.2.2.2.2.2.2.2.2.2.2.2.2.2.2.2.2.2.2.2.1 b.2.2.2.2.2.2.2.2.2.2.2.2.2.2.2.2.2.2.2.2.2.2.2.2.1 b.2.2.2.2.2.2.2.2.2.2.2.2.2.2.2.2.2.2.2.2.2.2.2.2.2.1 b.2.2.2.2.2.2.2.2.2.2.2.2.2.2.2.2.2.2.2.2.2.2.2.2.2.2.1 b.2.2.2.2.2.2.2.2.2.2.2.2.2.2.2.2.2.2.2.2.2.2.2.2.2.2.2.1 b.2.2.2.2.2.2.2.2.2.2.2.2.2.2.2.2.2.2.2.2.2.2.2.2.2.2.2.2.1 ∧ n.toInt < (a.1).toInt) ∨ PB K S a.1 a.2.1 a.2.2.1 a.2.2.2.1 b.2.2.1) := by
  obtain ⟨hA, hop, hN, h1, h2, h3, h4, h5⟩ := h
  have tt := hA.2.1
  have te : (t.toNatClampNeg : Int) = t.toInt := cl_k tt.1
  have kdt : kd t.toNatClampNeg = 23 := (kp_8 (tk.1 t.toNatClampNeg (by omega) hA.2.2.1).1).mp hk
  unfold f_X5_readRain f_X7_tell
  refine pj_ckr (fun _ => pj_ifr (fun z => absurd (kdt.symm.trans z) (by decide)) (fun _ => pj_ifr (fun z => absurd (kdt.symm.trans z) (by decide)) (fun _ => pj_ifr (fun z => absurd (kdt.symm.trans z) (by decide)) (fun _ => pj_ifr (fun _ => ?_) (fun z => absurd kdt z)))))
  have jg := j_go (fp := fp) (gp := gp) tk hA (by rw [hk]; decide)
  rw [hk] at jg
  refine pj_b5_3 jg (fun a1_0 a1_1 a1_2 a1_3 a1_4 b1_0 b1_1 b1_2 hj1 => ?_)
  rcases hj1 with ⟨v1, h1x, m1, _, _⟩ | ⟨q1, _⟩
  · change PA K pl a1_1 a1_2 a1_3 lf b1_0 b1_1 w wp at h1x
    have n1 : a1_1.toInt = n.toInt + 1 := PA_nx hA m1
    refine pj_bR7 (J := (fun (a : Int32 × Int32 × Int32 × Int32 × Int32 × Int32 × Int32 × (Nat → Int32)) (b : Int32 × Int32 × Int32 × Int32 × Int32 × (Nat → Int32) × (Nat → Int32)) => (PA K pl a.1 a.2.1 a.2.2.1 a.2.2.2.2.1 b.1 b.2.1 b.2.2.2.1 b.2.2.2.2.1 ∧ G4 side a.2.2.2.2.2.2.1 a.2.2.2.2.2.2.2 b.2.2.2.2.2.1 b.2.2.2.2.2.2 ∧ n.toInt < a.1.toInt) ∨ PB K S a.1 a.2.1 a.2.2.1 a.2.2.2.1 b.2.1)) ?_ ?_
    · unfold f_X7_tellRain
      refine pj_ckr (fun _ => pj_nmr ?_)
      exact j_n17 tk fuel fuel _ _ _ _ _ _ _ _ _ _ _ _ _ _ _ _ h1x ⟨h4.1, ⟨by decide, by decide⟩, up_at, AL_0 (by decide)⟩ (by omega) rfl
    · intro a b0 b1 b2 b3 b4 b5 b6 hJ
      rcases hJ with ⟨j1, j2, j4⟩ | jB
      · exact pa_some (Or.inl ⟨⟨j1, hop, hN, h1, h2, h3, j2, h5⟩, j4⟩)
      · exact pa_some (Or.inr jB)
  · change PB K S a1_1 a1_2 a1_3 a1_4 b1_1 at q1
    refine pj_of (P := fun a => PB K S a.1 a.2.1 a.2.2.1 a.2.2.2.1 b1_1) (Q := fun b => FB b.2.2.1 b1_1) (b_n17 tk fuel _ _ _ _ _ _ _ _ _ q1) (pa_bd7 (P := fun b => FB b.2.1 b1_1) ?_ (fun _ _ _ _ _ _ _ k => pa_some k)) (fun a b ha hb => Or.inr (PB_sub hb.1 ha))
    unfold f_X7_tellRain
    exact pa_ck (fun _ => pa_nx (r_n10 (FB_rf q1) fuel))
