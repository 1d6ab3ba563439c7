/-! a LAW on both sides, no FAULT yet -/
/-- no sign of reckoning comes next -/
def NX (k : Int32) : Prop := ¬ k = 42 ∧ ¬ k = 47 ∧ ¬ k = 43 ∧ ¬ k = 45
theorem q_145 {K kd pl vl na : Nat → Int32} {tn no : Nat → Int64} {nm_ t op gp w wp codes waiting : Int32} {code ci waits : Nat → Int32} {k12 : Int32 → Int32 → Int32 → Int32 → Int32 → Int32 → Int32 → Int32 → (Nat → Int32) → (Nat → Int32) → (Nat → Int32) → Int32 → Int32 → Option (Int32 × Int32 × Int32 × Int32 × Int32 × Int32 × Int32 × Int32 × (Nat → Int32) × (Nat → Int32) × (Nat → Int32))} (kp : KP (K t.toNatClampNeg) (kd t.toNatClampNeg)) (hx : NX (K t.toNatClampNeg)) : pa (f_X7_expression_b145 k12 nm_ kd pl vl tn no na t op 0 gp w wp codes waiting code ci waits 0) (fun b => (op.toInt ≤ 0 → b.1 = t ∧ b.2.1 = op ∧ b.2.2.1 = 0 ∧ b.2.2.2.2.1 = w ∧ b.2.2.2.2.2.1 = wp) ∧ (0 < op.toInt → b.2.2.1 = 1)) := by
  have n8 : ¬ kd t.toNatClampNeg = 8 := fun z => hx.2.2.1 ((kp_43 kp).mpr z)
  have n9 : ¬ kd t.toNatClampNeg = 9 := fun z => hx.2.2.2 ((kp_45 kp).mpr z)
  have n10 : ¬ kd t.toNatClampNeg = 10 := fun z => hx.1 ((kp_42 kp).mpr z)
  have n15 : ¬ kd t.toNatClampNeg = 15 := fun z => hx.2.1 ((kp_47 kp).mpr z)
  have is0 : ∀ q, ¬ kd t.toNatClampNeg = q → pa (f_X7_is t 0 kd q) (fun o => o = 0) := fun q hq => pa_w (m_is kd t q) (fun o ho => ho.elim (fun z => absurd z.2 hq) (fun z => z.1))
  unfold f_X7_expression_b145
  refine pa_bd (is0 8 n8) (fun o ho => pa_if (fun _ => ?_) (fun z => absurd ho z))
  refine pa_bd (is0 9 n9) (fun o ho => pa_if (fun _ => ?_) (fun z => absurd ho z))
  refine pa_bd (is0 10 n10) (fun o ho => pa_if (fun _ => ?_) (fun z => absurd ho z))
  refine pa_bd (is0 15 n15) (fun o ho => pa_if (fun _ => ?_) (fun z => absurd ho z))
  unfold f_X7_expression_b186 f_X7_expression_b204
  refine pa_if (fun _ => pa_if (fun c => ?_) (fun c => ?_)) (fun z => absurd rfl z)
  · have c2 := le_k (k := 0) rfl c
    exact pa_bd4 (pa_T _) (fun _ _ _ _ _ => pa_some ⟨fun _ => ⟨rfl, rfl, rfl, rfl, rfl⟩, fun z => by omega⟩)
  · have c2 := nle_k (k := 0) rfl c
    exact pa_bd2 (m_fail pl t gp 1) (fun _ _ k => pa_bd4 (pa_T _) (fun _ _ _ _ _ => pa_some ⟨fun z => by omega, fun _ => k⟩))
/-- an INT in a LAW -/
theorem j_int {K S kd pl vl : Nat → Int32} {V tn : Nat → Int64} (tk : TKR K S V kd pl vl tn) {n s f fp lf lp t g gp w wp : Int32} (h : PA K pl n s f lf t g w wp) (hk : K t.toNatClampNeg = 2) : pj (f_X5_number K S V n s f fp lf lp 0 9999) (f_X7_goesOn pl t g gp) (fun a b => (PA K pl a.2.1 a.2.2.1 a.2.2.2.1 a.2.2.2.2.2.1 b.1 b.2.1 w wp ∧ a.2.1 = n + 1) ∨ PB K S a.2.1 a.2.2.1 a.2.2.2.1 a.2.2.2.2.1 b.2.1) := by
  have jg := j_go (fp := fp) (gp := gp) tk h (by rw [hk]; decide)
  rw [hk] at jg
  have tt := h.2.1
  have te : (t.toNatClampNeg : Int) = t.toInt := cl_k tt.1
  have up := cl_up (t := t) (by omega) (by omega)
  have ev := (tk.1 t.toNatClampNeg (by omega) h.2.2.1).2.1 (z_eq (k := 2) rfl hk)
  have lw : lf = w := h.2.2.2.2.2.2.1
  unfold f_X5_number
  refine pj_bL5 jg (fun a0 a1 a2 a3 a4 b hj => ?_)
  rcases hj with ⟨x0, x1, x2, x3, x4⟩ | ⟨x1, _⟩
  · change a0 = 1 at x0
    change PA K pl a1 a2 a3 lf b.1 b.2.1 w wp at x1
    change a1 = n + 1 at x2
    have e : (a1 - 1).toNatClampNeg = t.toNatClampNeg := by rw [x2, h.1]; exact up.2.2
    refine pa_if (fun z => absurd (x0.symm.trans z) (by decide)) (fun _ => pa_ck (fun _ => pa_nx ?_))
    rw [e, ev.1]
    refine pa_if (fun c => ?_) (fun _ => pa_if (fun _ => pa_some (Or.inl ⟨x1, x2⟩)) (fun c => ?_))
    · have := lt_k (k := 0) rfl c
      omega
    · have := nle_k (k := 9999) rfl c
      omega
  · change PB K S a1 a2 a3 a4 b.2.1 at x1
    refine pa_if (fun _ => pa_some (Or.inr x1)) (fun _ => pa_ck (fun _ => pa_nx ?_))
    have b33 : ∀ x, pa (f_X5_number_b33 S a1 a2 a3 a4 lf lp x) (fun c => (PA K pl c.2.1 c.2.2.1 c.2.2.2.1 c.2.2.2.2.2.1 b.1 b.2.1 w wp ∧ c.2.1 = n + 1) ∨ PB K S c.2.1 c.2.2.1 c.2.2.2.1 c.2.2.2.2.1 b.2.1) := by
      intro x
      unfold f_X5_number_b33
      exact pa_bd2 (l_later _ _ _ _ _) (fun b0 b1 _ => pa_some (Or.inr x1))
    exact pa_if (fun _ => b33 _) (fun _ => pa_if (fun _ => pa_some (Or.inr x1)) (fun _ => b33 _))
theorem PA_lt {K pl : Nat → Int32} {n s f lf t g w wp m : Int32} (h : PA K pl n s f lf t g w wp) (e : m = n + 1) : n.toInt < m.toInt := by
  have := PA_nx h e
  omega
theorem j_unit {K S kd pl vl : Nat → Int32} {V tn : Nat → Int64} (tk : TKR K S V kd pl vl tn) {cn vn no : Nat → Int64} {na : Nat → Int32} {ce vi nm_ own : Int32} (hm : NM cn ce vn vi nm_ no na) {R : Int32 → (Nat → Int32) → (Nat → Int32) → (Nat → Int64) → (Nat → Int64) → Int32 → Int32 → Int32 → Int32 → Int32 → Int32 → Int32 → Int32 → (Nat → Int32) → Int32 → Option (Int32 × Int32 × Int32 × Int32 × Int32 × Int32 × Int32 × (Nat → Int32))} {D : Int} (hD : 0 ≤ D ∧ D ≤ 6) (hRb : ∀ (n s f fp g cl lf lp q1 : Int32) (code : Nat → Int32), PB K S n s f fp g → pa (R own K S V cn ce n cl s f fp lf lp code q1) (fun a => PB K S a.1 a.2.2.1 a.2.2.2.1 a.2.2.2.2.1 g)) (hR : ∀ (n2 m2 : Nat) (n s f fp cl lf lp t op g gp w wp codes waiting q : Int32) (code0 code ci waits : Nat → Int32), PA K pl n s f lf t g w wp → op.toInt = D + 1 → q.toInt = D + 1 → D + 1 ≤ 6 → pj (R own K S V cn ce n cl s f fp lf lp code0 q) (PX nm_ kd pl vl tn no na n2 m2 t op g gp w wp codes waiting code ci waits) (UU K S nm_ kd pl vl tn no na (D + 1) n NX)) (n2 m2 : Nat) {n s f fp cl lf lp t op g gp w wp codes waiting q : Int32} {code0 code ci waits : Nat → Int32} (h : PA K pl n s f lf t g w wp) (ho : op.toInt = D) (hq : q.toInt = D) : pj (f_X5_readUnit R own K S V cn ce n cl s f fp lf lp code0 q) (PX nm_ kd pl vl tn no na n2 m2 t op g gp w wp codes waiting code ci waits) (UU K S nm_ kd pl vl tn no na D n (fun _ => True)) := by
  cases m2 with
  | zero => exact pj_nr
  | succ m2 =>
  have h0 := h
  obtain ⟨rfl, h1, h2, rfl, rfl, rfl, rfl, h3⟩ := h
  have te : (n.toNatClampNeg : Int) = n.toInt := cl_k h1.1
  have kp := (tk.1 n.toNatClampNeg (by omega) h2).1
  have stp : ∀ x, pa (f_X5_stop 0 0 fp x (S n.toNatClampNeg)) (fun o => o = (1, x, S n.toNatClampNeg)) := by
    intro x
    unfold f_X5_stop
    refine pa_bd2 (P := fun o => o = (x, S n.toNatClampNeg)) ?_ (fun a b hp => ?_)
    · unfold f_X5_note f_X5_note_b15
      exact pa_if (fun _ => pa_some rfl) (fun z => absurd rfl z)
    · cases hp
      exact pa_some rfl
  show pj _ (f_X7_expression_b23_st (f_X7_expression_b23 (f_X7_expression_b12 nm_ kd pl vl tn no na n2) nm_ kd pl vl tn no na m2) (f_X7_expression_b12 nm_ kd pl vl tn no na n2) nm_ kd pl vl tn no na n op 0 gp lf wp codes waiting code ci waits 0) _
  unfold f_X5_readUnit f_X7_expression_b23_st
  refine pj_ifl (fun _ => pj_ckl (fun _ => pj_br (m_is kd n 6) (fun o hO => ?_))) (fun z => absurd rfl z)
  rcases hO with ⟨rfl, ko⟩ | ⟨rfl, ko⟩
  · have k40 := (kp_40 kp).mpr ko
    refine pj_ifr (fun z => absurd z (by decide)) (fun _ => ?_)
    refine pj_ifl (fun z => absurd (k40.symm.trans z) (by decide)) (fun _ => ?_)
    refine pj_ifl (fun z => absurd (k40.symm.trans z) (by decide)) (fun _ => ?_)
    refine pj_ifl (fun z => absurd (k40.symm.trans z) (by decide)) (fun _ => ?_)
    refine pj_ifl (fun z => absurd (k40.symm.trans z) (by decide)) (fun _ => ?_)
    refine pj_ifl (fun z => absurd (k40.symm.trans z) (by decide)) (fun _ => ?_)
    refine pj_ifl (fun z => absurd (k40.symm.trans z) (by decide)) (fun _ => ?_)
    refine pj_ifl (fun z => absurd (k40.symm.trans z) (by decide)) (fun _ => ?_)
    refine pj_ifl (fun _ => ?_) (fun z => absurd k40 z)
    refine pj_bL8 (J := UU K S nm_ kd pl vl tn no na D n (fun _ => True)) ?_ (fun c0 c1 c2 c3 c4 c5 c6 c7 b hJ => pa_some hJ)
    unfold f_X5_readNested f_X7_expression_b46
    refine pj_ifl (fun c => ?_) (fun c => pj_ckl (fun _ => ?_))
    · have c6 := lt_k (k := 6) rfl c
      refine pj_ifr (fun z => ?_) (fun _ => ?_)
      · have := z_eq (k := 6) rfl z
        omega
      have jg := j_go (fp := fp) (gp := gp) tk h0 (by rw [k40]; decide)
      rw [k40] at jg
      refine pj_b5_3 jg (fun a0 a1 a2 a3 a4 b0 b1 b2 hj => ?_)
      rcases hj with ⟨_, hA, e1, _, _⟩ | ⟨hB, _⟩
      · change PA K pl a1 a2 a3 lf b0 b1 lf wp at hA
        change a1 = n + 1 at e1
        have l1 := PA_lt h0 e1
        refine pj_ckr (fun _ => pj_nmr ?_)
        have op1 := add_k (x := op) (v := 1) (k := 1) rfl (by omega) (by omega)
        have q1 := add_k (x := q) (v := 1) (k := 1) rfl (by omega) (by omega)
        refine pj_bL8 (hR n2 m2 a1 a2 a3 a4 cl lf lp b0 (op + 1) b1 b2 lf wp codes (waiting + 1) (q + 1) code0 code ci _ hA (by omega) (by omega) (by omega)) (fun c0 c1 c2 c3 c4 c5 c6 c7 b hJ => ?_)
        rcases hJ with ⟨n3, m3, t3, op3, g3, gp3, w3, wp3, codes3, waiting3, code3, ci3, waits3, hA3, ho3, l3, hx3, hQ⟩ | hB
        · change PA K pl c0 c2 c3 c5 t3 g3 w3 wp3 at hA3
          change a1.toInt < c0.toInt at l3
          have s3 := hA3.2.2.2.1
          have f3 := hA3.2.2.2.2.1
          have g30 := hA3.2.2.2.2.2.1
          have h9 := hA3
          rw [s3, f3, g30] at h9
          have n3t := PA_tn hA3
          have tt3 := hA3.2.1
          have te3 : (t3.toNatClampNeg : Int) = t3.toInt := cl_k tt3.1
          have kp3 := (tk.1 t3.toNatClampNeg (by omega) hA3.2.2.1).1
          rw [s3, f3]
          refine pa_pj ?_ hQ
          rw [g30]
          cases m3 with
          | zero => exact pj_nr
          | succ m3 =>
          show pj _ (f_X7_expression_b96_st (f_X7_expression_b96 (f_X7_expression_b12 nm_ kd pl vl tn no na n3) nm_ kd pl vl tn no na m3) (f_X7_expression_b12 nm_ kd pl vl tn no na n3) nm_ kd pl vl tn no na t3 op3 0 gp3 w3 wp3 codes3 waiting3 code3 ci3 waits3 0) _
          unfold f_X7_expression_b96_st
          refine pj_br (m_is kd t3 7) (fun o hO => ?_)
          rcases hO with ⟨rfl, ko3⟩ | ⟨rfl, ko3⟩
          · have k41 := (kp_41 kp3).mpr ko3
            refine pj_ifr (fun z => absurd z (by decide)) (fun _ => pj_ifr (fun z => ?_) (fun _ => pj_br4 (pa_T _) (fun y0 y1 y2 y3 _ => ?_)))
            · have := le_k (k := 0) rfl z
              omega
            have jg3 := j_go (fp := c4) (gp := gp3) tk h9 (by rw [k41]; decide)
            rw [k41] at jg3
            refine pj_b5_3 jg3 (fun d0 d1 d2 d3 d4 r0 r1 r2 hj => ?_)
            rcases hj with ⟨_, hA4, e4, _, _⟩ | ⟨hB4, _⟩
            · change PA K pl d1 d2 d3 c5 r0 r1 w3 wp3 at hA4
              change d1 = c0 + 1 at e4
              have l4 := PA_lt hA3 e4
              have opm := sub_k (x := op3) (v := 1) (k := 1) rfl (by omega) (by omega)
              refine pj_sl (fun b' hb' => Or.inl ⟨n3, m3, r0, op3 - 1, r1, r2, w3, wp3, y0, y1 - 1, y2, y3, waits3, hA4, by omega, ?_, trivial, hb'⟩)
              show n.toInt < d1.toInt
              omega
            · change PB K S d1 d2 d3 d4 r1 at hB4
              exact pj_of (P := fun a => PB K S a.1 a.2.2.1 a.2.2.2.1 a.2.2.2.2.1 r1) (Q := fun b => FB b.2.2.1 r1) (pa_some hB4) (r_96 (FB_rf hB4) m3) (fun a b ha hb => Or.inr (PB_sub hb.1 ha))
          · have k41 : ¬ K t3.toNatClampNeg = 41 := fun z => ko3 ((kp_41 kp3).mp z)
            refine pj_ifr (fun _ => ?_) (fun z => absurd rfl z)
            refine pj_of (P := fun a => PB K S a.1 a.2.2.1 a.2.2.2.1 a.2.2.2.2.1 1) (Q := fun b => FB b.2.2.1 1) ?_ (pa_w (q_145 kp3 hx3) (fun b hb => ⟨hb.2 (by omega), by decide⟩)) (fun a b ha hb => Or.inr (PB_sub hb.1 ha))
            refine pa_bd5 (c_accept K S c0 c4 41) (fun d0 d1 d2 d3 d4 hd => ?_)
            rw [n3t] at hd
            rcases hd with ⟨k, _, _⟩ | ⟨k, _, _⟩ | ⟨_, e5⟩
            · exact absurd k k41
            · exact absurd k k41
            · cases e5
              exact pa_some ⟨rfl, by decide, no_10⟩
        · change PB K S c0 c2 c3 c4 b.2.2.1 at hB
          exact pa_bd5 (b_accept tk hB (by decide)) (fun _ _ _ _ _ k => pa_some (Or.inr k.1))
      · change PB K S a1 a2 a3 a4 b1 at hB
        exact pj_of (P := fun a => PB K S a.1 a.2.2.1 a.2.2.2.1 a.2.2.2.2.1 b1) (Q := fun b => FB b.2.2.1 b1) (pa_bd8 (hRb _ _ _ _ _ _ _ _ _ _ hB) (fun _ _ _ _ _ _ _ _ k2 => pa_bd5 (b_accept tk k2 (by decide)) (fun _ _ _ _ _ k3 => pa_some k3.1))) (pa_ck (fun _ => pa_nx (r_23 (FB_rf hB) m2))) (fun a b ha hb => Or.inr (PB_sub hb.1 ha))
    · have c6 := nlt_k (k := 6) rfl c
      have o6 : op = 6 := z_of (k := 6) rfl (by omega)
      refine pj_ifr (fun _ => ?_) (fun z => absurd o6 z)
      refine pj_of (P := fun a => PB K S a.1 a.2.2.1 a.2.2.2.1 a.2.2.2.2.1 2) (Q := fun b => FB b.2.2.1 2) (pa_bd3 (stp 2) (fun a0 a1 a2 hp => ?_)) (pa_bd2 (m_fail pl n gp 2) (fun x0 x1 hp => ?_)) (fun a b ha hb => Or.inr (PB_sub hb.1 ha))
      · cases hp
        exact pa_some ⟨rfl, by decide, no_10⟩
      · have fb : FB x0 2 := ⟨hp, by decide⟩
        exact pa_bd3 (r_goesOn fb) (fun _ _ _ k => pa_ck (fun _ => pa_nx (r_23 k m2)))
  · have k40 : ¬ K n.toNatClampNeg = 40 := fun z => ko ((kp_40 kp).mp z)
    refine pj_ifr (fun _ => ?_) (fun z => absurd rfl z)
    refine pj_bR8 (J := (fun (a : Int32 × Int32 × Int32 × Int32 × Int32 × Int32 × Int32 × (Nat → Int32)) (b : Int32 × Int32 × Int32 × Int32 × Int32 × Int32 × (Nat → Int32) × (Nat → Int32)) => (PA K pl a.1 a.2.2.1 a.2.2.2.1 a.2.2.2.2.2.1 b.1 b.2.1 b.2.2.2.1 b.2.2.2.2.1 ∧ n.toInt < a.1.toInt) ∨ PB K S a.1 a.2.2.1 a.2.2.2.1 a.2.2.2.2.1 b.2.1)) ?_ (fun a b0 b1 b2 b3 b4 b5 b6 b7 hJ => ?_)
    · unfold f_X7_unit f_X7_unit_b88
      refine pj_ifl (fun k2 => ?_) (fun k2 => ?_)
      · refine pj_br (m_is kd n 2) (fun o hO => ?_)
        rcases hO with ⟨rfl, _⟩ | ⟨rfl, kz⟩
        · refine pj_ifr (fun z => absurd z (by decide)) (fun _ => pj_ckr (fun _ => pj_br3 (pa_T _) (fun y0 y1 y2 _ => ?_)))
          refine pj_b7_3 (j_int tk h0 k2) (fun a0 a1 a2 a3 a4 a5 a6 b0 b1 b2 hj => pj_bl2 (pa_T _) (fun x0 x1 _ => pj_ss ?_))
          rcases hj with ⟨hA, e1⟩ | hB
          · exact Or.inl ⟨hA, PA_lt h0 e1⟩
          · exact Or.inr hB
        · exact absurd ((kp_2 kp).mp k2) kz
      have kd2 : ¬ kd n.toNatClampNeg = 2 := fun z => k2 ((kp_2 kp).mpr z)
      refine pj_br (m_is kd n 2) (fun o hO => ?_)
      rcases hO with ⟨rfl, kz⟩ | ⟨rfl, _⟩
      · exact absurd kz kd2
      refine pj_ifr (fun _ => pj_ifr (fun _ => pj_ckr (fun _ => ?_)) (fun z => absurd rfl z)) (fun z => absurd rfl z)
      refine pj_ifl (fun k10 => ?_) (fun k10 => ?_)
      · have kd25 := (kp_10 kp).mp k10
        refine pj_ifr (fun _ => pj_br (m_is kd n 25) (fun o hO => ?_)) (fun z => absurd (by rw [kd25]; decide) z)
        rcases hO with ⟨rfl, _⟩ | ⟨rfl, kz⟩
        · refine pj_ifr (fun z => absurd z (by decide)) (fun _ => ?_)
          refine pj_b5_3 (j_go tk h0 (by rw [k10]; decide)) (fun a0 a1 a2 a3 a4 b0 b1 b2 hj => ?_)
          have tl : ∀ (v0 v1 v2 v3 v4 v5 : Int32) (u0 u1 u2 u3 u4 u5 u6 : Int32), ((PA K pl u1 u2 u3 u5 v1 v2 v4 v5 ∧ n.toInt < u1.toInt) ∨ PB K S u1 u2 u3 u4 v2) → pj (bd (f_X5_emit cl code0 (-20 - u0)) (fun o => un2 o (fun x0 x1 => some (u1, x0, u2, u3, u4, u5, u6, x1)))) (if v0 = -1 then f_X7_unit_b120 v1 v2 v3 v4 v5 codes code ci 1 0 else f_X7_unit_b120 v1 v2 v3 v4 v5 codes code ci 1 (5 + v0)) (fun (a : Int32 × Int32 × Int32 × Int32 × Int32 × Int32 × Int32 × (Nat → Int32)) (b : Int32 × Int32 × Int32 × Int32 × Int32 × Int32 × (Nat → Int32) × (Nat → Int32)) => (PA K pl a.1 a.2.2.1 a.2.2.2.1 a.2.2.2.2.2.1 b.1 b.2.1 b.2.2.2.1 b.2.2.2.2.1 ∧ n.toInt < a.1.toInt) ∨ PB K S a.1 a.2.2.1 a.2.2.2.1 a.2.2.2.2.1 b.2.1) := by
            intro v0 v1 v2 v3 v4 v5 u0 u1 u2 u3 u4 u5 u6 hu
            unfold f_X7_unit_b120
            exact pj_bl2 (pa_T _) (fun x0 x1 _ => pj_ifr (fun _ => pj_br3 (pa_T _) (fun _ _ _ _ => pj_ss hu)) (fun _ => pj_br3 (pa_T _) (fun _ _ _ _ => pj_ss hu)))
          rcases hj with ⟨_, hA, e1, _, _⟩ | ⟨hB, _⟩
          · change PA K pl a1 a2 a3 lf b0 b1 lf wp at hA
            change a1 = n + 1 at e1
            have l1 := PA_lt h0 e1
            refine pj_b7_6 (j_knownCell tk hm hA) (fun u0 u1 u2 u3 u4 u5 u6 v0 v1 v2 v3 v4 v5 hj => tl _ _ _ _ _ _ _ _ _ _ _ _ _ ?_)
            rcases hj with ⟨hA2, _, _, e2, _⟩ | ⟨hB, _⟩
            · have l2 := PA_lt hA e2
              change a1.toInt < u1.toInt at l2
              exact Or.inl ⟨hA2, by omega⟩
            · exact Or.inr hB
          · change PB K S a1 a2 a3 a4 b1 at hB
            refine pj_of (P := fun a => PB K S a.1 a.2.2.1 a.2.2.2.1 a.2.2.2.2.1 b1) (Q := fun b => FB b.2.1 b1) (pa_bd7 (b_knownCell tk _ _ _ _ hB) (fun _ _ _ _ _ _ _ k => pa_bd2 (pa_T _) (fun _ _ _ => pa_some k.1))) ?_ (fun a b ha hb => Or.inr (PB_sub hb.1 ha))
            unfold f_X7_unit_b120
            exact pa_bd6 (r_cellAt (FB_rf hB)) (fun _ _ _ _ _ _ k => pa_if (fun _ => pa_bd3 (pa_T _) (fun _ _ _ _ => pa_some k)) (fun _ => pa_bd3 (pa_T _) (fun _ _ _ _ => pa_some k)))
        · exact absurd kd25 kz
      refine pj_ifl (fun k11 => ?_) (fun k11 => ?_)
      · have kv := z_eq (k := 11) rfl k11
        have kdv : (kd n.toNatClampNeg).toInt = 26 := by unfold KP at kp; omega
        refine pj_ifr (fun z => ?_) (fun _ => pj_ckr (fun _ => pj_ifr (fun z => ?_) (fun _ => pj_ckr (fun _ => pj_br3 (pa_T _) (fun y0 y1 y2 _ => ?_)))))
        · have := lt_k (k := 26) rfl z
          omega
        · have := k_lt (k := 30) rfl z
          omega
        refine pj_b5_3 (j_go tk h0 (by rw [k11]; decide)) (fun a0 a1 a2 a3 a4 b0 b1 b2 hj => pj_bl2 (pa_T _) (fun x0 x1 _ => pj_ss ?_))
        rcases hj with ⟨_, hA, e1, _, _⟩ | ⟨hB, _⟩
        · exact Or.inl ⟨hA, PA_lt h0 e1⟩
        · exact Or.inr hB
      refine pj_ifl (fun k12 => ?_) (fun k12 => ?_)
      · have kv := z_eq (k := 12) rfl k12
        have kdv : (kd n.toNatClampNeg).toInt = 27 := by unfold KP at kp; omega
        refine pj_ifr (fun z => ?_) (fun _ => pj_ckr (fun _ => pj_ifr (fun z => ?_) (fun _ => pj_ckr (fun _ => pj_br3 (pa_T _) (fun y0 y1 y2 _ => ?_)))))
        · have := lt_k (k := 26) rfl z
          omega
        · have := k_lt (k := 30) rfl z
          omega
        refine pj_b5_3 (j_go tk h0 (by rw [k12]; decide)) (fun a0 a1 a2 a3 a4 b0 b1 b2 hj => pj_bl2 (pa_T _) (fun x0 x1 _ => pj_ss ?_))
        rcases hj with ⟨_, hA, e1, _, _⟩ | ⟨hB, _⟩
        · exact Or.inl ⟨hA, PA_lt h0 e1⟩
        · exact Or.inr hB
      refine pj_ifl (fun k13 => ?_) (fun k13 => ?_)
      · have kv := z_eq (k := 13) rfl k13
        have kdv : (kd n.toNatClampNeg).toInt = 28 := by unfold KP at kp; omega
        refine pj_ifr (fun z => ?_) (fun _ => pj_ckr (fun _ => pj_ifr (fun z => ?_) (fun _ => pj_ckr (fun _ => pj_br3 (pa_T _) (fun y0 y1 y2 _ => ?_)))))
        · have := lt_k (k := 26) rfl z
          omega
        · have := k_lt (k := 30) rfl z
          omega
        refine pj_b5_3 (j_go tk h0 (by rw [k13]; decide)) (fun a0 a1 a2 a3 a4 b0 b1 b2 hj => pj_bl2 (pa_T _) (fun x0 x1 _ => pj_ss ?_))
        rcases hj with ⟨_, hA, e1, _, _⟩ | ⟨hB, _⟩
        · exact Or.inl ⟨hA, PA_lt h0 e1⟩
        · exact Or.inr hB
      refine pj_ifl (fun k14 => ?_) (fun k14 => ?_)
      · have kv := z_eq (k := 14) rfl k14
        have kdv : (kd n.toNatClampNeg).toInt = 29 := by unfold KP at kp; omega
        refine pj_ifr (fun z => ?_) (fun _ => pj_ckr (fun _ => pj_ifr (fun z => ?_) (fun _ => pj_ckr (fun _ => pj_br3 (pa_T _) (fun y0 y1 y2 _ => ?_)))))
        · have := lt_k (k := 26) rfl z
          omega
        · have := k_lt (k := 30) rfl z
          omega
        refine pj_b5_3 (j_go tk h0 (by rw [k14]; decide)) (fun a0 a1 a2 a3 a4 b0 b1 b2 hj => pj_bl2 (pa_T _) (fun x0 x1 _ => pj_ss ?_))
        rcases hj with ⟨_, hA, e1, _, _⟩ | ⟨hB, _⟩
        · exact Or.inl ⟨hA, PA_lt h0 e1⟩
        · exact Or.inr hB
      refine pj_ifl (fun k15 => ?_) (fun k15 => ?_)
      · have kv := z_eq (k := 15) rfl k15
        have kdv : (kd n.toNatClampNeg).toInt = 30 := by unfold KP at kp; omega
        refine pj_ifr (fun z => ?_) (fun _ => pj_ckr (fun _ => pj_ifr (fun z => ?_) (fun _ => pj_ckr (fun _ => pj_br3 (pa_T _) (fun y0 y1 y2 _ => ?_)))))
        · have := lt_k (k := 26) rfl z
          omega
        · have := k_lt (k := 30) rfl z
          omega
        refine pj_b5_3 (j_go tk h0 (by rw [k15]; decide)) (fun a0 a1 a2 a3 a4 b0 b1 b2 hj => pj_bl2 (pa_T _) (fun x0 x1 _ => pj_ss ?_))
        rcases hj with ⟨_, hA, e1, _, _⟩ | ⟨hB, _⟩
        · exact Or.inl ⟨hA, PA_lt h0 e1⟩
        · exact Or.inr hB
      refine pj_ifl (fun z => absurd z k40) (fun _ => pj_ckl (fun _ => ?_))
      have kd25 : ¬ kd n.toNatClampNeg = 25 := fun z => k10 ((kp_10 kp).mpr z)
      have b88 : pj (bd (f_X5_stop 0 0 fp 1 (S n.toNatClampNeg)) (fun o => un3 o (fun o_0 o_1 o_2 => some (n, cl, o_0, o_1, o_2, lf, lp, code0)))) (f_X7_unit_b88 nm_ kd pl tn no na n 0 gp lf wp codes code ci) (fun (a : Int32 × Int32 × Int32 × Int32 × Int32 × Int32 × Int32 × (Nat → Int32)) (b : Int32 × Int32 × Int32 × Int32 × Int32 × Int32 × (Nat → Int32) × (Nat → Int32)) => (PA K pl a.1 a.2.2.1 a.2.2.2.1 a.2.2.2.2.2.1 b.1 b.2.1 b.2.2.2.1 b.2.2.2.2.1 ∧ n.toInt < a.1.toInt) ∨ PB K S a.1 a.2.2.1 a.2.2.2.1 a.2.2.2.2.1 b.2.1) := by
        unfold f_X7_unit_b88
        refine pj_br (m_is kd n 25) (fun o hO => ?_)
        rcases hO with ⟨rfl, kz⟩ | ⟨rfl, _⟩
        · exact absurd kz kd25
        refine pj_ifr (fun _ => ?_) (fun z => absurd rfl z)
        refine pj_of (P := fun a => PB K S a.1 a.2.2.1 a.2.2.2.1 a.2.2.2.2.1 1) (Q := fun b => FB b.2.1 1) (pa_bd3 (stp 1) (fun a0 a1 a2 hp => ?_)) (pa_bd2 (m_fail pl n gp 1) (fun x0 x1 hp => pa_some ⟨hp, by decide⟩)) (fun a b ha hb => Or.inr (PB_sub hb.1 ha))
        cases hp
        exact pa_some ⟨rfl, by decide, no_10⟩
      refine pj_ifr (fun _ => b88) (fun z => pj_ckr (fun _ => pj_ifr (fun _ => b88) (fun z2 => ?_)))
      have y1 := nlt_k (k := 26) rfl z
      have y2 := k_nlt (k := 30) rfl z2
      have n11 := z_ne (k := 11) rfl k11
      have n12 := z_ne (k := 12) rfl k12
      have n13 := z_ne (k := 13) rfl k13
      have n14 := z_ne (k := 14) rfl k14
      have n15 := z_ne (k := 15) rfl k15
      unfold KP at kp
      omega
    · rcases hJ with ⟨hA, l1⟩ | hB
      · change PA K pl a.1 a.2.2.1 a.2.2.2.1 a.2.2.2.2.2.1 b0 b1 b3 b4 at hA
        have g0 : b1 = 0 := hA.2.2.2.2.2.1
        exact pa_if (fun _ c e => Or.inl ⟨n2, fuel, b0, op, b1, b2, b3, b4, b5, waiting, b6, b7, waits, hA, ho, l1, trivial, e⟩) (fun z => absurd (le_0 g0) z)
      · exact pa_if (fun z => absurd z (FB_le (FB_rf hB))) (fun _ => pa_some (Or.inr hB))
theorem j_prod7 {K S kd pl vl : Nat → Int32} {V tn : Nat → Int64} (tk : TKR K S V kd pl vl tn) {cn vn no : Nat → Int64} {na : Nat → Int32} {ce vi nm_ own : Int32} (hm : NM cn ce vn vi nm_ no na) {R : Int32 → (Nat → Int32) → (Nat → Int32) → (Nat → Int64) → (Nat → Int64) → Int32 → Int32 → Int32 → Int32 → Int32 → Int32 → Int32 → Int32 → (Nat → Int32) → Int32 → Option (Int32 × Int32 × Int32 × Int32 × Int32 × Int32 × Int32 × (Nat → Int32))} {D : Int} (hD : 0 ≤ D ∧ D ≤ 6) (hRb : ∀ (n s f fp g cl lf lp q1 : Int32) (code : Nat → Int32), PB K S n s f fp g → pa (R own K S V cn ce n cl s f fp lf lp code q1) (fun a => PB K S a.1 a.2.2.1 a.2.2.2.1 a.2.2.2.2.1 g)) (hR : ∀ (n2 m2 : Nat) (n s f fp cl lf lp t op g gp w wp codes waiting q : Int32) (code0 code ci waits : Nat → Int32), PA K pl n s f lf t g w wp → op.toInt = D + 1 → q.toInt = D + 1 → D + 1 ≤ 6 → pj (R own K S V cn ce n cl s f fp lf lp code0 q) (PX nm_ kd pl vl tn no na n2 m2 t op g gp w wp codes waiting code ci waits) (UU K S nm_ kd pl vl tn no na (D + 1) n NX)) {n0 q : Int32} (hq : q.toInt = D) : ∀ (k n2 m2 : Nat) (n s f fp cl lf lp t op g gp w wp codes waiting x2 : Int32) (code0 code ci waits : Nat → Int32), PA K pl n s f lf t g w wp → op.toInt = D → n0.toInt < n.toInt → x2.toInt ≤ n.toInt → 0 ≤ x2.toInt → pj (f_X5_readProduct_b7 R own K S V cn ce k n cl s f fp lf lp code0 q x2) (QX nm_ kd pl vl tn no na n2 m2 t op g gp w wp codes waiting code ci waits) (UU K S nm_ kd pl vl tn no na D n0 (fun k => ¬ k = 42 ∧ ¬ k = 47)) := by
  intro k
  induction k with
  | zero => intro n2 m2 n s f fp cl lf lp t op g gp w wp codes waiting x2 code0 code ci waits _ _ _ _ _; exact pj_nl
  | succ k ih =>
  intro n2 m2 n s f fp cl lf lp t op g gp w wp codes waiting x2 code0 code ci waits h ho hn hx2 hx0
  have h0 := h
  obtain ⟨rfl, h1, h2, rfl, rfl, rfl, rfl, h3⟩ := h
  have te : (n.toNatClampNeg : Int) = n.toInt := cl_k h1.1
  have kp := (tk.1 n.toNatClampNeg (by omega) h2).1
  have x21 := add_k (x := x2) (v := 1) (k := 1) rfl (by omega) (by omega)
  show pj (f_X5_readProduct_b7_st (f_X5_readProduct_b7 R own K S V cn ce k) R own K S V cn ce n cl 0 0 fp lf lp code0 q x2) _ _
  have go : ∀ (v t1 : Int32), ¬ (K n.toNatClampNeg).toInt = 3 ∧ ¬ (K n.toNatClampNeg).toInt = 4 → ∀ (m2 : Nat), pj (f_X5_readProduct_b70 R (f_X5_readProduct_b7 R own K S V cn ce k) own K S V cn ce n cl 0 0 fp lf lp code0 q x2 v) (f_X7_expression_b234 (f_X7_expression_b12 nm_ kd pl vl tn no na n2) nm_ kd pl vl tn no na n op 0 gp lf wp codes waiting code ci waits 0 1 t1) (UU K S nm_ kd pl vl tn no na D n0 (fun k => ¬ k = 42 ∧ ¬ k = 47)) := by
    intro v t1 hk m2
    unfold f_X5_readProduct_b70 f_X7_expression_b234
    refine pj_ckl (fun _ => pj_br4 (pa_T _) (fun y0 y1 y2 y3 _ => pj_ckr (fun _ => pj_ckr (fun _ => pj_nmr ?_))))
    refine pj_b5_3 (j_go tk h0 hk) (fun a0 a1 a2 a3 a4 b0 b1 b2 hj => ?_)
    rcases hj with ⟨_, hA, e1, _, _⟩ | ⟨hB, _⟩
    · change PA K pl a1 a2 a3 lf b0 b1 lf wp at hA
      change a1 = n + 1 at e1
      have l1 := PA_lt h0 e1
      have g0 : b1 = 0 := hA.2.2.2.2.2.1
      cases n2 with
      | zero => exact pj_nr
      | succ n2 =>
      show pj _ (f_X7_expression_b12_st (f_X7_expression_b12 nm_ kd pl vl tn no na n2) nm_ kd pl vl tn no na b0 op b1 b2 lf wp y0 (y1 + 1) y2 y3 _ 0 1) _
      unfold f_X7_expression_b12_st
      refine pj_ifr (fun z => absurd z (by decide)) (fun _ => pj_ifr (fun _ => ?_) (fun z => absurd g0 z))
      refine pj_bL8 (j_unit tk hm hD hRb hR n2 fuel hA ho hq) (fun c0 c1 c2 c3 c4 c5 c6 c7 b hJ => ?_)
      rcases hJ with ⟨n3, m3, t3, op3, g3, gp3, w3, wp3, codes3, waiting3, code3, ci3, waits3, hA3, ho3, l3, hx3, hQ⟩ | hB
      · change PA K pl c0 c2 c3 c5 t3 g3 w3 wp3 at hA3
        change a1.toInt < c0.toInt at l3
        exact pa_bd2 (pa_T _) (fun x0 x1 _ => pa_pj (ih n3 m3 _ _ _ _ _ _ _ _ _ _ _ _ _ _ _ _ _ _ _ _ hA3 ho3 (by omega) (by omega) (by omega)) hQ)
      · change PB K S c0 c2 c3 c4 b.2.2.1 at hB
        exact pa_bd2 (pa_T _) (fun x0 x1 _ => pa_w (b_prod7 tk hRb k _ _ _ _ _ _ _ _ _ _ hB) (fun _ hc => Or.inr hc))
    · change PB K S a1 a2 a3 a4 b1 at hB
      exact pj_of (P := fun a => PB K S a.1 a.2.2.1 a.2.2.2.1 a.2.2.2.2.1 b1) (Q := fun b => FB b.2.2.1 b1) (pa_bd8 (b_unit tk hRb hB) (fun _ _ _ _ _ _ _ _ k2 => pa_bd2 (pa_T _) (fun _ _ _ => b_prod7 tk hRb k _ _ _ _ _ _ _ _ _ _ k2))) (r_12 (FB_rf hB) n2) (fun a b ha hb => Or.inr (PB_sub hb.1 ha))
  unfold f_X5_readProduct_b7_st
  refine pj_ifl (fun z => ?_) (fun _ => pj_ifl (fun _ => pj_ckl (fun _ => ?_)) (fun z => absurd rfl z))
  · have := k_le (k := 403) rfl z
    omega
  have is0 : ∀ x, ¬ kd n.toNatClampNeg = x → pa (f_X7_is n 0 kd x) (fun o => o = 0) := fun x hx => pa_w (m_is kd n x) (fun o ho => ho.elim (fun z => absurd z.2 hx) (fun z => z.1))
  have is1 : ∀ x, kd n.toNatClampNeg = x → pa (f_X7_is n 0 kd x) (fun o => ¬ o = 0) := fun x hx => pa_w (m_is kd n x) (fun o ho => ho.elim (fun z => by rw [z.1]; decide) (fun z => absurd hx z.2))
  refine pj_ifl (fun ka => ?_) (fun ka => ?_)
  · have kx := (kp_42 kp).mp ka
    have n7 : ¬ kd n.toNatClampNeg = 7 := by rw [kx]; decide
    cases m2 with
    | zero => exact pj_nr
    | succ m2 =>
    show pj _ (f_X7_expression_b96_st (f_X7_expression_b96 (f_X7_expression_b12 nm_ kd pl vl tn no na n2) nm_ kd pl vl tn no na m2) (f_X7_expression_b12 nm_ kd pl vl tn no na n2) nm_ kd pl vl tn no na n op 0 gp lf wp codes waiting code ci waits 0) _
    unfold f_X7_expression_b96_st
    refine pj_br (is0 7 n7) (fun o hO => pj_ifr (fun _ => ?_) (fun z => absurd hO z))
    unfold f_X7_expression_b145
    refine pj_br (is0 8 (by rw [kx]; decide)) (fun o hO => pj_ifr (fun _ => ?_) (fun z => absurd hO z))
    refine pj_br (is0 9 (by rw [kx]; decide)) (fun o hO => pj_ifr (fun _ => ?_) (fun z => absurd hO z))
    refine pj_br (is1 10 kx) (fun o hO => pj_ifr (fun z => absurd z hO) (fun _ => ?_))
    unfold f_X5_readProduct_b49 f_X7_expression_b186
    refine pj_ckl (fun _ => pj_ifr (fun z => absurd z (by decide)) (fun _ => ?_))
    refine pj_ifl (fun _ => ?_) (fun z => absurd ka z)
    exact pj_br (is1 10 kx) (fun o hO => pj_ifr (fun z => absurd z hO) (fun _ => go _ _ (by rw [ka]; decide) m2))
  refine pj_ckl (fun _ => pj_ifl (fun kb => ?_) (fun kb => ?_))
  · have kx := (kp_47 kp).mp kb
    have n7 : ¬ kd n.toNatClampNeg = 7 := by rw [kx]; decide
    cases m2 with
    | zero => exact pj_nr
    | succ m2 =>
    show pj _ (f_X7_expression_b96_st (f_X7_expression_b96 (f_X7_expression_b12 nm_ kd pl vl tn no na n2) nm_ kd pl vl tn no na m2) (f_X7_expression_b12 nm_ kd pl vl tn no na n2) nm_ kd pl vl tn no na n op 0 gp lf wp codes waiting code ci waits 0) _
    unfold f_X7_expression_b96_st
    refine pj_br (is0 7 n7) (fun o hO => pj_ifr (fun _ => ?_) (fun z => absurd hO z))
    unfold f_X7_expression_b145
    refine pj_br (is0 8 (by rw [kx]; decide)) (fun o hO => pj_ifr (fun _ => ?_) (fun z => absurd hO z))
    refine pj_br (is0 9 (by rw [kx]; decide)) (fun o hO => pj_ifr (fun _ => ?_) (fun z => absurd hO z))
    refine pj_br (is0 10 (by rw [kx]; decide)) (fun o hO => pj_ifr (fun _ => ?_) (fun z => absurd hO z))
    refine pj_br (is1 15 kx) (fun o hO => pj_ifr (fun z => absurd z hO) (fun _ => ?_))
    unfold f_X5_readProduct_b49 f_X7_expression_b186
    refine pj_ckl (fun _ => pj_ifr (fun z => absurd z (by decide)) (fun _ => ?_))
    refine pj_ifl (fun z => absurd z ka) (fun _ => ?_)
    exact pj_br (is0 10 (by rw [kx]; decide)) (fun o hO => pj_ifr (fun _ => pj_br (is1 15 kx) (fun o hO => pj_ifr (fun z => absurd z hO) (fun _ => go _ _ (by rw [kb]; decide) m2))) (fun z => absurd hO z))
  exact pj_sl (fun b hb => Or.inl ⟨n2, m2, n, op, 0, gp, lf, wp, codes, waiting, code, ci, waits, h0, ho, hn, ⟨ka, kb⟩, hb⟩)
theorem j_prod {K S kd pl vl : Nat → Int32} {V tn : Nat → Int64} (tk : TKR K S V kd pl vl tn) {cn vn no : Nat → Int64} {na : Nat → Int32} {ce vi nm_ own : Int32} (hm : NM cn ce vn vi nm_ no na) {R : Int32 → (Nat → Int32) → (Nat → Int32) → (Nat → Int64) → (Nat → Int64) → Int32 → Int32 → Int32 → Int32 → Int32 → Int32 → Int32 → Int32 → (Nat → Int32) → Int32 → Option (Int32 × Int32 × Int32 × Int32 × Int32 × Int32 × Int32 × (Nat → Int32))} {D : Int} (hD : 0 ≤ D ∧ D ≤ 6) (hRb : ∀ (n s f fp g cl lf lp q1 : Int32) (code : Nat → Int32), PB K S n s f fp g → pa (R own K S V cn ce n cl s f fp lf lp code q1) (fun a => PB K S a.1 a.2.2.1 a.2.2.2.1 a.2.2.2.2.1 g)) (hR : ∀ (n2 m2 : Nat) (n s f fp cl lf lp t op g gp w wp codes waiting q : Int32) (code0 code ci waits : Nat → Int32), PA K pl n s f lf t g w wp → op.toInt = D + 1 → q.toInt = D + 1 → D + 1 ≤ 6 → pj (R own K S V cn ce n cl s f fp lf lp code0 q) (PX nm_ kd pl vl tn no na n2 m2 t op g gp w wp codes waiting code ci waits) (UU K S nm_ kd pl vl tn no na (D + 1) n NX)) (n2 m2 : Nat) {n s f fp cl lf lp t op g gp w wp codes waiting q : Int32} {code0 code ci waits : Nat → Int32} (h : PA K pl n s f lf t g w wp) (ho : op.toInt = D) (hq : q.toInt = D) : pj (f_X5_readProduct R own K S V cn ce n cl s f fp lf lp code0 q) (PX nm_ kd pl vl tn no na n2 m2 t op g gp w wp codes waiting code ci waits) (UU K S nm_ kd pl vl tn no na D n (fun k => ¬ k = 42 ∧ ¬ k = 47)) := by
  unfold f_X5_readProduct
  refine pj_bL8 (j_unit tk hm hD hRb hR n2 m2 h ho hq) (fun c0 c1 c2 c3 c4 c5 c6 c7 b hJ => ?_)
  rcases hJ with ⟨n3, m3, t3, op3, g3, gp3, w3, wp3, codes3, waiting3, code3, ci3, waits3, hA3, ho3, l3, hx3, hQ⟩ | hB
  · change PA K pl c0 c2 c3 c5 t3 g3 w3 wp3 at hA3
    change n.toInt < c0.toInt at l3
    have p0 := hA3.2.1
    have z0 : (0 : Int32).toInt = 0 := rfl
    have nt : c0.toInt = t3.toInt := by rw [PA_tn hA3]
    exact pa_pj (j_prod7 tk hm hD hRb hR hq fuel n3 m3 _ _ _ _ _ _ _ _ _ _ _ _ _ _ _ 0 _ _ _ _ hA3 ho3 l3 (by omega) (by omega)) hQ
  · change PB K S c0 c2 c3 c4 b.2.2.1 at hB
    exact pa_w (b_prod7 tk hRb fuel _ _ _ _ _ _ _ _ _ _ hB) (fun _ hc => Or.inr hc)
theorem j_sum7 {K S kd pl vl : Nat → Int32} {V tn : Nat → Int64} (tk : TKR K S V kd pl vl tn) {cn vn no : Nat → Int64} {na : Nat → Int32} {ce vi nm_ own : Int32} (hm : NM cn ce vn vi nm_ no na) {R : Int32 → (Nat → Int32) → (Nat → Int32) → (Nat → Int64) → (Nat → Int64) → Int32 → Int32 → Int32 → Int32 → Int32 → Int32 → Int32 → Int32 → (Nat → Int32) → Int32 → Option (Int32 × Int32 × Int32 × Int32 × Int32 × Int32 × Int32 × (Nat → Int32))} {D : Int} (hD : 0 ≤ D ∧ D ≤ 6) (hRb : ∀ (n s f fp g cl lf lp q1 : Int32) (code : Nat → Int32), PB K S n s f fp g → pa (R own K S V cn ce n cl s f fp lf lp code q1) (fun a => PB K S a.1 a.2.2.1 a.2.2.2.1 a.2.2.2.2.1 g)) (hR : ∀ (n2 m2 : Nat) (n s f fp cl lf lp t op g gp w wp codes waiting q : Int32) (code0 code ci waits : Nat → Int32), PA K pl n s f lf t g w wp → op.toInt = D + 1 → q.toInt = D + 1 → D + 1 ≤ 6 → pj (R own K S V cn ce n cl s f fp lf lp code0 q) (PX nm_ kd pl vl tn no na n2 m2 t op g gp w wp codes waiting code ci waits) (UU K S nm_ kd pl vl tn no na (D + 1) n NX)) {n0 q : Int32} (hq : q.toInt = D) : ∀ (k n2 m2 : Nat) (n s f fp cl lf lp t op g gp w wp codes waiting x2 : Int32) (code0 code ci waits : Nat → Int32), PA K pl n s f lf t g w wp → op.toInt = D → n0.toInt < n.toInt → x2.toInt ≤ n.toInt → 0 ≤ x2.toInt → (¬ K t.toNatClampNeg = 42 ∧ ¬ K t.toNatClampNeg = 47) → pj (f_X5_readSum_b7 R own K S V cn ce k n cl s f fp lf lp code0 q x2) (QX nm_ kd pl vl tn no na n2 m2 t op g gp w wp codes waiting code ci waits) (UU K S nm_ kd pl vl tn no na D n0 NX) := by
  intro k
  induction k with
  | zero => intro n2 m2 n s f fp cl lf lp t op g gp w wp codes waiting x2 code0 code ci waits _ _ _ _ _ _; exact pj_nl
  | succ k ih =>
  intro n2 m2 n s f fp cl lf lp t op g gp w wp codes waiting x2 code0 code ci waits h ho hn hx2 hx0 hno
  have h0 := h
  obtain ⟨rfl, h1, h2, rfl, rfl, rfl, rfl, h3⟩ := h
  have te : (n.toNatClampNeg : Int) = n.toInt := cl_k h1.1
  have kp := (tk.1 n.toNatClampNeg (by omega) h2).1
  have x21 := add_k (x := x2) (v := 1) (k := 1) rfl (by omega) (by omega)
  show pj (f_X5_readSum_b7_st (f_X5_readSum_b7 R own K S V cn ce k) R own K S V cn ce n cl 0 0 fp lf lp code0 q x2) _ _
  have go : ∀ (v t1 : Int32), ¬ (K n.toNatClampNeg).toInt = 3 ∧ ¬ (K n.toNatClampNeg).toInt = 4 → ∀ (m2 : Nat), pj (f_X5_readSum_b69 R (f_X5_readSum_b7 R own K S V cn ce k) own K S V cn ce n cl 0 0 fp lf lp code0 q x2 v) (f_X7_expression_b234 (f_X7_expression_b12 nm_ kd pl vl tn no na n2) nm_ kd pl vl tn no na n op 0 gp lf wp codes waiting code ci waits 0 1 t1) (UU K S nm_ kd pl vl tn no na D n0 NX) := by
    intro v t1 hk m2
    unfold f_X5_readSum_b69 f_X7_expression_b234
    refine pj_ckl (fun _ => pj_br4 (pa_T _) (fun y0 y1 y2 y3 _ => pj_ckr (fun _ => pj_ckr (fun _ => pj_nmr ?_))))
    refine pj_b5_3 (j_go tk h0 hk) (fun a0 a1 a2 a3 a4 b0 b1 b2 hj => ?_)
    rcases hj with ⟨_, hA, e1, _, _⟩ | ⟨hB, _⟩
    · change PA K pl a1 a2 a3 lf b0 b1 lf wp at hA
      change a1 = n + 1 at e1
      have l1 := PA_lt h0 e1
      have g0 : b1 = 0 := hA.2.2.2.2.2.1
      cases n2 with
      | zero => exact pj_nr
      | succ n2 =>
      show pj _ (f_X7_expression_b12_st (f_X7_expression_b12 nm_ kd pl vl tn no na n2) nm_ kd pl vl tn no na b0 op b1 b2 lf wp y0 (y1 + 1) y2 y3 _ 0 1) _
      unfold f_X7_expression_b12_st
      refine pj_ifr (fun z => absurd z (by decide)) (fun _ => pj_ifr (fun _ => ?_) (fun z => absurd g0 z))
      refine pj_bL8 (j_prod tk hm hD hRb hR n2 fuel hA ho hq) (fun c0 c1 c2 c3 c4 c5 c6 c7 b hJ => ?_)
      rcases hJ with ⟨n3, m3, t3, op3, g3, gp3, w3, wp3, codes3, waiting3, code3, ci3, waits3, hA3, ho3, l3, hx3, hQ⟩ | hB
      · change PA K pl c0 c2 c3 c5 t3 g3 w3 wp3 at hA3
        change a1.toInt < c0.toInt at l3
        exact pa_bd2 (pa_T _) (fun x0 x1 _ => pa_pj (ih n3 m3 _ _ _ _ _ _ _ _ _ _ _ _ _ _ _ _ _ _ _ _ hA3 ho3 (by omega) (by omega) (by omega) hx3) hQ)
      · change PB K S c0 c2 c3 c4 b.2.2.1 at hB
        exact pa_bd2 (pa_T _) (fun x0 x1 _ => pa_w (b_sum7 tk hRb k _ _ _ _ _ _ _ _ _ _ hB) (fun _ hc => Or.inr hc))
    · change PB K S a1 a2 a3 a4 b1 at hB
      exact pj_of (P := fun a => PB K S a.1 a.2.2.1 a.2.2.2.1 a.2.2.2.2.1 b1) (Q := fun b => FB b.2.2.1 b1) (pa_bd8 (b_prod tk hRb hB) (fun _ _ _ _ _ _ _ _ k2 => pa_bd2 (pa_T _) (fun _ _ _ => b_sum7 tk hRb k _ _ _ _ _ _ _ _ _ _ k2))) (r_12 (FB_rf hB) n2) (fun a b ha hb => Or.inr (PB_sub hb.1 ha))
  unfold f_X5_readSum_b7_st
  refine pj_ifl (fun z => ?_) (fun _ => pj_ifl (fun _ => pj_ckl (fun _ => ?_)) (fun z => absurd rfl z))
  · have := k_le (k := 403) rfl z
    omega
  have is0 : ∀ x, ¬ kd n.toNatClampNeg = x → pa (f_X7_is n 0 kd x) (fun o => o = 0) := fun x hx => pa_w (m_is kd n x) (fun o ho => ho.elim (fun z => absurd z.2 hx) (fun z => z.1))
  have is1 : ∀ x, kd n.toNatClampNeg = x → pa (f_X7_is n 0 kd x) (fun o => ¬ o = 0) := fun x hx => pa_w (m_is kd n x) (fun o ho => ho.elim (fun z => by rw [z.1]; decide) (fun z => absurd hx z.2))
  refine pj_ifl (fun ka => ?_) (fun ka => ?_)
  · have kx := (kp_43 kp).mp ka
    have n7 : ¬ kd n.toNatClampNeg = 7 := by rw [kx]; decide
    cases m2 with
    | zero => exact pj_nr
    | succ m2 =>
    show pj _ (f_X7_expression_b96_st (f_X7_expression_b96 (f_X7_expression_b12 nm_ kd pl vl tn no na n2) nm_ kd pl vl tn no na m2) (f_X7_expression_b12 nm_ kd pl vl tn no na n2) nm_ kd pl vl tn no na n op 0 gp lf wp codes waiting code ci waits 0) _
    unfold f_X7_expression_b96_st
    refine pj_br (is0 7 n7) (fun o hO => pj_ifr (fun _ => ?_) (fun z => absurd hO z))
    unfold f_X7_expression_b145
    refine pj_br (is1 8 kx) (fun o hO => pj_ifr (fun z => absurd z hO) (fun _ => ?_))
    unfold f_X5_readSum_b49 f_X7_expression_b186
    refine pj_ckl (fun _ => pj_ifr (fun z => absurd z (by decide)) (fun _ => ?_))
    refine pj_ifl (fun _ => ?_) (fun z => absurd ka z)
    exact pj_br (is0 10 (by rw [kx]; decide)) (fun o hO => pj_ifr (fun _ => pj_br (is0 15 (by rw [kx]; decide)) (fun o hO => pj_ifr (fun _ => go _ _ (by rw [ka]; decide) m2) (fun z => absurd hO z))) (fun z => absurd hO z))
  refine pj_ckl (fun _ => pj_ifl (fun kb => ?_) (fun kb => ?_))
  · have kx := (kp_45 kp).mp kb
    have n7 : ¬ kd n.toNatClampNeg = 7 := by rw [kx]; decide
    cases m2 with
    | zero => exact pj_nr
    | succ m2 =>
    show pj _ (f_X7_expression_b96_st (f_X7_expression_b96 (f_X7_expression_b12 nm_ kd pl vl tn no na n2) nm_ kd pl vl tn no na m2) (f_X7_expression_b12 nm_ kd pl vl tn no na n2) nm_ kd pl vl tn no na n op 0 gp lf wp codes waiting code ci waits 0) _
    unfold f_X7_expression_b96_st
    refine pj_br (is0 7 n7) (fun o hO => pj_ifr (fun _ => ?_) (fun z => absurd hO z))
    unfold f_X7_expression_b145
    refine pj_br (is0 8 (by rw [kx]; decide)) (fun o hO => pj_ifr (fun _ => ?_) (fun z => absurd hO z))
    refine pj_br (is1 9 kx) (fun o hO => pj_ifr (fun z => absurd z hO) (fun _ => ?_))
    unfold f_X5_readSum_b49 f_X7_expression_b186
    refine pj_ckl (fun _ => pj_ifr (fun z => absurd z (by decide)) (fun _ => ?_))
    refine pj_ifl (fun z => absurd z ka) (fun _ => ?_)
    exact pj_br (is0 10 (by rw [kx]; decide)) (fun o hO => pj_ifr (fun _ => pj_br (is0 15 (by rw [kx]; decide)) (fun o hO => pj_ifr (fun _ => go _ _ (by rw [kb]; decide) m2) (fun z => absurd hO z))) (fun z => absurd hO z))
  exact pj_sl (fun b hb => Or.inl ⟨n2, m2, n, op, 0, gp, lf, wp, codes, waiting, code, ci, waits, h0, ho, hn, ⟨hno.1, hno.2, ka, kb⟩, hb⟩)
theorem j_sum {K S kd pl vl : Nat → Int32} {V tn : Nat → Int64} (tk : TKR K S V kd pl vl tn) {cn vn no : Nat → Int64} {na : Nat → Int32} {ce vi nm_ own : Int32} (hm : NM cn ce vn vi nm_ no na) {R : Int32 → (Nat → Int32) → (Nat → Int32) → (Nat → Int64) → (Nat → Int64) → Int32 → Int32 → Int32 → Int32 → Int32 → Int32 → Int32 → Int32 → (Nat → Int32) → Int32 → Option (Int32 × Int32 × Int32 × Int32 × Int32 × Int32 × Int32 × (Nat → Int32))} {D : Int} (hD : 0 ≤ D ∧ D ≤ 6) (hRb : ∀ (n s f fp g cl lf lp q1 : Int32) (code : Nat → Int32), PB K S n s f fp g → pa (R own K S V cn ce n cl s f fp lf lp code q1) (fun a => PB K S a.1 a.2.2.1 a.2.2.2.1 a.2.2.2.2.1 g)) (hR : ∀ (n2 m2 : Nat) (n s f fp cl lf lp t op g gp w wp codes waiting q : Int32) (code0 code ci waits : Nat → Int32), PA K pl n s f lf t g w wp → op.toInt = D + 1 → q.toInt = D + 1 → D + 1 ≤ 6 → pj (R own K S V cn ce n cl s f fp lf lp code0 q) (PX nm_ kd pl vl tn no na n2 m2 t op g gp w wp codes waiting code ci waits) (UU K S nm_ kd pl vl tn no na (D + 1) n NX)) (n2 m2 : Nat) {n s f fp cl lf lp t op g gp w wp codes waiting q : Int32} {code0 code ci waits : Nat → Int32} (h : PA K pl n s f lf t g w wp) (ho : op.toInt = D) (hq : q.toInt = D) : pj (f_X5_readSum R own K S V cn ce n cl s f fp lf lp code0 q) (PX nm_ kd pl vl tn no na n2 m2 t op g gp w wp codes waiting code ci waits) (UU K S nm_ kd pl vl tn no na D n NX) := by
  unfold f_X5_readSum
  refine pj_bL8 (j_prod tk hm hD hRb hR n2 m2 h ho hq) (fun c0 c1 c2 c3 c4 c5 c6 c7 b hJ => ?_)
  rcases hJ with ⟨n3, m3, t3, op3, g3, gp3, w3, wp3, codes3, waiting3, code3, ci3, waits3, hA3, ho3, l3, hx3, hQ⟩ | hB
  · change PA K pl c0 c2 c3 c5 t3 g3 w3 wp3 at hA3
    change n.toInt < c0.toInt at l3
    have p0 := hA3.2.1
    have z0 : (0 : Int32).toInt = 0 := rfl
    have nt : c0.toInt = t3.toInt := by rw [PA_tn hA3]
    exact pa_pj (j_sum7 tk hm hD hRb hR hq fuel n3 m3 _ _ _ _ _ _ _ _ _ _ _ _ _ _ _ 0 _ _ _ _ hA3 ho3 l3 (by omega) (by omega) hx3) hQ
  · change PB K S c0 c2 c3 c4 b.2.2.1 at hB
    exact pa_w (b_sum7 tk hRb fuel _ _ _ _ _ _ _ _ _ _ hB) (fun _ hc => Or.inr hc)
theorem j_fLr {K S kd pl vl : Nat → Int32} {V tn : Nat → Int64} (tk : TKR K S V kd pl vl tn) {cn vn no : Nat → Int64} {na : Nat → Int32} {ce vi nm_ own : Int32} (hm : NM cn ce vn vi nm_ no na) : ∀ (d : Nat) (D : Int), 0 ≤ D ∧ D ≤ 6 → ∀ (n2 m2 : Nat) (n s f fp cl lf lp t op g gp w wp codes waiting q : Int32) (code0 code ci waits : Nat → Int32), PA K pl n s f lf t g w wp → op.toInt = D → q.toInt = D → pj (fLr d own K S V cn ce n cl s f fp lf lp code0 q) (PX nm_ kd pl vl tn no na n2 m2 t op g gp w wp codes waiting code ci waits) (UU K S nm_ kd pl vl tn no na D n NX) := by
  intro d
  induction d with
  | zero => intro D hD n2 m2 n s f fp cl lf lp t op g gp w wp codes waiting q code0 code ci waits _ _ _; exact pj_nl
  | succ d ih =>
    intro D hD n2 m2 n s f fp cl lf lp t op g gp w wp codes waiting q code0 code ci waits h ho hq
    show pj (f_X5_readSum (fLr d) own K S V cn ce n cl s f fp lf lp code0 q) _ _
    exact j_sum tk hm hD (b_fLr tk d) (fun n2 m2 n s f fp cl lf lp t op g gp w wp codes waiting q code0 code ci waits h ho hq h6 => ih (D + 1) ⟨by omega, h6⟩ n2 m2 n s f fp cl lf lp t op g gp w wp codes waiting q code0 code ci waits h ho hq) n2 m2 h ho hq
/-- a whole LAW -/
theorem j_expr {K S kd pl vl : Nat → Int32} {V tn : Nat → Int64} (tk : TKR K S V kd pl vl tn) {cn vn no : Nat → Int64} {na : Nat → Int32} {ce vi nm_ own : Int32} (hm : NM cn ce vn vi nm_ no na) {n s f fp cl lf lp t op g gp w wp codes waiting : Int32} {code0 code ci waits : Nat → Int32} (h : PA K pl n s f lf t g w wp) (ho : op = 0) : pj (fLr 7 own K S V cn ce n cl s f fp lf lp code0 0) (f_X7_expression nm_ kd pl vl tn no na t op g gp w wp codes waiting code ci waits) (fun a b => (PA K pl a.1 a.2.2.1 a.2.2.2.1 a.2.2.2.2.2.1 b.1 b.2.2.1 b.2.2.2.2.1 b.2.2.2.2.2.1 ∧ b.2.1 = 0 ∧ n.toInt < a.1.toInt) ∨ PB K S a.1 a.2.2.1 a.2.2.2.1 a.2.2.2.2.1 b.2.2.1) := by
  have z0 : (0 : Int32).toInt = 0 := rfl
  have g0 := h.2.2.2.2.2.1
  unfold f_X7_expression
  generalize fuel = N
  cases N with
  | zero => exact pj_nr
  | succ n2 =>
  show pj _ (f_X7_expression_b12_st (f_X7_expression_b12 nm_ kd pl vl tn no na n2) nm_ kd pl vl tn no na t op g gp w wp codes 0 code ci waits op 1) _
  unfold f_X7_expression_b12_st
  rw [ho]
  refine pj_ifr (fun z => absurd z (by decide)) (fun _ => pj_ifr (fun _ => ?_) (fun z => absurd g0 z))
  intro a b e1 e2
  have hJ := j_fLr tk hm 7 0 (by decide) n2 fuel _ _ _ _ _ _ _ _ _ _ _ _ _ _ _ _ _ _ _ _ h z0 z0 a b e1 e2
  rcases hJ with ⟨n3, m3, t3, op3, g3, gp3, w3, wp3, codes3, waiting3, code3, ci3, waits3, hA3, ho3, l3, hx3, hQ⟩ | hB
  · have g30 := hA3.2.2.2.2.2.1
    have tt3 := hA3.2.1
    have te3 : (t3.toNatClampNeg : Int) = t3.toInt := cl_k tt3.1
    have kp3 := (tk.1 t3.toNatClampNeg (by omega) hA3.2.2.1).1
    rw [g30] at hQ
    have key : pa (QX nm_ kd pl vl tn no na n3 m3 t3 op3 0 gp3 w3 wp3 codes3 waiting3 code3 ci3 waits3) (fun b => b.1 = t3 ∧ b.2.1 = op3 ∧ b.2.2.1 = 0 ∧ b.2.2.2.2.1 = w3 ∧ b.2.2.2.2.2.1 = wp3) := by
      cases m3 with
      | zero => exact pa_none
      | succ m3 =>
      show pa (f_X7_expression_b96_st (f_X7_expression_b96 (f_X7_expression_b12 nm_ kd pl vl tn no na n3) nm_ kd pl vl tn no na m3) (f_X7_expression_b12 nm_ kd pl vl tn no na n3) nm_ kd pl vl tn no na t3 op3 0 gp3 w3 wp3 codes3 waiting3 code3 ci3 waits3 0) _
      unfold f_X7_expression_b96_st
      have q5 := pa_w (q_145 (k12 := f_X7_expression_b12 nm_ kd pl vl tn no na n3) (nm_ := nm_) (na := na) (no := no) (op := op3) (gp := gp3) (w := w3) (wp := wp3) (codes := codes3) (waiting := waiting3) (code := code3) (ci := ci3) (waits := waits3) (pl := pl) (vl := vl) (tn := tn) kp3 hx3) (fun b hb => hb.1 (by omega))
      refine pa_bd (pa_T _) (fun o _ => pa_if (fun _ => q5) (fun _ => pa_if (fun _ => q5) (fun z => ?_)))
      have := nle_k (k := 0) rfl z
      omega
    obtain ⟨k1, k2, k3, k4, k5⟩ := key b hQ
    rw [g30] at hA3
    refine Or.inl ⟨?_, ?_, l3⟩
    · rw [k1, k3, k4, k5]; exact hA3
    · rw [k2]; exact z_of (k := 0) rfl ho3
  · exact Or.inr hB
