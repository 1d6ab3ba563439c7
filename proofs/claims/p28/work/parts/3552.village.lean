theorem G5_up {side vi a1 a2 b1 b2 : Int32} {vc nd mv mhm mnd : Nat → Int32} (h : G5 side vi vc nd mv mhm mnd) (h6 : vi.toInt < 6) (e1 : a1 = a2) (e2 : b1 = b2) : G5 side (vi + 1) (upd vc vi.toNatClampNeg a1) (upd nd vi.toNatClampNeg b1) (upd mv side.toNatClampNeg (vi + 1)) (upd mhm (6 * side.toNatClampNeg + vi.toNatClampNeg) a2) (upd mnd (6 * side.toNatClampNeg + vi.toNatClampNeg) b2) := by
  obtain ⟨h1, h2, h3, h4, h5⟩ := h
  have e : (vi.toNatClampNeg : Int) = vi.toInt := cl_k h2.1
  have t := add_k (x := vi) (v := 1) (k := 1) rfl (by omega) (by omega)
  exact ⟨h1, ⟨by omega, by omega⟩, up_at, AL_up h4 e1 (Or.inr ⟨by omega, by omega⟩), AL_up h5 e2 (Or.inr ⟨by omega, by omega⟩)⟩
theorem r_72 {kd pl : Nat → Int32} {tn no : Nat → Int64} {side t op g gp w wp nm_ codes waiting x1 x2 c : Int32} {na mv mhm mnd lwf lwt code ci waits : Nat → Int32} (h : FB g c) : pa (f_X7_tellVillage_b72 side kd pl tn t op g gp w wp nm_ codes waiting no na mv mhm mnd lwf lwt code ci waits x1 x2) (fun b => FB b.2.2.1 c) := by
  unfold f_X7_tellVillage_b72
  exact pa_ck (fun _ => pa_nx (pa_bd3 (r_must h) (fun _ _ _ k => pa_if (fun z => absurd z (FB_le k)) (fun _ => pa_some k))))
theorem j_readVillage {K S kd pl vl : Nat → Int32} {V tn : Nat → Int64} (tk : TKR K S V kd pl vl tn) {side n s f fp lf lp t op g gp w wp ce vi pp ri ra nm_ codes waiting cl own : Int32} {cn vn no : Nat → Int64} {room water ways pf pt pw rc rl rw rs rn vc nd na mc mro mwa mwy mp mo mh mw mr mrc mrl mrw mrs mra mrn mv mhm mnd lwf lwt code ci waits le code0 : Nat → Int32} (h : GA K pl side n s f lf cn ce vn vi room water ways pp pf pt pw ri rc rl rw rs ra rn vc nd t op g w wp nm_ no na mc mro mwa mwy mp mo mh mw mr mrc mrl mrw mrs mra mrn mv mhm mnd) (hk : K t.toNatClampNeg = 9) : pj (f_X5_readVillage K S V cn ce n cl own s f fp lf lp vn vi vc nd le code0) (f_X7_tell side kd pl vl tn t op g gp w wp nm_ codes waiting no na mc mro mwa mwy mp mo mh mw mr mrc mrl mrw mrs mra mrn mv mhm mnd lwf lwt code ci waits) (fun a b => (GA K pl side a.1 a.2.2.2.1 a.2.2.2.2.1 a.2.2.2.2.2.2.1 cn ce a.2.2.2.2.2.2.2.2.1 a.2.2.2.2.2.2.2.2.2.1 room water ways pp pf pt pw ri rc rl rw rs ra rn a.2.2.2.2.2.2.2.2.2.2.1 a.2.2.2.2.2.2.2.2.2.2.2.1 b.1 b.2.1 b.2.2.1 b.2.2.2.2.1 b.2.2.2.2.2.1 b.2.2.2.2.2.2.1 b.2.2.2.2.2.2.2.2.2.1 b.2.2.2.2.2.2.2.2.2.2.1 b.2.2.2.2.2.2.2.2.2.2.2.1 b.2.2.2.2.2.2.2.2.2.2.2.2.1 b.2.2.2.2.2.2.2.2.2.2.2.2.2.1 b.2.2.2.2.2.2.2.2.2.2.2.2.2.2.1 b.2.2.2.2.2.2.2.2.2.2.2.2.2.2.2.1 b.2.2.2.2.2.2.2.2.2.2.2.2.2.2.2.2.1 b.2.2.2.2.2.2.2.2.2.2.2.2.2.2.2.2.2.1 b.2.2.2.2.2.2.2.2.2.2.2.2.2.2.2.2.2.2.1 b.2.2.2.2.2.2.2.2.2.2.2.2.2.2.2.2.2.2.2.1 b.2.2.2.2.2.2.2.2.2.2.2.2.2.2.2.2.2.2.2.2.1 b.2.2.2.2.2.2.2.2.2.2.2.2.2.2.2.2.2.2.2.2.2.1 b.2.2.2.2.2.2.2.2.2.2.2.2.2.2.2.2.2.2.2.2.2.2.1 b.2.2.2.2.2.2.2.2.2.2.2.2.2.2.2.2.2.2.2.2.2.2.2.1 b.2.2.2.2.2.2.2.2.2.2.2.2.2.2.2.2.2.2.2.2.2.2.2.2.1 b.2.2.2.2.2.2.2.2.2.2.2.2.2.2.2.2.2.2.2.2.2.2.2.2.2.1 b.2.2.2.2.2.2.2.2.2.2.2.2.2.2.2.2.2.2.2.2.2.2.2.2.2.2.1 b.2.2.2.2.2.2.2.2.2.2.2.2.2.2.2.2.2.2.2.2.2.2.2.2.2.2.2.1 b.2.2.2.2.2.2.2.2.2.2.2.2.2.2.2.2.2.2.2.2.2.2.2.2.2.2.2.2.1 ∧ n.toInt < (a.1).toInt) ∨ PB K S a.1 a.2.2.2.1 a.2.2.2.2.1 a.2.2.2.2.2.1 b.2.2.1) := by
  obtain ⟨hA, hop, hN, h1, h2, h3, h4, h5⟩ := h
  have tt := hA.2.1
  have te : (t.toNatClampNeg : Int) = t.toInt := cl_k tt.1
  have kdt : kd t.toNatClampNeg = 24 := (kp_9 (tk.1 t.toNatClampNeg (by omega) hA.2.2.1).1).mp hk
  have ix : ((6 : Int32) * side + vi).toNatClampNeg = 6 * side.toNatClampNeg + vi.toNatClampNeg := ix_e (M := 6) h1.1 ⟨h5.2.1.1, by have := h5.2.1; omega⟩ rfl (by decide)
  unfold f_X5_readVillage f_X7_tell
  refine pj_ckr (fun _ => pj_ifr (fun z => absurd (kdt.symm.trans z) (by decide)) (fun _ => pj_ifr (fun z => absurd (kdt.symm.trans z) (by decide)) (fun _ => pj_ifr (fun z => absurd (kdt.symm.trans z) (by decide)) (fun _ => pj_ifr (fun z => absurd (kdt.symm.trans z) (by decide)) (fun _ => pj_ifr (fun _ => pj_ckr (fun _ => ?_)) (fun z => absurd kdt z))))))
  rw [h5.2.2.1]
  refine pj_b5_3 (j_opens tk hA (by rw [hk]; decide) (by have hm := h5.2.1.2; have em : (6 : Int32).toInt = 6 := rfl; omega)) (fun a1_0 a1_1 a1_2 a1_3 a1_4 b1_0 b1_1 b1_2 hj1 => ?_)
  rcases hj1 with ⟨v1, h1x, m1, _, _⟩ | ⟨q1, _⟩
  · change a1_0 = 1 at v1
    change PA K pl a1_1 a1_2 a1_3 lf b1_0 b1_1 w wp at h1x
    have n1 : a1_1.toInt = n.toInt + 1 := PA_nx hA m1
    have z1 : b1_1 = 0 := h1x.2.2.2.2.2.1
    refine pj_ifl (fun z => absurd (v1.symm.trans z) (by decide)) (fun _ => pj_ifr (fun _ => ?_) (fun z => absurd z1 z))
    refine pj_bR19 (J := (fun (a : Int32 × Int32 × Int32 × Int32 × Int32 × Int32 × Int32 × Int32 × (Nat → Int64) × Int32 × (Nat → Int32) × (Nat → Int32) × (Nat → Int32) × (Nat → Int32)) (b : Int32 × Int32 × Int32 × Int32 × Int32 × Int32 × Int32 × Int32 × Int32 × (Nat → Int64) × (Nat → Int32) × (Nat → Int32) × (Nat → Int32) × (Nat → Int32) × (Nat → Int32) × (Nat → Int32) × (Nat → Int32) × (Nat → Int32) × (Nat → Int32)) => (PA K pl a.1 a.2.2.2.1 a.2.2.2.2.1 a.2.2.2.2.2.2.1 b.1 b.2.2.1 b.2.2.2.2.1 b.2.2.2.2.2.1 ∧ b.2.1 = 0 ∧ NM cn ce a.2.2.2.2.2.2.2.2.1 a.2.2.2.2.2.2.2.2.2.1 b.2.2.2.2.2.2.1 b.2.2.2.2.2.2.2.2.2.1 b.2.2.2.2.2.2.2.2.2.2.1 ∧ G5 side a.2.2.2.2.2.2.2.2.2.1 a.2.2.2.2.2.2.2.2.2.2.1 a.2.2.2.2.2.2.2.2.2.2.2.1 b.2.2.2.2.2.2.2.2.2.2.2.1 b.2.2.2.2.2.2.2.2.2.2.2.2.1 b.2.2.2.2.2.2.2.2.2.2.2.2.2.1 ∧ n.toInt < a.1.toInt) ∨ PB K S a.1 a.2.2.2.1 a.2.2.2.2.1 a.2.2.2.2.2.1 b.2.2.1)) ?_ ?_
    · unfold f_X7_tellVillage
      refine pj_ckr (fun _ => pj_nmr ?_)
      rw [h5.2.2.1, ix]
      refine pj_b7_6 (j_newName tk hN h1x) (fun a2_0 a2_1 a2_2 a2_3 a2_4 a2_5 a2_6 b2_0 b2_1 b2_2 b2_3 b2_4 b2_5 hj2 => ?_)
      rcases hj2 with ⟨h2x, v2, m2, _⟩ | q2
      · change PA K pl a2_1 a2_2 a2_3 a2_5 b2_1 b2_2 b2_4 b2_5 at h2x
        change NR a2_0 (tn b2_0.toNatClampNeg) at v2
        have n2 : a2_1.toInt = a1_1.toInt + 1 := PA_nx h1x m2
        refine pj_ckl (fun i6 => pj_nml ?_)
        have lt6 := (inb_lt i6).2
        refine pj_b7_6 (j_knownCell tk hN h2x) (fun a3_0 a3_1 a3_2 a3_3 a3_4 a3_5 a3_6 b3_0 b3_1 b3_2 b3_3 b3_4 b3_5 hj3 => ?_)
        rcases hj3 with ⟨h3x, v3, u3, m3, _⟩ | ⟨q3, qs3⟩
        · change PA K pl a3_1 a3_2 a3_3 a3_5 b3_1 b3_2 b3_4 b3_5 at h3x
          change a3_0 = b3_0 at v3
          change a3_0 = -1 ∨ (0 ≤ a3_0.toInt ∧ a3_0.toInt < ce.toInt ∧ a3_5 = a2_5 ∧ b3_4 = b2_4 ∧ b3_5 = b2_5) at u3
          have n3 : a3_1.toInt = a2_1.toInt + 1 := PA_nx h2x m3
          refine pj_ckl (fun _ => pj_nml (pj_ckr (fun _ => pj_nmr ?_)))
          refine pj_b7_6 (j_number tk h3x) (fun a4_0 a4_1 a4_2 a4_3 a4_4 a4_5 a4_6 b4_0 b4_1 b4_2 b4_3 b4_4 b4_5 hj4 => ?_)
          rcases hj4 with ⟨h4x, v4, m4, _⟩ | q4
          · change PA K pl a4_1 a4_2 a4_3 a4_5 b4_1 b4_2 b4_4 b4_5 at h4x
            change a4_0 = b4_0 at v4
            have n4 : a4_1.toInt = a3_1.toInt + 1 := PA_nx h3x m4
            refine pj_ckl (fun _ => pj_nml (pj_ckr (fun _ => pj_nmr ?_)))
            refine pj_b5_3 (j_accept tk h4x (q5 := 61) (q7 := 5) kp_61 (by decide)) (fun a5_0 a5_1 a5_2 a5_3 a5_4 b5_0 b5_1 b5_2 hj5 => ?_)
            rcases hj5 with ⟨v5, h5x, m5, _, _⟩ | ⟨q5, _⟩
            · change PA K pl a5_1 a5_2 a5_3 a4_5 b5_0 b5_1 b4_4 b4_5 at h5x
              have n5 : a5_1.toInt = a4_1.toInt + 1 := PA_nx h4x m5
              have z5 : b5_1 = 0 := h5x.2.2.2.2.2.1
              refine pj_ckr (fun _ => pj_nmr (pj_ifr (fun _ => ?_) (fun z => absurd z5 z)))
              refine pj_b8_11 (j_expr tk hN h5x hop) (fun a6_0 a6_1 a6_2 a6_3 a6_4 a6_5 a6_6 a6_7 b6_0 b6_1 b6_2 b6_3 b6_4 b6_5 b6_6 b6_7 b6_8 b6_9 b6_10 hj6 => ?_)
              rcases hj6 with ⟨h6x, v6, n6⟩ | q6
              · change PA K pl a6_0 a6_2 a6_3 a6_5 b6_0 b6_2 b6_4 b6_5 at h6x
                change b6_1 = 0 at v6
                change a5_1.toInt < a6_0.toInt at n6
                unfold f_X7_tellVillage_b72
                refine pj_ckr (fun _ => pj_nmr ?_)
                refine pj_b5_3 (j_accept tk h6x (q5 := 59) (q7 := 4) kp_59 (by decide)) (fun a7_0 a7_1 a7_2 a7_3 a7_4 b7_0 b7_1 b7_2 hj7 => ?_)
                rcases hj7 with ⟨v7, h7x, m7, _, _⟩ | ⟨q7, _⟩
                · change PA K pl a7_1 a7_2 a7_3 a6_5 b7_0 b7_1 b6_4 b6_5 at h7x
                  have n7 : a7_1.toInt = a6_0.toInt + 1 := PA_nx h6x m7
                  have z7 : b7_1 = 0 := h7x.2.2.2.2.2.1
                  refine pj_ckl (fun _ => pj_nml (pj_ifr (fun _ => pj_br3 m_notes (fun y0 y1 y2 hy => ?_)) (fun z => absurd (le_0 z7) z)))
                  cases hy
                  rw [h5.2.2.1]
                  refine pj_ckr (fun _ => pj_ckr (fun _ => pj_nmr (pj_ss (Or.inl ⟨h7x, v6, NM_v hN v2 lt6, G5_up h5 lt6 v3 v4, ?_⟩))))
                  show n.toInt < a7_1.toInt
                  omega
                · change PB K S a7_1 a7_2 a7_3 a7_4 b7_1 at q7
                  exact pj_of (P := fun a => PB K S a.1 a.2.2.2.1 a.2.2.2.2.1 a.2.2.2.2.2.1 b7_1) (Q := fun b => FB b.2.2.1 b7_1) (pa_ck (fun _ => pa_nx (pa_some q7))) (pa_if (fun z => absurd z (FB_le (FB_rf q7))) (fun _ => pa_some (FB_rf q7))) (fun a b ha hb => Or.inr (PB_sub hb.1 ha))
              · change PB K S a6_0 a6_2 a6_3 a6_4 b6_2 at q6
                exact pj_of (P := fun a => PB K S a.1 a.2.2.2.1 a.2.2.2.2.1 a.2.2.2.2.2.1 b6_2) (Q := fun b => FB b.2.2.1 b6_2) (pa_bd5 (b_accept tk q6 (by decide)) (fun _ _ _ _ _ k80 => pa_ck (fun _ => pa_nx (pa_some k80.1)))) (r_72 (FB_rf q6)) (fun a b ha hb => Or.inr (PB_sub hb.1 ha))
            · change PB K S a5_1 a5_2 a5_3 a5_4 b5_1 at q5
              exact pj_of (P := fun a => PB K S a.1 a.2.2.2.1 a.2.2.2.2.1 a.2.2.2.2.2.1 b5_1) (Q := fun b => FB b.2.2.1 b5_1) (pa_bd8 (b_fLr tk 7 _ _ _ _ _ _ _ _ _ _ q5) (fun _ _ _ _ _ _ _ _ k82 => pa_bd5 (b_accept tk k82 (by decide)) (fun _ _ _ _ _ k83 => pa_ck (fun _ => pa_nx (pa_some k83.1))))) (pa_ck (fun _ => pa_nx (pa_if (fun z => absurd z (FB_eq (FB_rf q5))) (fun _ => r_72 (FB_rf q5))))) (fun a b ha hb => Or.inr (PB_sub hb.1 ha))
          · change PB K S a4_1 a4_2 a4_3 a4_4 b4_2 at q4
            exact pj_of (P := fun a => PB K S a.1 a.2.2.2.1 a.2.2.2.2.1 a.2.2.2.2.2.1 b4_2) (Q := fun b => FB b.2.2.1 b4_2) (pa_ck (fun _ => pa_nx (pa_bd5 (b_accept tk q4 (by decide)) (fun _ _ _ _ _ k86 => pa_bd8 (b_fLr tk 7 _ _ _ _ _ _ _ _ _ _ k86.1) (fun _ _ _ _ _ _ _ _ k87 => pa_bd5 (b_accept tk k87 (by decide)) (fun _ _ _ _ _ k88 => pa_ck (fun _ => pa_nx (pa_some k88.1)))))))) (pa_ck (fun _ => pa_nx (pa_bd3 (r_must (FB_rf q4)) (fun _ _ _ k89 => pa_ck (fun _ => pa_nx (pa_if (fun z => absurd z (FB_eq k89)) (fun _ => r_72 k89))))))) (fun a b ha hb => Or.inr (PB_sub hb.1 ha))
        · change PB K S a3_1 a3_2 a3_3 a3_4 b3_2 at q3
          change ¬ a3_0 = -1 → a3_2 = 0 at qs3
          exact pj_of (P := fun a => PB K S a.1 a.2.2.2.1 a.2.2.2.2.1 a.2.2.2.2.2.1 b3_2) (Q := fun b => FB b.2.2.1 b3_2) (pa_ck (fun _ => pa_nx (pa_bd7 (b_number tk _ _ _ _ q3) (fun _ _ _ _ _ _ _ k92 => pa_ck (fun _ => pa_nx (pa_bd5 (b_accept tk k92 (by decide)) (fun _ _ _ _ _ k93 => pa_bd8 (b_fLr tk 7 _ _ _ _ _ _ _ _ _ _ k93.1) (fun _ _ _ _ _ _ _ _ k94 => pa_bd5 (b_accept tk k94 (by decide)) (fun _ _ _ _ _ k95 => pa_ck (fun _ => pa_nx (pa_some k95.1))))))))))) (pa_ck (fun _ => pa_nx (pa_bd6 (r_bounded (FB_rf q3)) (fun _ _ _ _ _ _ k96 => pa_ck (fun _ => pa_nx (pa_bd3 (r_must k96) (fun _ _ _ k97 => pa_ck (fun _ => pa_nx (pa_if (fun z => absurd z (FB_eq k97)) (fun _ => r_72 k97)))))))))) (fun a b ha hb => Or.inr (PB_sub hb.1 ha))
      · change PB K S a2_1 a2_2 a2_3 a2_4 b2_2 at q2
        exact pj_of (P := fun a => PB K S a.1 a.2.2.2.1 a.2.2.2.2.1 a.2.2.2.2.2.1 b2_2) (Q := fun b => FB b.2.2.1 b2_2) (pa_ck (fun _ => pa_nx (pa_bd7 (b_knownCell tk _ _ _ _ q2) (fun _ _ _ _ _ _ _ k100 => pa_ck (fun _ => pa_nx (pa_bd7 (b_number tk _ _ _ _ k100.1) (fun _ _ _ _ _ _ _ k101 => pa_ck (fun _ => pa_nx (pa_bd5 (b_accept tk k101 (by decide)) (fun _ _ _ _ _ k102 => pa_bd8 (b_fLr tk 7 _ _ _ _ _ _ _ _ _ _ k102.1) (fun _ _ _ _ _ _ _ _ k103 => pa_bd5 (b_accept tk k103 (by decide)) (fun _ _ _ _ _ k104 => pa_ck (fun _ => pa_nx (pa_some k104.1)))))))))))))) (pa_bd6 (r_cellAt (FB_rf q2)) (fun _ _ _ _ _ _ k105 => pa_ck (fun _ => pa_nx (pa_bd6 (r_bounded k105) (fun _ _ _ _ _ _ k106 => pa_ck (fun _ => pa_nx (pa_bd3 (r_must k106) (fun _ _ _ k107 => pa_ck (fun _ => pa_nx (pa_if (fun z => absurd z (FB_eq k107)) (fun _ => r_72 k107))))))))))) (fun a b ha hb => Or.inr (PB_sub hb.1 ha))
    · intro a b0 b1 b2 b3 b4 b5 b6 b7 b8 b9 b10 b11 b12 b13 b14 b15 b16 b17 b18 hJ
      rcases hJ with ⟨j1, jo, j2, j3, j4⟩ | jB
      · exact pa_some (Or.inl ⟨⟨j1, jo, j2, h1, h2, h3, h4, j3⟩, j4⟩)
      · exact pa_some (Or.inr jB)
  · change PB K S a1_1 a1_2 a1_3 a1_4 b1_1 at q1
    exact pj_of (P := fun a => PB K S a.1 a.2.2.2.1 a.2.2.2.2.1 a.2.2.2.2.2.1 b1_1) (Q := fun b => FB b.2.2.1 b1_1) (pa_if (fun _ => pa_some q1) (fun _ => pa_bd7 (b_newName tk _ _ _ _ _ _ q1) (fun _ _ _ _ _ _ _ k111 => pa_ck (fun _ => pa_nx (pa_bd7 (b_knownCell tk _ _ _ _ k111) (fun _ _ _ _ _ _ _ k112 => pa_ck (fun _ => pa_nx (pa_bd7 (b_number tk _ _ _ _ k112.1) (fun _ _ _ _ _ _ _ k113 => pa_ck (fun _ => pa_nx (pa_bd5 (b_accept tk k113 (by decide)) (fun _ _ _ _ _ k114 => pa_bd8 (b_fLr tk 7 _ _ _ _ _ _ _ _ _ _ k114.1) (fun _ _ _ _ _ _ _ _ k115 => pa_bd5 (b_accept tk k115 (by decide)) (fun _ _ _ _ _ k116 => pa_ck (fun _ => pa_nx (pa_some k116.1)))))))))))))))) (pa_if (fun z => absurd z (FB_eq (FB_rf q1))) (fun _ => pa_some (FB_rf q1))) (fun a b ha hb => Or.inr (PB_sub hb.1 ha))
