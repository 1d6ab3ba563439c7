/-! what stays alike over hold, restore, pour, tell, run -/
theorem pj_two_ {α β : Type} {f : Option α} {g : Option β} {R Q : α → β → Prop} (h : pj f g R) (k : pj f g Q) : pj f g (fun a b => R a b ∧ Q a b) := fun a b e1 e2 => ⟨h a b e1 e2, k a b e1 e2⟩
/-- a slot's row in the reference -/
def hsl (held : Nat → Int64) (s : Nat) : Nat → Int64 := fun j => held (60 * s + j)
theorem cl_60 {x1 x2 : Int32} {s i : Nat} (h1 : x1.toInt = (s : Int)) (hs : s ≤ 2) (h2 : x2.toInt = (i : Int)) (hi : i < 60) : (((60 : Int32) * x1) + x2).toNatClampNeg = 60 * s + i := by
  have e6 : (60 : Int32).toInt = 60 := rfl
  have t1 : ((60 : Int32) * x1).toInt = 60 * (s : Int) := by
    rw [Jvm.Kit.i32_mul (by rw [e6]; omega) (by rw [e6]; omega), e6, h1]
  have t : (((60 : Int32) * x1) + x2).toInt = ((60 : Int32) * x1).toInt + x2.toInt := Jvm.Kit.i32_add (by omega) (by omega)
  have e : ((((60 : Int32) * x1) + x2).toNatClampNeg : Int) = (((60 : Int32) * x1) + x2).toInt := cl_k (by omega)
  omega
theorem DA_frame {ce vi B : Int} {water seen took dry first total : Nat → Int32} {salt row row' : Nat → Int64} (hc : ce ≤ 12) (hv6 : vi ≤ 6) (h : DA ce vi B water salt seen took dry first total row) (h3 : ∀ j, j < 60 → row' j = row j) : DA ce vi B water salt seen took dry first total row' := DA_cp hc hv6 h (fun i _ => ⟨rfl, rfl, rfl⟩) (fun i _ => ⟨rfl, rfl, rfl, rfl⟩) h3
theorem m_ho30 {v_m_now : Nat → Int64} {x1 : Int32} {held0 : Nat → Int64} {s : Nat} (hs : s ≤ 2) (h1 : x1.toInt = (s : Int)) : ∀ (n : Nat) (v_m_held : Nat → Int64) (v_m_heldDay : Nat → Int32) (v_m_isHeld : Nat → Int32) (x2 : Int32) (i : Nat), x2.toInt = (i : Int) → i ≤ 60 → (∀ j, v_m_held j = if 60 * s ≤ j ∧ j < 60 * s + i then v_m_now (j - 60 * s) else held0 j) → pa (f_X7_hold_b30 v_m_now n v_m_held v_m_heldDay v_m_isHeld x1 x2) (fun o => ∀ j, o.2.1 j = if 60 * s ≤ j ∧ j < 60 * s + 60 then v_m_now (j - 60 * s) else held0 j) := by
  intro n
  induction n with
  | zero => intro v_m_held v_m_heldDay v_m_isHeld x2 i _ _ _; exact pa_none
  | succ n ih =>
    intro v_m_held v_m_heldDay v_m_isHeld x2 i h2 hi hI
    show pa (f_X7_hold_b30_st (f_X7_hold_b30 v_m_now n) v_m_now v_m_held v_m_heldDay v_m_isHeld x1 x2) _
    unfold f_X7_hold_b30_st
    refine pa_if (fun z => pa_some ?_) (fun z => pa_ck (fun _ => pa_ck (fun _ => pa_nm (fun a4 e4 => ?_))))
    · have := k_le (k := 60) rfl z
      have e6 : i = 60 := by omega
      rw [e6] at hI
      exact hI
    · have g := k_nle (k := 60) rfl z
      have t1 := add_k (x := x2) (v := 1) (k := 1) rfl (by omega) (by omega)
      have e : x2.toNatClampNeg = i := by have : (x2.toNatClampNeg : Int) = x2.toInt := cl_k (by omega); omega
      rw [cl_60 h1 hs h2 (by omega), e] at e4
      refine ih a4 _ _ (x2 + 1) (i + 1) (by omega) (by omega) (fun j => ?_)
      by_cases q : j = 60 * s + i
      · rw [q, e4, upL_at, if_pos (by omega), show 60 * s + i - 60 * s = i by omega]
      · rw [e4, upL_ne q, hI j]
        by_cases r : 60 * s ≤ j ∧ j < 60 * s + i
        · rw [if_pos r, if_pos (by omega)]
        · rw [if_neg r, if_neg (by omega)]
/-- what the SLOTS hold, alike -/
def SD7 (ce vi : Int) (held hd : Nat → Int32) (hw : Nat → Int64) (s0_water : Nat → Int32) (s0_salt : Nat → Int64) (s0_seen s0_took s0_dryDays s0_firstDry s0_total : Nat → Int32) (s1_water : Nat → Int32) (s1_salt : Nat → Int64) (s1_seen s1_took s1_dryDays s1_firstDry s1_total : Nat → Int32) (s2_water : Nat → Int32) (s2_salt : Nat → Int64) (s2_seen s2_took s2_dryDays s2_firstDry s2_total : Nat → Int32) : Prop := (¬ held 0 = 0 → DA ce vi (hd 0).toInt s0_water s0_salt s0_seen s0_took s0_dryDays s0_firstDry s0_total (hsl hw 0)) ∧ (¬ held 1 = 0 → DA ce vi (hd 1).toInt s1_water s1_salt s1_seen s1_took s1_dryDays s1_firstDry s1_total (hsl hw 1)) ∧ (¬ held 2 = 0 → DA ce vi (hd 2).toInt s2_water s2_salt s2_seen s2_took s2_dryDays s2_firstDry s2_total (hsl hw 2))
set_option maxHeartbeats 4000000 in
theorem j_hold7 {v_n_day : Int32} {v_n_water : Nat → Int32} {v_n_salt : Nat → Int64} {v_n_seen : Nat → Int32} {v_n_took : Nat → Int32} {v_n_dryDays : Nat → Int32} {v_n_firstDry : Nat → Int32} {v_n_total : Nat → Int32} {v_w_held : Nat → Int32} {v_s0_day : Int32} {v_s0_water : Nat → Int32} {v_s0_salt : Nat → Int64} {v_s0_seen : Nat → Int32} {v_s0_took : Nat → Int32} {v_s0_dryDays : Nat → Int32} {v_s0_firstDry : Nat → Int32} {v_s0_total : Nat → Int32} {v_s1_day : Int32} {v_s1_water : Nat → Int32} {v_s1_salt : Nat → Int64} {v_s1_seen : Nat → Int32} {v_s1_took : Nat → Int32} {v_s1_dryDays : Nat → Int32} {v_s1_firstDry : Nat → Int32} {v_s1_total : Nat → Int32} {v_s2_day : Int32} {v_s2_water : Nat → Int32} {v_s2_salt : Nat → Int64} {v_s2_seen : Nat → Int32} {v_s2_took : Nat → Int32} {v_s2_dryDays : Nat → Int32} {v_s2_firstDry : Nat → Int32} {v_s2_total : Nat → Int32} {q1 : Int32} {v_m_day : Int32} {v_m_now : Nat → Int64} {v_m_held : Nat → Int64} {v_m_heldDay : Nat → Int32} {v_m_isHeld : Nat → Int32} {ce vi : Int} (hc : ce ≤ 12) (hv6 : vi ≤ 6) (hd : v_n_day = v_m_day) (hDA : DA ce vi v_n_day.toInt v_n_water v_n_salt v_n_seen v_n_took v_n_dryDays v_n_firstDry v_n_total v_m_now) (hS : SD7 ce vi v_w_held v_m_heldDay v_m_held v_s0_water v_s0_salt v_s0_seen v_s0_took v_s0_dryDays v_s0_firstDry v_s0_total v_s1_water v_s1_salt v_s1_seen v_s1_took v_s1_dryDays v_s1_firstDry v_s1_total v_s2_water v_s2_salt v_s2_seen v_s2_took v_s2_dryDays v_s2_firstDry v_s2_total) : pj (f_X6_hold v_n_day v_n_water v_n_salt v_n_seen v_n_took v_n_dryDays v_n_firstDry v_n_total v_w_held v_s0_day v_s0_water v_s0_salt v_s0_seen v_s0_took v_s0_dryDays v_s0_firstDry v_s0_total v_s1_day v_s1_water v_s1_salt v_s1_seen v_s1_took v_s1_dryDays v_s1_firstDry v_s1_total v_s2_day v_s2_water v_s2_salt v_s2_seen v_s2_took v_s2_dryDays v_s2_firstDry v_s2_total q1) (f_X7_hold v_m_day v_m_now v_m_held v_m_heldDay v_m_isHeld q1) (fun a b => SD7 ce vi (a.2.1) (b.2.2.1) (b.2.1) (a.2.2.2.1) (a.2.2.2.2.1) (a.2.2.2.2.2.1) (a.2.2.2.2.2.2.1) (a.2.2.2.2.2.2.2.1) (a.2.2.2.2.2.2.2.2.1) (a.2.2.2.2.2.2.2.2.2.1) (a.2.2.2.2.2.2.2.2.2.2.2.1) (a.2.2.2.2.2.2.2.2.2.2.2.2.1) (a.2.2.2.2.2.2.2.2.2.2.2.2.2.1) (a.2.2.2.2.2.2.2.2.2.2.2.2.2.2.1) (a.2.2.2.2.2.2.2.2.2.2.2.2.2.2.2.1) (a.2.2.2.2.2.2.2.2.2.2.2.2.2.2.2.2.1) (a.2.2.2.2.2.2.2.2.2.2.2.2.2.2.2.2.2.1) (a.2.2.2.2.2.2.2.2.2.2.2.2.2.2.2.2.2.2.2.1) (a.2.2.2.2.2.2.2.2.2.2.2.2.2.2.2.2.2.2.2.2.1) (a.2.2.2.2.2.2.2.2.2.2.2.2.2.2.2.2.2.2.2.2.2.1) (a.2.2.2.2.2.2.2.2.2.2.2.2.2.2.2.2.2.2.2.2.2.2.1) (a.2.2.2.2.2.2.2.2.2.2.2.2.2.2.2.2.2.2.2.2.2.2.2.1) (a.2.2.2.2.2.2.2.2.2.2.2.2.2.2.2.2.2.2.2.2.2.2.2.2.1) (a.2.2.2.2.2.2.2.2.2.2.2.2.2.2.2.2.2.2.2.2.2.2.2.2.2)) := by
  subst hd
  obtain ⟨S0, S1, S2⟩ := id hS
  unfold f_X6_hold f_X7_hold
  have z0 : (0 : Int32).toInt = 0 := rfl
  have z2 : (2 : Int32).toInt = 2 := rfl
  have eDA : ∀ (water : Nat → Int32) (salt : Nat → Int64) (seen took dry first total : Nat → Int32) (row : Nat → Int64) (d : Int32), d = v_n_day → (∀ i, i < 12 → water i = v_n_water i ∧ salt i = v_n_salt i ∧ seen i = v_n_seen i) → (∀ i, i < 6 → took i = v_n_took i ∧ dry i = v_n_dryDays i ∧ first i = v_n_firstDry i ∧ total i = v_n_total i) → (∀ j, j < 60 → row j = v_m_now j) → DA ce vi d.toInt water salt seen took dry first total row := fun _ _ _ _ _ _ _ _ d ed h1 h2 h3 => by rw [ed]; exact DA_cp hc hv6 hDA h1 h2 h3
  refine pj_bl (c_isSlot q1) (fun o ho => pj_br (m_in q1 0 2) (fun p hp => ?_))
  rcases ho with ⟨rfl, ho⟩ | ⟨rfl, ho⟩
  · rcases hp with ⟨rfl, hp⟩ | ⟨rfl, hp⟩
    · refine pj_ifl (fun z => absurd z (by decide)) (fun _ => pj_ckl (fun _ => pj_ifr (fun z => absurd z (by decide)) (fun _ => pj_ckr (fun _ => pj_nrg (fun ih4 e4 => pj_ckr (fun _ => pj_nrg (fun hd6 e6 => ?_)))))))
      refine pj_ifl (fun c => ?_) (fun _ => pj_ifl (fun c => ?_) (fun _ => pj_ifl (fun c => ?_) (fun _ => pj_nl)))
      · have e : q1.toNatClampNeg = 0 := by rw [c]; rfl
        rw [e]
        rw [e] at e6
        refine pj_of (P := fun a => (a.2.1 = upd v_w_held 0 (vp_nar .boolean (1 : Int32))) ∧ (∀ i, i < 12 → (a.2.2.2.1) i = v_n_water i ∧ (a.2.2.2.2.1) i = v_n_salt i ∧ (a.2.2.2.2.2.1) i = v_n_seen i) ∧ (∀ i, i < 6 → (a.2.2.2.2.2.2.1) i = v_n_took i ∧ (a.2.2.2.2.2.2.2.1) i = v_n_dryDays i ∧ (a.2.2.2.2.2.2.2.2.1) i = v_n_firstDry i ∧ (a.2.2.2.2.2.2.2.2.2.1) i = v_n_total i) ∧ a.2.2.2.2.2.2.2.2.2.2.2.1 = v_s1_water ∧ a.2.2.2.2.2.2.2.2.2.2.2.2.1 = v_s1_salt ∧ a.2.2.2.2.2.2.2.2.2.2.2.2.2.1 = v_s1_seen ∧ a.2.2.2.2.2.2.2.2.2.2.2.2.2.2.1 = v_s1_took ∧ a.2.2.2.2.2.2.2.2.2.2.2.2.2.2.2.1 = v_s1_dryDays ∧ a.2.2.2.2.2.2.2.2.2.2.2.2.2.2.2.2.1 = v_s1_firstDry ∧ a.2.2.2.2.2.2.2.2.2.2.2.2.2.2.2.2.2.1 = v_s1_total ∧ a.2.2.2.2.2.2.2.2.2.2.2.2.2.2.2.2.2.2.2.1 = v_s2_water ∧ a.2.2.2.2.2.2.2.2.2.2.2.2.2.2.2.2.2.2.2.2.1 = v_s2_salt ∧ a.2.2.2.2.2.2.2.2.2.2.2.2.2.2.2.2.2.2.2.2.2.1 = v_s2_seen ∧ a.2.2.2.2.2.2.2.2.2.2.2.2.2.2.2.2.2.2.2.2.2.2.1 = v_s2_took ∧ a.2.2.2.2.2.2.2.2.2.2.2.2.2.2.2.2.2.2.2.2.2.2.2.1 = v_s2_dryDays ∧ a.2.2.2.2.2.2.2.2.2.2.2.2.2.2.2.2.2.2.2.2.2.2.2.2.1 = v_s2_firstDry ∧ a.2.2.2.2.2.2.2.2.2.2.2.2.2.2.2.2.2.2.2.2.2.2.2.2.2 = v_s2_total) (pa_bd8 c_bec (fun b0 b1 b2 b3 b4 b5 b6 b7 hb => pa_ck (fun _ => pa_nx (pa_some ⟨rfl, hb.2.1, hb.2.2, rfl, rfl, rfl, rfl, rfl, rfl, rfl, rfl, rfl, rfl, rfl, rfl, rfl, rfl⟩)))) (pa_and (m_h30 fuel _ _) (m_ho30 (held0 := v_m_held) (s := 0) (by decide) (by rw [c]; rfl) fuel _ _ _ 0 0 rfl (by decide) (fun j => by rw [if_neg (by omega)]))) (fun a b ha hb => ?_)
        obtain ⟨h0, h1, h2, g0, g1, g2, g3, g4, g5, g6, g7, g8, g9, g10, g11, g12, g13⟩ := ha
        obtain ⟨⟨_, k1, k2⟩, k3⟩ := hb
        have hsk : ∀ j, j < 60 → hsl b.2.1 0 j = v_m_now j := fun j hj => by
          show b.2.1 (60 * 0 + j) = _
          rw [k3, if_pos (by omega), show 60 * 0 + j - 60 * 0 = j by omega]
        have hso : ∀ s : Nat, ¬ s = 0 → ∀ j, j < 60 → hsl b.2.1 s j = hsl v_m_held s j := fun s hs j hj => by
          show b.2.1 (60 * s + j) = v_m_held (60 * s + j)
          rw [k3, if_neg (by omega)]
        have hdk : (b.2.2.1) 0 = v_n_day := by rw [k1, e6, up_at]
        have hdo : ∀ s : Nat, ¬ s = 0 → (b.2.2.1) s = v_m_heldDay s := fun s hs => by rw [k1, e6, up_ne hs]
        have hh : ∀ s : Nat, ¬ s = 0 → a.2.1 s = v_w_held s := fun s hs => by rw [h0, up_ne hs]
        rw [g0, g1, g2, g3, g4, g5, g6, g7, g8, g9, g10, g11, g12, g13]
        refine ⟨fun q => ?_, fun q => ?_, fun q => ?_⟩
        · exact eDA _ _ _ _ _ _ _ _ _ hdk h1 h2 hsk
        · rw [hh 1 (by decide)] at q
          rw [hdo 1 (by decide)]
          exact DA_frame hc hv6 (S1 q) (hso 1 (by decide))
        · rw [hh 2 (by decide)] at q
          rw [hdo 2 (by decide)]
          exact DA_frame hc hv6 (S2 q) (hso 2 (by decide))
      · have e : q1.toNatClampNeg = 1 := by rw [c]; rfl
        rw [e]
        rw [e] at e6
        refine pj_of (P := fun a => (a.2.1 = upd v_w_held 1 (vp_nar .boolean (1 : Int32))) ∧ (∀ i, i < 12 → (a.2.2.2.2.2.2.2.2.2.2.2.1) i = v_n_water i ∧ (a.2.2.2.2.2.2.2.2.2.2.2.2.1) i = v_n_salt i ∧ (a.2.2.2.2.2.2.2.2.2.2.2.2.2.1) i = v_n_seen i) ∧ (∀ i, i < 6 → (a.2.2.2.2.2.2.2.2.2.2.2.2.2.2.1) i = v_n_took i ∧ (a.2.2.2.2.2.2.2.2.2.2.2.2.2.2.2.1) i = v_n_dryDays i ∧ (a.2.2.2.2.2.2.2.2.2.2.2.2.2.2.2.2.1) i = v_n_firstDry i ∧ (a.2.2.2.2.2.2.2.2.2.2.2.2.2.2.2.2.2.1) i = v_n_total i) ∧ a.2.2.2.1 = v_s0_water ∧ a.2.2.2.2.1 = v_s0_salt ∧ a.2.2.2.2.2.1 = v_s0_seen ∧ a.2.2.2.2.2.2.1 = v_s0_took ∧ a.2.2.2.2.2.2.2.1 = v_s0_dryDays ∧ a.2.2.2.2.2.2.2.2.1 = v_s0_firstDry ∧ a.2.2.2.2.2.2.2.2.2.1 = v_s0_total ∧ a.2.2.2.2.2.2.2.2.2.2.2.2.2.2.2.2.2.2.2.1 = v_s2_water ∧ a.2.2.2.2.2.2.2.2.2.2.2.2.2.2.2.2.2.2.2.2.1 = v_s2_salt ∧ a.2.2.2.2.2.2.2.2.2.2.2.2.2.2.2.2.2.2.2.2.2.1 = v_s2_seen ∧ a.2.2.2.2.2.2.2.2.2.2.2.2.2.2.2.2.2.2.2.2.2.2.1 = v_s2_took ∧ a.2.2.2.2.2.2.2.2.2.2.2.2.2.2.2.2.2.2.2.2.2.2.2.1 = v_s2_dryDays ∧ a.2.2.2.2.2.2.2.2.2.2.2.2.2.2.2.2.2.2.2.2.2.2.2.2.1 = v_s2_firstDry ∧ a.2.2.2.2.2.2.2.2.2.2.2.2.2.2.2.2.2.2.2.2.2.2.2.2.2 = v_s2_total) (pa_bd8 c_bec (fun b0 b1 b2 b3 b4 b5 b6 b7 hb => pa_ck (fun _ => pa_nx (pa_some ⟨rfl, hb.2.1, hb.2.2, rfl, rfl, rfl, rfl, rfl, rfl, rfl, rfl, rfl, rfl, rfl, rfl, rfl, rfl⟩)))) (pa_and (m_h30 fuel _ _) (m_ho30 (held0 := v_m_held) (s := 1) (by decide) (by rw [c]; rfl) fuel _ _ _ 0 0 rfl (by decide) (fun j => by rw [if_neg (by omega)]))) (fun a b ha hb => ?_)
        obtain ⟨h0, h1, h2, g0, g1, g2, g3, g4, g5, g6, g7, g8, g9, g10, g11, g12, g13⟩ := ha
        obtain ⟨⟨_, k1, k2⟩, k3⟩ := hb
        have hsk : ∀ j, j < 60 → hsl b.2.1 1 j = v_m_now j := fun j hj => by
          show b.2.1 (60 * 1 + j) = _
          rw [k3, if_pos (by omega), show 60 * 1 + j - 60 * 1 = j by omega]
        have hso : ∀ s : Nat, ¬ s = 1 → ∀ j, j < 60 → hsl b.2.1 s j = hsl v_m_held s j := fun s hs j hj => by
          show b.2.1 (60 * s + j) = v_m_held (60 * s + j)
          rw [k3, if_neg (by omega)]
        have hdk : (b.2.2.1) 1 = v_n_day := by rw [k1, e6, up_at]
        have hdo : ∀ s : Nat, ¬ s = 1 → (b.2.2.1) s = v_m_heldDay s := fun s hs => by rw [k1, e6, up_ne hs]
        have hh : ∀ s : Nat, ¬ s = 1 → a.2.1 s = v_w_held s := fun s hs => by rw [h0, up_ne hs]
        rw [g0, g1, g2, g3, g4, g5, g6, g7, g8, g9, g10, g11, g12, g13]
        refine ⟨fun q => ?_, fun q => ?_, fun q => ?_⟩
        · rw [hh 0 (by decide)] at q
          rw [hdo 0 (by decide)]
          exact DA_frame hc hv6 (S0 q) (hso 0 (by decide))
        · exact eDA _ _ _ _ _ _ _ _ _ hdk h1 h2 hsk
        · rw [hh 2 (by decide)] at q
          rw [hdo 2 (by decide)]
          exact DA_frame hc hv6 (S2 q) (hso 2 (by decide))
      · have e : q1.toNatClampNeg = 2 := by rw [c]; rfl
        rw [e]
        rw [e] at e6
        refine pj_of (P := fun a => (a.2.1 = upd v_w_held 2 (vp_nar .boolean (1 : Int32))) ∧ (∀ i, i < 12 → (a.2.2.2.2.2.2.2.2.2.2.2.2.2.2.2.2.2.2.2.1) i = v_n_water i ∧ (a.2.2.2.2.2.2.2.2.2.2.2.2.2.2.2.2.2.2.2.2.1) i = v_n_salt i ∧ (a.2.2.2.2.2.2.2.2.2.2.2.2.2.2.2.2.2.2.2.2.2.1) i = v_n_seen i) ∧ (∀ i, i < 6 → (a.2.2.2.2.2.2.2.2.2.2.2.2.2.2.2.2.2.2.2.2.2.2.1) i = v_n_took i ∧ (a.2.2.2.2.2.2.2.2.2.2.2.2.2.2.2.2.2.2.2.2.2.2.2.1) i = v_n_dryDays i ∧ (a.2.2.2.2.2.2.2.2.2.2.2.2.2.2.2.2.2.2.2.2.2.2.2.2.1) i = v_n_firstDry i ∧ (a.2.2.2.2.2.2.2.2.2.2.2.2.2.2.2.2.2.2.2.2.2.2.2.2.2) i = v_n_total i) ∧ a.2.2.2.1 = v_s0_water ∧ a.2.2.2.2.1 = v_s0_salt ∧ a.2.2.2.2.2.1 = v_s0_seen ∧ a.2.2.2.2.2.2.1 = v_s0_took ∧ a.2.2.2.2.2.2.2.1 = v_s0_dryDays ∧ a.2.2.2.2.2.2.2.2.1 = v_s0_firstDry ∧ a.2.2.2.2.2.2.2.2.2.1 = v_s0_total ∧ a.2.2.2.2.2.2.2.2.2.2.2.1 = v_s1_water ∧ a.2.2.2.2.2.2.2.2.2.2.2.2.1 = v_s1_salt ∧ a.2.2.2.2.2.2.2.2.2.2.2.2.2.1 = v_s1_seen ∧ a.2.2.2.2.2.2.2.2.2.2.2.2.2.2.1 = v_s1_took ∧ a.2.2.2.2.2.2.2.2.2.2.2.2.2.2.2.1 = v_s1_dryDays ∧ a.2.2.2.2.2.2.2.2.2.2.2.2.2.2.2.2.1 = v_s1_firstDry ∧ a.2.2.2.2.2.2.2.2.2.2.2.2.2.2.2.2.2.1 = v_s1_total) (pa_bd8 c_bec (fun b0 b1 b2 b3 b4 b5 b6 b7 hb => pa_ck (fun _ => pa_nx (pa_some ⟨rfl, hb.2.1, hb.2.2, rfl, rfl, rfl, rfl, rfl, rfl, rfl, rfl, rfl, rfl, rfl, rfl, rfl, rfl⟩)))) (pa_and (m_h30 fuel _ _) (m_ho30 (held0 := v_m_held) (s := 2) (by decide) (by rw [c]; rfl) fuel _ _ _ 0 0 rfl (by decide) (fun j => by rw [if_neg (by omega)]))) (fun a b ha hb => ?_)
        obtain ⟨h0, h1, h2, g0, g1, g2, g3, g4, g5, g6, g7, g8, g9, g10, g11, g12, g13⟩ := ha
        obtain ⟨⟨_, k1, k2⟩, k3⟩ := hb
        have hsk : ∀ j, j < 60 → hsl b.2.1 2 j = v_m_now j := fun j hj => by
          show b.2.1 (60 * 2 + j) = _
          rw [k3, if_pos (by omega), show 60 * 2 + j - 60 * 2 = j by omega]
        have hso : ∀ s : Nat, ¬ s = 2 → ∀ j, j < 60 → hsl b.2.1 s j = hsl v_m_held s j := fun s hs j hj => by
          show b.2.1 (60 * s + j) = v_m_held (60 * s + j)
          rw [k3, if_neg (by omega)]
        have hdk : (b.2.2.1) 2 = v_n_day := by rw [k1, e6, up_at]
        have hdo : ∀ s : Nat, ¬ s = 2 → (b.2.2.1) s = v_m_heldDay s := fun s hs => by rw [k1, e6, up_ne hs]
        have hh : ∀ s : Nat, ¬ s = 2 → a.2.1 s = v_w_held s := fun s hs => by rw [h0, up_ne hs]
        rw [g0, g1, g2, g3, g4, g5, g6, g7, g8, g9, g10, g11, g12, g13]
        refine ⟨fun q => ?_, fun q => ?_, fun q => ?_⟩
        · rw [hh 0 (by decide)] at q
          rw [hdo 0 (by decide)]
          exact DA_frame hc hv6 (S0 q) (hso 0 (by decide))
        · rw [hh 1 (by decide)] at q
          rw [hdo 1 (by decide)]
          exact DA_frame hc hv6 (S1 q) (hso 1 (by decide))
        · exact eDA _ _ _ _ _ _ _ _ _ hdk h1 h2 hsk
    · omega
  · rcases hp with ⟨rfl, hp⟩ | ⟨rfl, hp⟩
    · omega
    · exact pj_ifl (fun _ => pj_ifr (fun _ => pj_ss hS) (fun z => absurd rfl z)) (fun z => absurd rfl z)
theorem m_re32 {v_m_held : Nat → Int64} {x1 : Int32} {s : Nat} (hs : s ≤ 2) (h1 : x1.toInt = (s : Int)) : ∀ (n : Nat) (v_m_day : Int32) (v_m_now : Nat → Int64) (x2 : Int32) (i : Nat), x2.toInt = (i : Int) → i ≤ 60 → (∀ j, j < i → v_m_now j = hsl v_m_held s j) → pa (f_X7_restore_b32 v_m_held n v_m_day v_m_now x1 x2) (fun o => ∀ j, j < 60 → o.2.2 j = hsl v_m_held s j) := by
  intro n
  induction n with
  | zero => intro v_m_day v_m_now x2 i _ _ _; exact pa_none
  | succ n ih =>
    intro v_m_day v_m_now x2 i h2 hi hI
    show pa (f_X7_restore_b32_st (f_X7_restore_b32 v_m_held n) v_m_held v_m_day v_m_now x1 x2) _
    unfold f_X7_restore_b32_st
    refine pa_if (fun z => pa_some (fun j hj => hI j ?_)) (fun z => pa_ck (fun _ => pa_ck (fun _ => pa_nm (fun a4 e4 => ?_))))
    · have := k_le (k := 60) rfl z
      omega
    · have g := k_nle (k := 60) rfl z
      have t1 := add_k (x := x2) (v := 1) (k := 1) rfl (by omega) (by omega)
      have e : x2.toNatClampNeg = i := by have : (x2.toNatClampNeg : Int) = x2.toInt := cl_k (by omega); omega
      rw [cl_60 h1 hs h2 (by omega), e] at e4
      refine ih _ a4 (x2 + 1) (i + 1) (by omega) (by omega) (fun j hj => ?_)
      by_cases q : j = i
      · rw [q, e4, upL_at]
        rfl
      · rw [e4, upL_ne q]
        exact hI j (by omega)
set_option maxHeartbeats 4000000 in
theorem j_restore7 {v_w_held : Nat → Int32} {v_s0_day : Int32} {v_s0_water : Nat → Int32} {v_s0_salt : Nat → Int64} {v_s0_seen : Nat → Int32} {v_s0_took : Nat → Int32} {v_s0_dryDays : Nat → Int32} {v_s0_firstDry : Nat → Int32} {v_s0_total : Nat → Int32} {v_s1_day : Int32} {v_s1_water : Nat → Int32} {v_s1_salt : Nat → Int64} {v_s1_seen : Nat → Int32} {v_s1_took : Nat → Int32} {v_s1_dryDays : Nat → Int32} {v_s1_firstDry : Nat → Int32} {v_s1_total : Nat → Int32} {v_s2_day : Int32} {v_s2_water : Nat → Int32} {v_s2_salt : Nat → Int64} {v_s2_seen : Nat → Int32} {v_s2_took : Nat → Int32} {v_s2_dryDays : Nat → Int32} {v_s2_firstDry : Nat → Int32} {v_s2_total : Nat → Int32} {v_n_day : Int32} {v_n_water : Nat → Int32} {v_n_salt : Nat → Int64} {v_n_seen : Nat → Int32} {v_n_took : Nat → Int32} {v_n_dryDays : Nat → Int32} {v_n_firstDry : Nat → Int32} {v_n_total : Nat → Int32} {q1 : Int32} {v_m_held : Nat → Int64} {v_m_heldDay : Nat → Int32} {v_m_isHeld : Nat → Int32} {v_m_day : Int32} {v_m_now : Nat → Int64} {ce vi : Int} (hc : ce ≤ 12) (hv6 : vi ≤ 6) (hDA : DA ce vi v_n_day.toInt v_n_water v_n_salt v_n_seen v_n_took v_n_dryDays v_n_firstDry v_n_total v_m_now) (hS : SD7 ce vi v_w_held v_m_heldDay v_m_held v_s0_water v_s0_salt v_s0_seen v_s0_took v_s0_dryDays v_s0_firstDry v_s0_total v_s1_water v_s1_salt v_s1_seen v_s1_took v_s1_dryDays v_s1_firstDry v_s1_total v_s2_water v_s2_salt v_s2_seen v_s2_took v_s2_dryDays v_s2_firstDry v_s2_total) (hsl_ : SL v_w_held v_m_isHeld v_m_heldDay v_s0_day v_s1_day v_s2_day) : pj (f_X6_restore v_w_held v_s0_day v_s0_water v_s0_salt v_s0_seen v_s0_took v_s0_dryDays v_s0_firstDry v_s0_total v_s1_day v_s1_water v_s1_salt v_s1_seen v_s1_took v_s1_dryDays v_s1_firstDry v_s1_total v_s2_day v_s2_water v_s2_salt v_s2_seen v_s2_took v_s2_dryDays v_s2_firstDry v_s2_total v_n_day v_n_water v_n_salt v_n_seen v_n_took v_n_dryDays v_n_firstDry v_n_total q1) (f_X7_restore v_m_held v_m_heldDay v_m_isHeld v_m_day v_m_now q1) (fun a b => DA ce vi (a.2.1).toInt a.2.2.1 a.2.2.2.1 a.2.2.2.2.1 a.2.2.2.2.2.1 a.2.2.2.2.2.2.1 a.2.2.2.2.2.2.2.1 a.2.2.2.2.2.2.2.2 b.2.2) := by
  obtain ⟨S0, S1, S2⟩ := hS
  unfold f_X6_restore f_X7_restore
  have z0 : (0 : Int32).toInt = 0 := rfl
  have z2 : (2 : Int32).toInt = 2 := rfl
  refine pj_bl (c_isSlot q1) (fun o ho => pj_br (m_in q1 0 2) (fun p hp => ?_))
  rcases ho with ⟨rfl, ho⟩ | ⟨rfl, ho⟩
  · rcases hp with ⟨rfl, hp⟩ | ⟨rfl, hp⟩
    · have e0 : (q1.toNatClampNeg : Int) = q1.toInt := cl_k (by omega)
      have eh := hsl_.1 q1.toNatClampNeg (by omega)
      refine pj_ifl (fun z => absurd z (by decide)) (fun _ => pj_ckl (fun _ => pj_ifr (fun z => absurd z (by decide)) (fun _ => pj_ckr (fun _ => ?_))))
      refine pj_ifl (fun c => pj_ifr (fun _ => pj_ss hDA) (fun z => absurd (eh.symm.trans c) z)) (fun c => pj_ckl (fun _ => pj_ifr (fun z => absurd (eh.trans z) c) (fun _ => pj_ckr (fun _ => ?_))))
      refine pj_ifl (fun k => ?_) (fun _ => pj_ifl (fun k => ?_) (fun _ => pj_ifl (fun k => ?_) (fun _ => pj_nl)))
      · have e : q1.toNatClampNeg = 0 := by rw [k]; rfl
        rw [e] at c ⊢
        refine pj_of (P := fun a => a.2.1 = v_s0_day ∧ (∀ i, i < 12 → a.2.2.1 i = v_s0_water i ∧ a.2.2.2.1 i = v_s0_salt i ∧ a.2.2.2.2.1 i = v_s0_seen i) ∧ ∀ i, i < 6 → a.2.2.2.2.2.1 i = v_s0_took i ∧ a.2.2.2.2.2.2.1 i = v_s0_dryDays i ∧ a.2.2.2.2.2.2.2.1 i = v_s0_firstDry i ∧ a.2.2.2.2.2.2.2.2 i = v_s0_total i) (pa_bd8 c_bec (fun b0 b1 b2 b3 b4 b5 b6 b7 hb => pa_some hb)) (m_re32 (s := 0) (by decide) (by rw [k]; rfl) fuel _ _ 0 0 rfl (by decide) (fun j hj => absurd hj (Nat.not_lt_zero j))) (fun a b ha hb => ?_)
        obtain ⟨h0, h1, h2⟩ := ha
        rw [h0, hsl_.2.1 c]
        exact DA_cp hc hv6 (S0 c) h1 h2 hb
      · have e : q1.toNatClampNeg = 1 := by rw [k]; rfl
        rw [e] at c ⊢
        refine pj_of (P := fun a => a.2.1 = v_s1_day ∧ (∀ i, i < 12 → a.2.2.1 i = v_s1_water i ∧ a.2.2.2.1 i = v_s1_salt i ∧ a.2.2.2.2.1 i = v_s1_seen i) ∧ ∀ i, i < 6 → a.2.2.2.2.2.1 i = v_s1_took i ∧ a.2.2.2.2.2.2.1 i = v_s1_dryDays i ∧ a.2.2.2.2.2.2.2.1 i = v_s1_firstDry i ∧ a.2.2.2.2.2.2.2.2 i = v_s1_total i) (pa_bd8 c_bec (fun b0 b1 b2 b3 b4 b5 b6 b7 hb => pa_some hb)) (m_re32 (s := 1) (by decide) (by rw [k]; rfl) fuel _ _ 0 0 rfl (by decide) (fun j hj => absurd hj (Nat.not_lt_zero j))) (fun a b ha hb => ?_)
        obtain ⟨h0, h1, h2⟩ := ha
        rw [h0, hsl_.2.2.1 c]
        exact DA_cp hc hv6 (S1 c) h1 h2 hb
      · have e : q1.toNatClampNeg = 2 := by rw [k]; rfl
        rw [e] at c ⊢
        refine pj_of (P := fun a => a.2.1 = v_s2_day ∧ (∀ i, i < 12 → a.2.2.1 i = v_s2_water i ∧ a.2.2.2.1 i = v_s2_salt i ∧ a.2.2.2.2.1 i = v_s2_seen i) ∧ ∀ i, i < 6 → a.2.2.2.2.2.1 i = v_s2_took i ∧ a.2.2.2.2.2.2.1 i = v_s2_dryDays i ∧ a.2.2.2.2.2.2.2.1 i = v_s2_firstDry i ∧ a.2.2.2.2.2.2.2.2 i = v_s2_total i) (pa_bd8 c_bec (fun b0 b1 b2 b3 b4 b5 b6 b7 hb => pa_some hb)) (m_re32 (s := 2) (by decide) (by rw [k]; rfl) fuel _ _ 0 0 rfl (by decide) (fun j hj => absurd hj (Nat.not_lt_zero j))) (fun a b ha hb => ?_)
        obtain ⟨h0, h1, h2⟩ := ha
        rw [h0, hsl_.2.2.2 c]
        exact DA_cp hc hv6 (S2 c) h1 h2 hb
    · omega
  · rcases hp with ⟨rfl, hp⟩ | ⟨rfl, hp⟩
    · omega
    · exact pj_ifl (fun _ => pj_ifr (fun _ => pj_ss hDA) (fun z => absurd rfl z)) (fun z => absurd rfl z)
theorem j_pour7 {live q1 q2 : Int32} {ce : Int32} {vi B : Int} {water mc seen took dry first total : Nat → Int32} {salt now : Nat → Int64} (hc : mc live.toNatClampNeg = ce) (h : 0 ≤ ce.toInt ∧ ce.toInt ≤ 12) (hDA : DA ce.toInt vi B water salt seen took dry first total now) : pj (f_X6_pour ce water q1 q2) (f_X7_pour live mc now q1 q2) (fun a b => DA ce.toInt vi B a.2 salt seen took dry first total b.2) := by
  unfold f_X6_pour f_X7_pour
  have z0 : (0 : Int32).toInt = 0 := rfl
  have z9 : (9999 : Int32).toInt = 9999 := rfl
  refine pj_bl (c_isCell ce q1) (fun o ho => pj_br (m_isCell hc h) (fun p hp => ?_))
  rcases ho with ⟨rfl, ho⟩ | ⟨rfl, ho⟩
  · rcases hp with ⟨rfl, hp⟩ | ⟨rfl, hp⟩
    · refine pj_ifl (fun z => absurd z (by decide)) (fun _ => pj_ifr (fun z => absurd z (by decide)) (fun _ => pj_br (m_in q2 0 9999) (fun r hr => ?_)))
      rcases hr with ⟨rfl, hr⟩ | ⟨rfl, hr⟩
      · refine pj_ifl (fun c => ?_) (fun c => pj_ifl (fun _ => pj_ckl (fun _ => pj_nlg (fun w6 e6 => pj_ifr (fun z => absurd z (by decide)) (fun _ => pj_ckr (fun _ => pj_nrg (fun r6 f6 => pj_ss ?_)))))) (fun d => ?_))
        · have := lt_k (k := 0) rfl c
          omega
        · have eq1 : (q1.toNatClampNeg : Int) = q1.toInt := cl_k (by omega)
          obtain ⟨D1, D2, D3⟩ := hDA
          have r0 : ∀ j, ¬ j = q1.toNatClampNeg → r6 j = now j := fun j hj => by rw [f6, upL_ne hj]
          refine ⟨fun c hc2 => ?_, fun c hc2 => ?_, fun v hv => ?_⟩
          · show r6 c = (w6 c).toInt64 ∧ r6 (12 + c) = salt c
            rw [r0 (12 + c) (by omega)]
            by_cases q : c = q1.toNatClampNeg
            · rw [q, f6, upL_at, e6, up_at]
              rw [← q]
              exact ⟨rfl, (D1 c hc2).2⟩
            · rw [r0 c q, e6, up_ne q]
              exact D1 c hc2
          · show r6 (24 + c) = _
            rw [r0 _ (by omega)]
            exact D2 c hc2
          · obtain ⟨v1, v2, v3, v4, v5⟩ := D3 v hv
            refine ⟨?_, ?_, ?_, ?_, v5⟩
            · show r6 (36 + v) = _
              rw [r0 _ (by omega)]; exact v1
            · show r6 (42 + v) = _
              rw [r0 _ (by omega)]; exact v2
            · show r6 (48 + v) = _
              rw [r0 _ (by omega)]; exact v3
            · show (r6 (54 + v)).toInt32 = _
              rw [r0 _ (by omega)]; exact v4
        · have := nle_k (k := 9999) rfl d
          omega
      · refine pj_ifr (fun _ => ?_) (fun z => absurd rfl z)
        refine pj_ifl (fun _ => pj_ss hDA) (fun c => pj_ifl (fun d => ?_) (fun _ => pj_ss hDA))
        have := nlt_k (k := 0) rfl c
        have := le_k (k := 9999) rfl d
        omega
    · omega
  · rcases hp with ⟨rfl, hp⟩ | ⟨rfl, hp⟩
    · omega
    · exact pj_ifl (fun _ => pj_ifr (fun _ => pj_ss hDA) (fun z => absurd rfl z)) (fun z => absurd rfl z)
set_option maxHeartbeats 8000000 in
theorem j_runb {v_g_cells : Int32} {v_g_passes : Int32} {v_g_rivers : Int32} {v_g_villages : Int32} {v_g_rains : Int32} {v_g_room : Nat → Int32} {v_g_passFrom : Nat → Int32} {v_g_passTo : Nat → Int32} {v_g_riverCell : Nat → Int32} {v_g_riverLevel : Nat → Int32} {v_g_riverSalt : Nat → Int32} {v_g_villageCell : Nat → Int32} {v_g_need : Nat → Int32} {v_g_lawEnd : Nat → Int32} {v_g_code : Nat → Int32} {v_p_pumpTakes : Int32} {v_p_pumpFrom : Int32} {v_p_pumpTo : Int32} {v_m_live : Int32} {v_m_changedAt : Int32} {v_m_pumpMuch : Int32} {v_m_pumpFrom : Int32} {v_m_pumpTo : Int32} {v_m_cells : Nat → Int32} {v_m_room : Nat → Int32} {v_m_passes : Nat → Int32} {v_m_passOne : Nat → Int32} {v_m_passOther : Nat → Int32} {v_m_rivers : Nat → Int32} {v_m_riverCell : Nat → Int32} {v_m_riverLevel : Nat → Int32} {v_m_riverWide : Nat → Int32} {v_m_riverSalt : Nat → Int32} {v_m_rains : Nat → Int32} {v_m_villages : Nat → Int32} {v_m_home : Nat → Int32} {v_m_need : Nat → Int32} {v_m_lawFrom : Nat → Int32} {v_m_lawTo : Nat → Int32} {v_m_code : Nat → Int32} {v_m_codeInt : Nat → Int32} {B : Int} (hB : B ≤ 1980000) (y : DY v_m_live v_m_cells v_m_room v_m_passes v_m_passOne v_m_passOther v_m_rivers v_m_riverCell v_m_riverLevel v_m_riverWide v_m_rains v_m_villages v_m_home v_m_lawFrom v_m_lawTo v_m_code v_m_codeInt) (hne : NE v_m_live v_m_villages v_m_need) (G : GL v_m_live v_g_cells v_g_passes v_g_rivers v_g_villages v_g_rains v_g_room v_g_passFrom v_g_passTo v_g_riverCell v_g_riverLevel v_g_riverSalt v_g_villageCell v_g_need v_g_lawEnd v_g_code v_m_cells v_m_room v_m_passes v_m_passOne v_m_passOther v_m_rivers v_m_riverCell v_m_riverLevel v_m_riverSalt v_m_rains v_m_villages v_m_home v_m_need v_m_lawFrom v_m_lawTo v_m_code v_m_codeInt) : ∀ (n m : Nat) (v_p_pumpCell : Int32) (v_p_wanting : Nat → Int32) (v_p_passWidth : Nat → Int32) (v_p_riverWidth : Nat → Int32) (v_p_rain : Nat → Int32) (v_c_pumped : Int32) (v_c_today : Int32) (v_c_lacked : Nat → Int32) (v_c_level : Nat → Int32) (v_c_water : Nat → Int32) (v_c_salt : Nat → Int64) (v_c_stack : Nat → Int32) (v_n_day : Int32) (v_n_water : Nat → Int32) (v_n_salt : Nat → Int64) (v_n_seen : Nat → Int32) (v_n_took : Nat → Int32) (v_n_dryDays : Nat → Int32) (v_n_firstDry : Nat → Int32) (v_n_total : Nat → Int32) (x1 : Int32) (x2 : Int32) (v_m_isBroken : Int32) (v_m_day : Int32) (v_m_rowDay : Int32) (v_m_changed : Int32) (v_m_pumpCell : Int32) (v_m_takenAll : Int64) (v_m_riversAll : Int64) (v_m_variables : Nat → Int32) (v_m_pile : Nat → Int32) (v_m_now : Nat → Int64) (v_m_row : Nat → Int64) (v_m_wants : Nat → Int32) (v_m_isOff : Nat → Int32) (v_m_wide : Nat → Int32) (v_m_rainNow : Nat → Int32) (v_m_taken : Nat → Int64) (v_m_isDry : Nat → Int32) (v_m_wouldLack : Nat → Int32) (v_m_more : Nat → Int64) (v_m_moreSalt : Nat → Int64), 0 ≤ x2.toInt → x2.toInt ≤ x1.toInt → x1.toInt ≤ 400 → PN v_m_live v_m_cells v_m_passes v_m_rains v_m_wants v_m_wide v_m_rainNow v_m_pumpCell v_m_pumpMuch → PLN v_m_live v_m_changed v_m_changedAt v_g_villages.toInt v_g_passes.toInt v_g_rivers.toInt v_g_rains.toInt v_m_pumpCell v_m_pumpMuch v_m_pumpFrom v_m_pumpTo v_p_pumpCell v_p_pumpTakes v_p_pumpFrom v_p_pumpTo v_p_wanting v_p_passWidth v_p_riverWidth v_p_rain v_m_wants v_m_isOff v_m_wide v_m_rainNow v_m_riverWide → DD v_m_live v_g_cells.toInt v_g_villages.toInt (B + x2.toInt) v_m_cells v_m_room v_n_day v_m_rowDay v_n_water v_n_salt v_n_seen v_n_took v_n_dryDays v_n_firstDry v_n_total v_m_row → pj (f_X6_run_b26 v_g_cells v_g_passes v_g_rivers v_g_villages v_g_rains v_g_room v_g_passFrom v_g_passTo v_g_riverCell v_g_riverLevel v_g_riverSalt v_g_villageCell v_g_need v_g_lawEnd v_g_code v_p_pumpTakes v_p_pumpFrom v_p_pumpTo n v_p_pumpCell v_p_wanting v_p_passWidth v_p_riverWidth v_p_rain v_c_pumped v_c_today v_c_lacked v_c_level v_c_water v_c_salt v_c_stack v_n_day v_n_water v_n_salt v_n_seen v_n_took v_n_dryDays v_n_firstDry v_n_total x1 x2) (f_X7_run_b19 v_m_live v_m_changedAt v_m_pumpMuch v_m_pumpFrom v_m_pumpTo v_m_cells v_m_room v_m_passes v_m_passOne v_m_passOther v_m_rivers v_m_riverCell v_m_riverLevel v_m_riverWide v_m_riverSalt v_m_rains v_m_villages v_m_home v_m_need v_m_lawFrom v_m_lawTo v_m_code v_m_codeInt m v_m_isBroken v_m_day v_m_rowDay v_m_changed v_m_pumpCell v_m_takenAll v_m_riversAll v_m_variables v_m_pile v_m_now v_m_row v_m_wants v_m_isOff v_m_wide v_m_rainNow v_m_taken v_m_isDry v_m_wouldLack v_m_more v_m_moreSalt x1 x2) (fun a b => a.1 = b.1 ∧ DA v_g_cells.toInt v_g_villages.toInt (a.2.2.2.2.2.2.2.2.2.2.2.2.2.1).toInt (a.2.2.2.2.2.2.2.2.2.2.2.2.2.2.1) (a.2.2.2.2.2.2.2.2.2.2.2.2.2.2.2.1) (a.2.2.2.2.2.2.2.2.2.2.2.2.2.2.2.2.1) (a.2.2.2.2.2.2.2.2.2.2.2.2.2.2.2.2.2.1) (a.2.2.2.2.2.2.2.2.2.2.2.2.2.2.2.2.2.2.1) (a.2.2.2.2.2.2.2.2.2.2.2.2.2.2.2.2.2.2.2.1) (a.2.2.2.2.2.2.2.2.2.2.2.2.2.2.2.2.2.2.2.2) (b.2.2.2.2.2.2.2.2.2.2.1)) := by
  intro n
  induction n with
  | zero => intro m v_p_pumpCell v_p_wanting v_p_passWidth v_p_riverWidth v_p_rain v_c_pumped v_c_today v_c_lacked v_c_level v_c_water v_c_salt v_c_stack v_n_day v_n_water v_n_salt v_n_seen v_n_took v_n_dryDays v_n_firstDry v_n_total x1 x2 v_m_isBroken v_m_day v_m_rowDay v_m_changed v_m_pumpCell v_m_takenAll v_m_riversAll v_m_variables v_m_pile v_m_now v_m_row v_m_wants v_m_isOff v_m_wide v_m_rainNow v_m_taken v_m_isDry v_m_wouldLack v_m_more v_m_moreSalt _ _ _ _ _ _; exact pj_nl
  | succ n ih =>
    intro m v_p_pumpCell v_p_wanting v_p_passWidth v_p_riverWidth v_p_rain v_c_pumped v_c_today v_c_lacked v_c_level v_c_water v_c_salt v_c_stack v_n_day v_n_water v_n_salt v_n_seen v_n_took v_n_dryDays v_n_firstDry v_n_total x1 x2 v_m_isBroken v_m_day v_m_rowDay v_m_changed v_m_pumpCell v_m_takenAll v_m_riversAll v_m_variables v_m_pile v_m_now v_m_row v_m_wants v_m_isOff v_m_wide v_m_rainNow v_m_taken v_m_isDry v_m_wouldLack v_m_more v_m_moreSalt hx0 hx1 hx4 p P hD
    cases m with
    | zero => exact pj_nr
    | succ m =>
    show pj (f_X6_run_b26_st (f_X6_run_b26 v_g_cells v_g_passes v_g_rivers v_g_villages v_g_rains v_g_room v_g_passFrom v_g_passTo v_g_riverCell v_g_riverLevel v_g_riverSalt v_g_villageCell v_g_need v_g_lawEnd v_g_code v_p_pumpTakes v_p_pumpFrom v_p_pumpTo n) v_g_cells v_g_passes v_g_rivers v_g_villages v_g_rains v_g_room v_g_passFrom v_g_passTo v_g_riverCell v_g_riverLevel v_g_riverSalt v_g_villageCell v_g_need v_g_lawEnd v_g_code v_p_pumpTakes v_p_pumpFrom v_p_pumpTo v_p_pumpCell v_p_wanting v_p_passWidth v_p_riverWidth v_p_rain v_c_pumped v_c_today v_c_lacked v_c_level v_c_water v_c_salt v_c_stack v_n_day v_n_water v_n_salt v_n_seen v_n_took v_n_dryDays v_n_firstDry v_n_total x1 x2) (f_X7_run_b19_st (f_X7_run_b19 v_m_live v_m_changedAt v_m_pumpMuch v_m_pumpFrom v_m_pumpTo v_m_cells v_m_room v_m_passes v_m_passOne v_m_passOther v_m_rivers v_m_riverCell v_m_riverLevel v_m_riverWide v_m_riverSalt v_m_rains v_m_villages v_m_home v_m_need v_m_lawFrom v_m_lawTo v_m_code v_m_codeInt m) v_m_live v_m_changedAt v_m_pumpMuch v_m_pumpFrom v_m_pumpTo v_m_cells v_m_room v_m_passes v_m_passOne v_m_passOther v_m_rivers v_m_riverCell v_m_riverLevel v_m_riverWide v_m_riverSalt v_m_rains v_m_villages v_m_home v_m_need v_m_lawFrom v_m_lawTo v_m_code v_m_codeInt v_m_isBroken v_m_day v_m_rowDay v_m_changed v_m_pumpCell v_m_takenAll v_m_riversAll v_m_variables v_m_pile v_m_now v_m_row v_m_wants v_m_isOff v_m_wide v_m_rainNow v_m_taken v_m_isDry v_m_wouldLack v_m_more v_m_moreSalt x1 x2) _
    unfold f_X6_run_b26_st f_X7_run_b19_st
    refine pj_ifl (fun z => pj_ifr (fun _ => ?_) (fun k => absurd z k)) (fun z => pj_ifr (fun k => absurd k z) (fun _ => ?_))
    · refine pj_bR (J := fun a b => a = (v_n_day, v_p_pumpCell, v_p_wanting, v_p_passWidth, v_p_riverWidth, v_p_rain, v_c_pumped, v_c_today, v_c_lacked, v_c_level, v_c_water, v_c_salt, v_c_stack, v_n_day, v_n_water, v_n_salt, v_n_seen, v_n_took, v_n_dryDays, v_n_firstDry, v_n_total) ∧ b.1 = v_m_rowDay ∧ ∀ j, j < 60 → b.2 j = v_m_row j) (pj_of (P := fun a => a = _) (pa_some rfl) m_kee (fun a b ha hb => ⟨ha, hb⟩)) (fun a b hab => pa_some ?_)
      obtain ⟨e, b1, b2⟩ := hab
      rw [e]
      have hc := y.1.2.1.2
      rw [G.1] at hc
      have hv := y.2.2.2.1.2
      rw [G.2.2.2.1] at hv
      refine ⟨hD.1.trans b1.symm, ?_⟩
      have k := hD.2.2
      rw [← hD.1] at k
      exact DA_frame hc hv k b2
    · have g := ti_nle z
      have t1 := add_k (x := x2) (v := 1) (k := 1) rfl (by omega) (by omega)
      refine pj_b15_12 (j_dd y hne G p P hD (by omega)) (fun a0 a1 a2 a3 a4 a5 a6 a7 a8 a9 a10 a11 a12 a13 a14 b0 b1 b2 b3 b4 b5 b6 b7 b8 b9 b10 b11 hab => ?_)
      refine ih m _ _ _ _ _ _ _ _ _ _ _ _ _ _ _ _ _ _ _ _ _ _ _ _ _ _ _ _ _ _ _ _ _ _ _ _ _ _ _ _ _ _ (by omega) (by omega) hx4 p P ?_
      rw [t1, ← Int.add_assoc]
      exact hab.1
set_option maxHeartbeats 4000000 in
theorem j_run7 {v_g_cells : Int32} {v_g_passes : Int32} {v_g_rivers : Int32} {v_g_villages : Int32} {v_g_rains : Int32} {v_g_room : Nat → Int32} {v_g_passFrom : Nat → Int32} {v_g_passTo : Nat → Int32} {v_g_passWidth : Nat → Int32} {v_g_riverCell : Nat → Int32} {v_g_riverLevel : Nat → Int32} {v_g_riverWidth : Nat → Int32} {v_g_riverSalt : Nat → Int32} {v_g_villageCell : Nat → Int32} {v_g_need : Nat → Int32} {v_g_lawEnd : Nat → Int32} {v_g_code : Nat → Int32} {v_g_rain : Nat → Int32} {v_p_pumpTakes : Int32} {v_p_pumpFrom : Int32} {v_p_pumpTo : Int32} {v_p_pumpCell : Int32} {v_p_wanting : Nat → Int32} {v_p_passWidth : Nat → Int32} {v_p_riverWidth : Nat → Int32} {v_p_rain : Nat → Int32} {v_c_pumped : Int32} {v_c_today : Int32} {v_c_lacked : Nat → Int32} {v_c_level : Nat → Int32} {v_c_water : Nat → Int32} {v_c_salt : Nat → Int64} {v_c_stack : Nat → Int32} {v_n_day : Int32} {v_n_water : Nat → Int32} {v_n_salt : Nat → Int64} {v_n_seen : Nat → Int32} {v_n_took : Nat → Int32} {v_n_dryDays : Nat → Int32} {v_n_firstDry : Nat → Int32} {v_n_total : Nat → Int32} {q1 : Int32} {v_m_live : Int32} {v_m_changedAt : Int32} {v_m_pumpMuch : Int32} {v_m_pumpFrom : Int32} {v_m_pumpTo : Int32} {v_m_cells : Nat → Int32} {v_m_room : Nat → Int32} {v_m_passes : Nat → Int32} {v_m_passOne : Nat → Int32} {v_m_passOther : Nat → Int32} {v_m_passWide : Nat → Int32} {v_m_rivers : Nat → Int32} {v_m_riverCell : Nat → Int32} {v_m_riverLevel : Nat → Int32} {v_m_riverWide : Nat → Int32} {v_m_riverSalt : Nat → Int32} {v_m_rains : Nat → Int32} {v_m_rain : Nat → Int32} {v_m_villages : Nat → Int32} {v_m_home : Nat → Int32} {v_m_need : Nat → Int32} {v_m_lawFrom : Nat → Int32} {v_m_lawTo : Nat → Int32} {v_m_code : Nat → Int32} {v_m_codeInt : Nat → Int32} {v_m_isBroken : Int32} {v_m_day : Int32} {v_m_rowDay : Int32} {v_m_changed : Int32} {v_m_pumpCell : Int32} {v_m_takenAll : Int64} {v_m_riversAll : Int64} {v_m_variables : Nat → Int32} {v_m_pile : Nat → Int32} {v_m_now : Nat → Int64} {v_m_row : Nat → Int64} {v_m_wants : Nat → Int32} {v_m_isOff : Nat → Int32} {v_m_wide : Nat → Int32} {v_m_rainNow : Nat → Int32} {v_m_taken : Nat → Int64} {v_m_isDry : Nat → Int32} {v_m_wouldLack : Nat → Int32} {v_m_more : Nat → Int64} {v_m_moreSalt : Nat → Int64} {B : Int} (hB : B ≤ 1980000) (y : DY v_m_live v_m_cells v_m_room v_m_passes v_m_passOne v_m_passOther v_m_rivers v_m_riverCell v_m_riverLevel v_m_riverWide v_m_rains v_m_villages v_m_home v_m_lawFrom v_m_lawTo v_m_code v_m_codeInt) (hne : NE v_m_live v_m_villages v_m_need) (G : GL v_m_live v_g_cells v_g_passes v_g_rivers v_g_villages v_g_rains v_g_room v_g_passFrom v_g_passTo v_g_riverCell v_g_riverLevel v_g_riverSalt v_g_villageCell v_g_need v_g_lawEnd v_g_code v_m_cells v_m_room v_m_passes v_m_passOne v_m_passOther v_m_rivers v_m_riverCell v_m_riverLevel v_m_riverSalt v_m_rains v_m_villages v_m_home v_m_need v_m_lawFrom v_m_lawTo v_m_code v_m_codeInt) (a1 : AL v_g_passWidth v_m_passWide (20 * v_m_live.toNatClampNeg) v_g_passes.toInt) (a2 : AL v_g_riverWidth v_m_riverWide (3 * v_m_live.toNatClampNeg) v_g_rivers.toInt) (a3 : AL v_g_rain v_m_rain (14 * v_m_live.toNatClampNeg) v_g_rains.toInt) (gx : GX v_m_live v_m_passes v_m_passWide v_m_rains v_m_rain) (h : DD v_m_live v_g_cells.toInt v_g_villages.toInt B v_m_cells v_m_room v_n_day v_m_day v_n_water v_n_salt v_n_seen v_n_took v_n_dryDays v_n_firstDry v_n_total v_m_now) : pj (f_X6_run v_g_cells v_g_passes v_g_rivers v_g_villages v_g_rains v_g_room v_g_passFrom v_g_passTo v_g_passWidth v_g_riverCell v_g_riverLevel v_g_riverWidth v_g_riverSalt v_g_villageCell v_g_need v_g_lawEnd v_g_code v_g_rain v_p_pumpTakes v_p_pumpFrom v_p_pumpTo v_p_pumpCell v_p_wanting v_p_passWidth v_p_riverWidth v_p_rain v_c_pumped v_c_today v_c_lacked v_c_level v_c_water v_c_salt v_c_stack v_n_day v_n_water v_n_salt v_n_seen v_n_took v_n_dryDays v_n_firstDry v_n_total q1) (f_X7_run v_m_live v_m_changedAt v_m_pumpMuch v_m_pumpFrom v_m_pumpTo v_m_cells v_m_room v_m_passes v_m_passOne v_m_passOther v_m_passWide v_m_rivers v_m_riverCell v_m_riverLevel v_m_riverWide v_m_riverSalt v_m_rains v_m_rain v_m_villages v_m_home v_m_need v_m_lawFrom v_m_lawTo v_m_code v_m_codeInt v_m_isBroken v_m_day v_m_rowDay v_m_changed v_m_pumpCell v_m_takenAll v_m_riversAll v_m_variables v_m_pile v_m_now v_m_row v_m_wants v_m_isOff v_m_wide v_m_rainNow v_m_taken v_m_isDry v_m_wouldLack v_m_more v_m_moreSalt q1) (fun a b => DA v_g_cells.toInt v_g_villages.toInt (a.2.2.2.2.2.2.2.2.2.2.2.2.2.1).toInt (a.2.2.2.2.2.2.2.2.2.2.2.2.2.2.1) (a.2.2.2.2.2.2.2.2.2.2.2.2.2.2.2.1) (a.2.2.2.2.2.2.2.2.2.2.2.2.2.2.2.2.1) (a.2.2.2.2.2.2.2.2.2.2.2.2.2.2.2.2.2.1) (a.2.2.2.2.2.2.2.2.2.2.2.2.2.2.2.2.2.2.1) (a.2.2.2.2.2.2.2.2.2.2.2.2.2.2.2.2.2.2.2.1) (a.2.2.2.2.2.2.2.2.2.2.2.2.2.2.2.2.2.2.2.2) (b.2.2.2.2.2.2.2.2.2.2.1)) := by
  have hDA := h.2.2
  rw [← h.1] at hDA
  have hl : 0 ≤ v_m_live.toInt ∧ v_m_live.toInt ≤ 1 := y.1.1
  have hc := y.1.2.1.2
  rw [G.1] at hc
  have hp := y.2.1.1.2
  rw [G.2.1] at hp
  have hri := y.2.1.2.1.2
  rw [G.2.2.1] at hri
  have hv := y.2.2.2.1.2
  rw [G.2.2.2.1] at hv
  have hra := y.2.2.1.2
  rw [G.2.2.2.2.1] at hra
  unfold f_X6_run f_X7_run
  have z0 : (0 : Int32).toInt = 0 := rfl
  have z4 : (400 : Int32).toInt = 400 := rfl
  refine pj_br (m_in q1 0 400) (fun o ho => ?_)
  rcases ho with ⟨rfl, ho⟩ | ⟨rfl, ho⟩
  · refine pj_ifl (fun c => ?_) (fun _ => pj_ifl (fun _ => pj_ifr (fun z => absurd z (by decide)) (fun _ => ?_)) (fun c => ?_))
    · have := lt_k (k := 0) rfl c
      omega
    · refine pj_b5_10 (J := fun (a : Int32 × (Nat → Int32) × (Nat → Int32) × (Nat → Int32) × (Nat → Int32)) (b : Int32 × Int32 × Int32 × Int64 × Int64 × (Nat → Int64) × (Nat → Int32) × (Nat → Int32) × (Nat → Int32) × (Nat → Int32)) => (a.1 = -1 ∧ (∀ i, i < 6 → a.2.1 i = -1) ∧ (∀ i, i < 20 → a.2.2.1 i = v_g_passWidth i) ∧ (∀ i, i < 3 → a.2.2.2.1 i = v_g_riverWidth i) ∧ ∀ i, i < 14 → a.2.2.2.2 i = v_g_rain i) ∧ (b.1 = v_m_day ∧ b.2.1 = -1 ∧ b.2.2.1 = -1 ∧ (∀ j, j < 60 → b.2.2.2.2.2.1 j = v_m_now j) ∧ (∀ j, j < 6 → b.2.2.2.2.2.2.1 j = -1 ∧ b.2.2.2.2.2.2.2.1 j = 0) ∧ (∀ j, j < 20 → b.2.2.2.2.2.2.2.2.1 j = v_m_passWide (20 * v_m_live.toNatClampNeg + j)) ∧ ∀ j, j < 14 → b.2.2.2.2.2.2.2.2.2 j = v_m_rain (14 * v_m_live.toNatClampNeg + j)) ∧ PN v_m_live v_m_cells v_m_passes v_m_rains b.2.2.2.2.2.2.1 b.2.2.2.2.2.2.2.2.1 b.2.2.2.2.2.2.2.2.2 b.2.2.1 v_m_pumpMuch) (pj_of c_set (pa_and (m_gof hl) (pa_ok (t_X7_goesFrom v_m_live v_m_day v_m_passWide v_m_rain v_m_now v_m_rowDay v_m_changed v_m_pumpCell v_m_takenAll v_m_riversAll v_m_row v_m_wants v_m_isOff v_m_wide v_m_rainNow (pm := v_m_pumpMuch) y gx h.2.1))) (fun a b ha hb => ⟨ha, hb.1, hb.2.1⟩)) (fun a0 a1_ a2_ a3_ a4 b0 b1 b2 b3 b4 b5 b6 b7 b8 b9 hab => ?_)
      obtain ⟨⟨c1, c2, c3, c4, c5⟩, ⟨m1, m2, m3, m4, m5, m6, m7⟩, hPN⟩ := hab
      have m1 : b0 = v_m_day := m1
      have m4 : ∀ j, j < 60 → b5 j = v_m_now j := m4
      refine pj_w (j_runb (B := B) hB y hne G fuel fuel _ _ _ _ _ _ _ _ _ _ _ _ _ _ _ _ _ _ _ _ _ _ _ _ _ _ _ _ _ _ _ _ _ _ _ _ _ _ _ _ _ _ (by decide) (by show (0 : Int) ≤ _; omega) (by omega) hPN (PLN_told hl hv hp hri hra c1 m2 m3 c2 c3 c4 c5 m5 m6 m7 a1 a2 a3) ⟨h.1.trans m1.symm, ?_, ?_⟩) (fun a b hab => hab.2)
      · rw [m1, show B + (0 : Int32).toInt = B from Int.add_zero B]
        exact RD_cp y.1 h.2.1 m4
      · rw [m1]
        exact DA_frame hc hv h.2.2 m4
    · have := nle_k (k := 400) rfl c
      omega
  · refine pj_ifr (fun _ => ?_) (fun z => absurd rfl z)
    refine pj_ifl (fun _ => pj_ss hDA) (fun c => pj_ifl (fun d => ?_) (fun _ => pj_ss hDA))
    have := nlt_k (k := 0) rfl c
    have := le_k (k := 400) rfl d
    omega
/-- what is TOLD, alike -/
def TL (told : Int32) (td tc tl td7 tc7 tl7 : Nat → Int32) : Prop := ∀ i : Nat, (i : Int) < told.toInt → td i = td7 i ∧ tc i = tc7 i ∧ tl i = tl7 i
theorem TL_0 {told : Int32} {td tc tl td7 tc7 tl7 : Nat → Int32} (h : told = 0) : TL told td tc tl td7 tc7 tl7 := fun i hi => absurd hi (by rw [h]; show ¬ (i : Int) < 0; omega)
/-- a row told, or not -/
def TD (told q1 q2 q3 told' : Int32) (td tc tl td' tc' tl' : Nat → Int32) : Prop := (told' = told ∧ td' = td ∧ tc' = tc ∧ tl' = tl) ∨ (told' = told + 1 ∧ td' = upd td told.toNatClampNeg q1 ∧ tc' = upd tc told.toNatClampNeg q2 ∧ tl' = upd tl told.toNatClampNeg q3)
theorem c_tell7 {ce told q1 q2 q3 : Int32} {td tc tl : Nat → Int32} : pa (f_X6_tell ce told td tc tl q1 q2 q3) (fun a => TD told q1 q2 q3 a.2.1 td tc tl a.2.2.1 a.2.2.2.1 a.2.2.2.2) := by
  have no : ∀ r : Int32, TD told q1 q2 q3 (r, told, td, tc, tl).2.1 td tc tl (r, told, td, tc, tl).2.2.1 (r, told, td, tc, tl).2.2.2.1 (r, told, td, tc, tl).2.2.2.2 := fun r => Or.inl ⟨rfl, rfl, rfl, rfl⟩
  unfold f_X6_tell f_X2_add
  refine pa_if (fun _ => pa_some (no _)) (fun _ => pa_if (fun _ => pa_some (no _)) (fun _ => pa_bd (pa_T _) (fun _ _ => pa_if (fun _ => pa_some (no _)) (fun _ => pa_if (fun _ => pa_some (no _)) (fun _ => pa_if (fun _ => ?_) (fun _ => pa_some (no _)))))))
  refine pa_bd5 (P := fun a => TD told q1 q2 q3 a.2.1 td tc tl a.2.2.1 a.2.2.2.1 a.2.2.2.2) (pa_if (fun _ => pa_ck (fun _ => pa_nx (pa_ck (fun _ => pa_nx (pa_ck (fun _ => pa_nx (pa_some (Or.inr ⟨rfl, rfl, rfl, rfl⟩)))))))) (fun _ => pa_some (no _))) (fun _ _ _ _ _ k => pa_some k)
theorem m_tell7 {live told q1 q2 q3 : Int32} {mc td tc tl : Nat → Int32} : pa (f_X7_tell_ live mc told td tc tl q1 q2 q3) (fun a => TD told q1 q2 q3 a.2.1 td tc tl a.2.2.1 a.2.2.2.1 a.2.2.2.2) := by
  have no : ∀ r : Int32, TD told q1 q2 q3 (r, told, td, tc, tl).2.1 td tc tl (r, told, td, tc, tl).2.2.1 (r, told, td, tc, tl).2.2.2.1 (r, told, td, tc, tl).2.2.2.2 := fun r => Or.inl ⟨rfl, rfl, rfl, rfl⟩
  unfold f_X7_tell_
  exact pa_if (fun _ => pa_some (no _)) (fun _ => pa_bd (pa_T _) (fun _ _ => pa_if (fun _ => pa_some (no _)) (fun _ => pa_bd (pa_T _) (fun _ _ => pa_if (fun _ => pa_some (no _)) (fun _ => pa_bd (pa_T _) (fun _ _ => pa_if (fun _ => pa_some (no _)) (fun _ => pa_ck (fun _ => pa_nx (pa_ck (fun _ => pa_nx (pa_ck (fun _ => pa_nx (pa_some (Or.inr ⟨rfl, rfl, rfl, rfl⟩))))))))))))))
theorem TD_ne {told : Int32} (h : 0 ≤ told.toInt ∧ told.toInt ≤ 20) : ¬ told = told + 1 := fun q => by
  have t := add_k (x := told) (v := 1) (k := 1) rfl (by omega) (by omega)
  rw [← q] at t
  omega
theorem j_tell7 {ce live told told7 q1 q2 q3 : Int32} {td tc tl mc td7 tc7 tl7 : Nat → Int32} (hc : mc live.toNatClampNeg = ce) (h : 0 ≤ ce.toInt ∧ ce.toInt ≤ 12) (ht : 0 ≤ told7.toInt ∧ told7.toInt ≤ 20) (he : told = told7) (hT : TL told td tc tl td7 tc7 tl7) : pj (f_X6_tell ce told td tc tl q1 q2 q3) (f_X7_tell_ live mc told7 td7 tc7 tl7 q1 q2 q3) (fun a b => TL a.2.1 a.2.2.1 a.2.2.2.1 a.2.2.2.2 b.2.2.1 b.2.2.2.1 b.2.2.2.2) := by
  subst he
  refine pj_w (pj_two_ (j_tell hc h ht rfl) (pj_of c_tell7 m_tell7 (fun a b ha hb => (⟨ha, hb⟩ : TD told q1 q2 q3 a.2.1 td tc tl a.2.2.1 a.2.2.2.1 a.2.2.2.2 ∧ TD told q1 q2 q3 b.2.1 td7 tc7 tl7 b.2.2.1 b.2.2.2.1 b.2.2.2.2)))) (fun a b hab => ?_)
  obtain ⟨⟨_, e⟩, ha, hb⟩ := hab
  rcases ha with ⟨a1, a2, a3, a4⟩ | ⟨a1, a2, a3, a4⟩
  · rcases hb with ⟨b1, b2, b3, b4⟩ | ⟨b1, b2, b3, b4⟩
    · rw [a1, a2, a3, a4, b2, b3, b4]
      exact hT
    · exact absurd (a1.symm.trans (e.trans b1)) (TD_ne ht)
  · rcases hb with ⟨b1, b2, b3, b4⟩ | ⟨b1, b2, b3, b4⟩
    · exact absurd (b1.symm.trans (e.symm.trans a1)) (TD_ne ht)
    · rw [a1, a2, a3, a4, b2, b3, b4]
      intro i hi
      have t := add_k (x := told) (v := 1) (k := 1) rfl (by omega) (by omega)
      have et : (told.toNatClampNeg : Int) = told.toInt := cl_k ht.1
      by_cases q : i = told.toNatClampNeg
      · rw [q, up_at, up_at, up_at, up_at, up_at, up_at]
        exact ⟨rfl, rfl, rfl⟩
      · rw [up_ne q, up_ne q, up_ne q, up_ne q, up_ne q, up_ne q]
        exact hT i (by omega)
