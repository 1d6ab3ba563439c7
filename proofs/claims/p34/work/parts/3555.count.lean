theorem pj_bl15 {A0 A1 A2 A3 A4 A5 A6 A7 A8 A9 A10 A11 A12 A13 A14 γ δ : Type} {f : Option (A0 × A1 × A2 × A3 × A4 × A5 × A6 × A7 × A8 × A9 × A10 × A11 × A12 × A13 × A14)} {k : A0 → A1 → A2 → A3 → A4 → A5 → A6 → A7 → A8 → A9 → A10 → A11 → A12 → A13 → A14 → Option γ} {g : Option δ} {P : A0 × A1 × A2 × A3 × A4 × A5 × A6 × A7 × A8 × A9 × A10 × A11 × A12 × A13 × A14 → Prop} {R : γ → δ → Prop} (h : pa f P) (q : ∀ a0 a1 a2 a3 a4 a5 a6 a7 a8 a9 a10 a11 a12 a13 a14, P (a0, a1, a2, a3, a4, a5, a6, a7, a8, a9, a10, a11, a12, a13, a14) → pj (k a0 a1 a2 a3 a4 a5 a6 a7 a8 a9 a10 a11 a12 a13 a14) g R) : pj (bd f (fun o => un15 o k)) g R := pj_bl h (fun o ho => q (o.1) (o.2.1) (o.2.2.1) (o.2.2.2.1) (o.2.2.2.2.1) (o.2.2.2.2.2.1) (o.2.2.2.2.2.2.1) (o.2.2.2.2.2.2.2.1) (o.2.2.2.2.2.2.2.2.1) (o.2.2.2.2.2.2.2.2.2.1) (o.2.2.2.2.2.2.2.2.2.2.1) (o.2.2.2.2.2.2.2.2.2.2.2.1) (o.2.2.2.2.2.2.2.2.2.2.2.2.1) (o.2.2.2.2.2.2.2.2.2.2.2.2.2.1) (o.2.2.2.2.2.2.2.2.2.2.2.2.2.2) ho)
theorem pj_br10 {A0 A1 A2 A3 A4 A5 A6 A7 A8 A9 γ δ : Type} {f : Option (A0 × A1 × A2 × A3 × A4 × A5 × A6 × A7 × A8 × A9)} {k : A0 → A1 → A2 → A3 → A4 → A5 → A6 → A7 → A8 → A9 → Option γ} {g : Option δ} {P : A0 × A1 × A2 × A3 × A4 × A5 × A6 × A7 × A8 × A9 → Prop} {R : δ → γ → Prop} (h : pa f P) (q : ∀ a0 a1 a2 a3 a4 a5 a6 a7 a8 a9, P (a0, a1, a2, a3, a4, a5, a6, a7, a8, a9) → pj g (k a0 a1 a2 a3 a4 a5 a6 a7 a8 a9) R) : pj g (bd f (fun o => un10 o k)) R := pj_br h (fun o ho => q (o.1) (o.2.1) (o.2.2.1) (o.2.2.2.1) (o.2.2.2.2.1) (o.2.2.2.2.2.1) (o.2.2.2.2.2.2.1) (o.2.2.2.2.2.2.2.1) (o.2.2.2.2.2.2.2.2.1) (o.2.2.2.2.2.2.2.2.2) ho)
theorem pj_br12 {A0 A1 A2 A3 A4 A5 A6 A7 A8 A9 A10 A11 γ δ : Type} {f : Option (A0 × A1 × A2 × A3 × A4 × A5 × A6 × A7 × A8 × A9 × A10 × A11)} {k : A0 → A1 → A2 → A3 → A4 → A5 → A6 → A7 → A8 → A9 → A10 → A11 → Option γ} {g : Option δ} {P : A0 × A1 × A2 × A3 × A4 × A5 × A6 × A7 × A8 × A9 × A10 × A11 → Prop} {R : δ → γ → Prop} (h : pa f P) (q : ∀ a0 a1 a2 a3 a4 a5 a6 a7 a8 a9 a10 a11, P (a0, a1, a2, a3, a4, a5, a6, a7, a8, a9, a10, a11) → pj g (k a0 a1 a2 a3 a4 a5 a6 a7 a8 a9 a10 a11) R) : pj g (bd f (fun o => un12 o k)) R := pj_br h (fun o ho => q (o.1) (o.2.1) (o.2.2.1) (o.2.2.2.1) (o.2.2.2.2.1) (o.2.2.2.2.2.1) (o.2.2.2.2.2.2.1) (o.2.2.2.2.2.2.2.1) (o.2.2.2.2.2.2.2.2.1) (o.2.2.2.2.2.2.2.2.2.1) (o.2.2.2.2.2.2.2.2.2.2.1) (o.2.2.2.2.2.2.2.2.2.2.2) ho)
/-! counts, what is told and held, which day: on both sides -/
theorem c_isCell (ce q : Int32) : pa (f_X6_isCell ce q) (fun o => (o = 1 ∧ 0 ≤ q.toInt ∧ q.toInt < ce.toInt) ∨ (o = 0 ∧ (q.toInt < 0 ∨ ce.toInt ≤ q.toInt))) := by
  unfold f_X6_isCell
  exact pa_if (fun c => pa_some (Or.inr ⟨rfl, Or.inl (lt_k (k := 0) rfl c)⟩)) (fun c => pa_if (fun d => pa_some (Or.inr ⟨rfl, Or.inr (ti_le d)⟩)) (fun d => pa_some (Or.inl ⟨rfl, nlt_k (k := 0) rfl c, ti_nle d⟩)))
theorem c_isSlot (q : Int32) : pa (f_X6_isSlot q) (fun o => (o = 1 ∧ 0 ≤ q.toInt ∧ q.toInt < 3) ∨ (o = 0 ∧ (q.toInt < 0 ∨ 3 ≤ q.toInt))) := by
  unfold f_X6_isSlot
  exact pa_if (fun c => pa_some (Or.inr ⟨rfl, Or.inl (lt_k (k := 0) rfl c)⟩)) (fun c => pa_if (fun d => pa_some (Or.inr ⟨rfl, Or.inr (k_le (k := 3) rfl d)⟩)) (fun d => pa_some (Or.inl ⟨rfl, nlt_k (k := 0) rfl c, k_nle (k := 3) rfl d⟩)))
theorem m_in (q a b : Int32) : pa (f_X7_in q a b) (fun o => (o = 1 ∧ a.toInt ≤ q.toInt ∧ q.toInt ≤ b.toInt) ∨ (o = 0 ∧ (q.toInt < a.toInt ∨ b.toInt < q.toInt))) := by
  unfold f_X7_in
  exact pa_if (fun c => pa_some (Or.inr ⟨rfl, Or.inl (ti_lt c)⟩)) (fun c => pa_if (fun d => pa_some (Or.inr ⟨rfl, Or.inr (ti_lt d)⟩)) (fun d => pa_some (Or.inl ⟨rfl, ti_nlt c, ti_nlt d⟩)))
theorem m_isCell {live ce q : Int32} {mc : Nat → Int32} (hc : mc live.toNatClampNeg = ce) (h : 0 ≤ ce.toInt ∧ ce.toInt ≤ 12) : pa (f_X7_isCell live mc q) (fun o => (o = 1 ∧ 0 ≤ q.toInt ∧ q.toInt < ce.toInt) ∨ (o = 0 ∧ (q.toInt < 0 ∨ ce.toInt ≤ q.toInt))) := by
  unfold f_X7_isCell f_X7_n
  refine pa_bd (P := fun o => o = ce) (pa_ck (fun _ => pa_some hc)) (fun o ho => pa_bd (m_in q 0 (o - 1)) (fun o2 h2 => pa_ck (fun _ => pa_some ?_)))
  have t : (o - 1).toInt = ce.toInt - 1 := by rw [ho]; exact sub_k (k := 1) rfl (by omega) (by omega)
  have z0 : (0 : Int32).toInt = 0 := rfl
  rcases h2 with ⟨a, b, c⟩ | ⟨a, b⟩
  · exact Or.inl ⟨a, by omega, by omega⟩
  · exact Or.inr ⟨a, by omega⟩
theorem j_pour {ce live q1 q2 : Int32} {nw mc : Nat → Int32} {now : Nat → Int64} (hc : mc live.toNatClampNeg = ce) (h : 0 ≤ ce.toInt ∧ ce.toInt ≤ 12) : pj (f_X6_pour ce nw q1 q2) (f_X7_pour live mc now q1 q2) (fun a b => a.1 = b.1) := by
  unfold f_X6_pour f_X7_pour
  have z0 : (0 : Int32).toInt = 0 := rfl
  have z9 : (9999 : Int32).toInt = 9999 := rfl
  refine pj_bl (c_isCell ce q1) (fun o ho => pj_br (m_isCell hc h) (fun p hp => ?_))
  rcases ho with ⟨rfl, ho⟩ | ⟨rfl, ho⟩
  · rcases hp with ⟨rfl, hp⟩ | ⟨rfl, hp⟩
    · refine pj_ifl (fun z => absurd z (by decide)) (fun _ => pj_ifr (fun z => absurd z (by decide)) (fun _ => pj_br (m_in q2 0 9999) (fun r hr => ?_)))
      rcases hr with ⟨rfl, hr⟩ | ⟨rfl, hr⟩
      · refine pj_ifl (fun c => ?_) (fun c => pj_ifl (fun _ => pj_ckl (fun _ => pj_nml (pj_ifr (fun z => absurd z (by decide)) (fun _ => pj_ckr (fun _ => pj_nmr (pj_ss rfl)))))) (fun d => ?_))
        · have := lt_k (k := 0) rfl c
          omega
        · have := nle_k (k := 9999) rfl d
          omega
      · refine pj_ifr (fun _ => ?_) (fun z => absurd rfl z)
        refine pj_ifl (fun _ => pj_ss rfl) (fun c => pj_ifl (fun d => ?_) (fun _ => pj_ss rfl))
        have := nlt_k (k := 0) rfl c
        have := le_k (k := 9999) rfl d
        omega
    · omega
  · rcases hp with ⟨rfl, hp⟩ | ⟨rfl, hp⟩
    · omega
    · exact pj_ifl (fun _ => pj_ifr (fun _ => pj_ss rfl) (fun z => absurd rfl z)) (fun z => absurd rfl z)
theorem j_tell {ce live told told7 q1 q2 q3 : Int32} {td tc tl mc td7 tc7 tl7 : Nat → Int32} (hc : mc live.toNatClampNeg = ce) (h : 0 ≤ ce.toInt ∧ ce.toInt ≤ 12) (ht : 0 ≤ told7.toInt ∧ told7.toInt ≤ 20) (he : told = told7) : pj (f_X6_tell ce told td tc tl q1 q2 q3) (f_X7_tell_ live mc told7 td7 tc7 tl7 q1 q2 q3) (fun a b => a.1 = b.1 ∧ a.2.1 = b.2.1) := by
  subst he
  have z0 : (0 : Int32).toInt = 0 := rfl
  have z9 : (9999 : Int32).toInt = 9999 := rfl
  have z19 : (199 : Int32).toInt = 199 := rfl
  by_cases t20 : told = 20
  · refine pj_of (P := fun a => a.1 = -1 ∧ a.2.1 = told) (Q := fun b => b.1 = -1 ∧ b.2.1 = told) ?_ ?_ (fun a b ha hb => ⟨ha.1.trans hb.1.symm, ha.2.trans hb.2.symm⟩)
    · unfold f_X6_tell f_X2_add
      refine pa_if (fun _ => pa_some ⟨rfl, rfl⟩) (fun _ => pa_if (fun _ => pa_some ⟨rfl, rfl⟩) (fun _ => pa_bd (pa_T _) (fun _ _ => pa_if (fun _ => pa_some ⟨rfl, rfl⟩) (fun _ => pa_if (fun _ => pa_some ⟨rfl, rfl⟩) (fun _ => pa_if (fun _ => ?_) (fun _ => pa_some ⟨rfl, rfl⟩))))))
      refine pa_bd5 (P := fun a => a.1 = -1 ∧ a.2.1 = told) (pa_if (fun z => ?_) (fun _ => pa_some ⟨rfl, rfl⟩)) (fun _ _ _ _ _ k => pa_some k)
      have := lt_k (k := 20) rfl z
      have := z_eq (k := 20) rfl t20
      omega
    · unfold f_X7_tell_
      exact pa_if (fun _ => pa_some ⟨rfl, rfl⟩) (fun z => absurd t20 z)
  · have t20' := z_ne (k := 20) rfl t20
    unfold f_X6_tell f_X7_tell_
    refine pj_ifr (fun z => absurd z t20) (fun _ => pj_br (m_in q1 0 199) (fun o ho => ?_))
    rcases ho with ⟨rfl, ho⟩ | ⟨rfl, ho⟩
    · refine pj_ifl (fun c => ?_) (fun _ => pj_ifl (fun c => ?_) (fun _ => pj_ifr (fun z => absurd z (by decide)) (fun _ => ?_)))
      · have := lt_k (k := 0) rfl c
        omega
      · have := k_le (k := 200) rfl c
        omega
      refine pj_bl (c_isCell ce q2) (fun o ho => pj_br (m_isCell hc h) (fun p hp => ?_))
      rcases ho with ⟨rfl, ho⟩ | ⟨rfl, ho⟩
      · rcases hp with ⟨rfl, hp⟩ | ⟨rfl, hp⟩
        · refine pj_ifl (fun z => absurd z (by decide)) (fun _ => pj_ifr (fun z => absurd z (by decide)) (fun _ => pj_br (m_in q3 0 9999) (fun r hr => ?_)))
          rcases hr with ⟨rfl, hr⟩ | ⟨rfl, hr⟩
          · refine pj_ifl (fun c => ?_) (fun _ => pj_ifl (fun _ => ?_) (fun c => ?_))
            · have := lt_k (k := 0) rfl c
              omega
            · refine pj_ifr (fun z => absurd z (by decide)) (fun _ => pj_ckr (fun _ => pj_nmr (pj_ckr (fun _ => pj_nmr (pj_ckr (fun _ => pj_nmr ?_))))))
              refine pj_of (P := fun a => a.1 = told + 1 - 1 ∧ a.2.1 = told + 1) (Q := fun b => b.1 = told + 1 - 1 ∧ b.2.1 = told + 1) (pa_bd5 (P := fun a => a.1 = told + 1 - 1 ∧ a.2.1 = told + 1) ?_ (fun _ _ _ _ _ k => pa_some k)) (pa_some ⟨rfl, rfl⟩) (fun a b ha hb => ⟨ha.1.trans hb.1.symm, ha.2.trans hb.2.symm⟩)
              unfold f_X2_add
              refine pa_if (fun _ => pa_ck (fun _ => pa_nx (pa_ck (fun _ => pa_nx (pa_ck (fun _ => pa_nx (pa_some ⟨rfl, rfl⟩))))))) (fun z => ?_)
              have := nlt_k (k := 20) rfl z
              omega
            · have := nle_k (k := 9999) rfl c
              omega
          · refine pj_ifr (fun _ => ?_) (fun z => absurd rfl z)
            refine pj_ifl (fun _ => pj_ss ⟨rfl, rfl⟩) (fun c => pj_ifl (fun d => ?_) (fun _ => pj_ss ⟨rfl, rfl⟩))
            have := nlt_k (k := 0) rfl c
            have := le_k (k := 9999) rfl d
            omega
        · omega
      · rcases hp with ⟨rfl, hp⟩ | ⟨rfl, hp⟩
        · omega
        · exact pj_ifl (fun _ => pj_ifr (fun _ => pj_ss ⟨rfl, rfl⟩) (fun z => absurd rfl z)) (fun z => absurd rfl z)
    · refine pj_ifr (fun _ => ?_) (fun z => absurd rfl z)
      refine pj_ifl (fun _ => pj_ss ⟨rfl, rfl⟩) (fun c => pj_ifl (fun _ => pj_ss ⟨rfl, rfl⟩) (fun d => ?_))
      have := nlt_k (k := 0) rfl c
      have := k_nle (k := 200) rfl d
      omega
theorem c_forget {told : Int32} {pu : Nat → Int32} : pa (f_X6_forget told pu) (fun o => o.1 = told ∧ o.2.1 = 0) := by
  unfold f_X6_forget f_X2_clear
  exact pa_bd2 (P := fun o => o.1 = 0) (pa_bd (pa_T _) (fun _ _ => pa_some rfl)) (fun _ _ k => pa_some ⟨rfl, k⟩)
theorem j_forget {told told7 : Int32} {pu : Nat → Int32} (he : told = told7) : pj (f_X6_forget told pu) (f_X7_forget told7) (fun a b => a.1 = b.1 ∧ a.2.1 = b.2) := pj_of c_forget (Q := fun b => b.1 = told7 ∧ b.2 = 0) (by unfold f_X7_forget; exact pa_some ⟨rfl, rfl⟩) (fun a b ha hb => ⟨ha.1.trans (he.trans hb.1.symm), ha.2.trans hb.2.symm⟩)
/-- the SLOTS: held alike, and of the same day -/
def SL (held isH hd : Nat → Int32) (s0 s1 s2 : Int32) : Prop := (∀ i : Nat, i < 3 → held i = isH i) ∧ (¬ held 0 = 0 → s0 = hd 0) ∧ (¬ held 1 = 0 → s1 = hd 1) ∧ (¬ held 2 = 0 → s2 = hd 2)
theorem SL_0 {held isH hd : Nat → Int32} {s0 s1 s2 v d : Int32} (h : SL held isH hd s0 s1 s2) : SL (upd held 0 v) (upd isH 0 v) (upd hd 0 d) d s1 s2 := by
  refine ⟨fun i hi => ?_, fun _ => up_at.symm, fun z => ?_, fun z => ?_⟩
  · unfold upd
    by_cases q : i = 0
    · rw [if_pos q, if_pos q]
    · rw [if_neg q, if_neg q]; exact h.1 i hi
  · rw [up_ne (by decide)] at z ⊢; exact h.2.2.1 z
  · rw [up_ne (by decide)] at z ⊢; exact h.2.2.2 z
theorem SL_1 {held isH hd : Nat → Int32} {s0 s1 s2 v d : Int32} (h : SL held isH hd s0 s1 s2) : SL (upd held 1 v) (upd isH 1 v) (upd hd 1 d) s0 d s2 := by
  refine ⟨fun i hi => ?_, fun z => ?_, fun _ => up_at.symm, fun z => ?_⟩
  · unfold upd
    by_cases q : i = 1
    · rw [if_pos q, if_pos q]
    · rw [if_neg q, if_neg q]; exact h.1 i hi
  · rw [up_ne (by decide)] at z ⊢; exact h.2.1 z
  · rw [up_ne (by decide)] at z ⊢; exact h.2.2.2 z
theorem SL_2 {held isH hd : Nat → Int32} {s0 s1 s2 v d : Int32} (h : SL held isH hd s0 s1 s2) : SL (upd held 2 v) (upd isH 2 v) (upd hd 2 d) s0 s1 d := by
  refine ⟨fun i hi => ?_, fun z => ?_, fun z => ?_, fun _ => up_at.symm⟩
  · unfold upd
    by_cases q : i = 2
    · rw [if_pos q, if_pos q]
    · rw [if_neg q, if_neg q]; exact h.1 i hi
  · rw [up_ne (by decide)] at z ⊢; exact h.2.1 z
  · rw [up_ne (by decide)] at z ⊢; exact h.2.2.1 z
theorem m_h30 {now : Nat → Int64} {hd isH : Nat → Int32} {x1 : Int32} : ∀ (n : Nat) (hl : Nat → Int64) (x2 : Int32), pa (f_X7_hold_b30 now n hl hd isH x1 x2) (fun o => o.1 = 1 ∧ o.2.2.1 = hd ∧ o.2.2.2 = isH) := by
  intro n
  induction n with
  | zero => intro hl x2; exact pa_none
  | succ n ih =>
    intro hl x2
    show pa (f_X7_hold_b30_st (f_X7_hold_b30 now n) now hl hd isH x1 x2) _
    unfold f_X7_hold_b30_st
    exact pa_if (fun _ => pa_some ⟨rfl, rfl, rfl⟩) (fun _ => pa_ck (fun _ => pa_ck (fun _ => pa_nx (ih _ _))))
theorem m_r32 {hl : Nat → Int64} {day x1 : Int32} : ∀ (n : Nat) (now : Nat → Int64) (x2 : Int32), pa (f_X7_restore_b32 hl n day now x1 x2) (fun o => o.1 = 1 ∧ o.2.1 = day) := by
  intro n
  induction n with
  | zero => intro now x2; exact pa_none
  | succ n ih =>
    intro now x2
    show pa (f_X7_restore_b32_st (f_X7_restore_b32 hl n) hl day now x1 x2) _
    unfold f_X7_restore_b32_st
    exact pa_if (fun _ => pa_some ⟨rfl, rfl⟩) (fun _ => pa_ck (fun _ => pa_ck (fun _ => pa_nx (ih _ _))))
theorem c_become {v_o_day : Int32} {v_o_water : Nat → Int32} {v_o_salt : Nat → Int64} {v_o_seen : Nat → Int32} {v_o_took : Nat → Int32} {v_o_dryDays : Nat → Int32} {v_o_firstDry : Nat → Int32} {v_o_total : Nat → Int32} {v_d_day : Int32} {v_d_water : Nat → Int32} {v_d_salt : Nat → Int64} {v_d_seen : Nat → Int32} {v_d_took : Nat → Int32} {v_d_dryDays : Nat → Int32} {v_d_firstDry : Nat → Int32} {v_d_total : Nat → Int32} : pa (f_X1_become v_o_day v_o_water v_o_salt v_o_seen v_o_took v_o_dryDays v_o_firstDry v_o_total v_d_day v_d_water v_d_salt v_d_seen v_d_took v_d_dryDays v_d_firstDry v_d_total) (fun o => o.1 = v_o_day) := by
  unfold f_X1_become
  exact pa_nx (pa_nx (pa_nx (pa_nx (pa_nx (pa_nx (pa_nx (pa_some rfl)))))))
theorem j_hold {v_n_day : Int32} {v_n_water : Nat → Int32} {v_n_salt : Nat → Int64} {v_n_seen : Nat → Int32} {v_n_took : Nat → Int32} {v_n_dryDays : Nat → Int32} {v_n_firstDry : Nat → Int32} {v_n_total : Nat → Int32} {v_w_held : Nat → Int32} {v_s0_day : Int32} {v_s0_water : Nat → Int32} {v_s0_salt : Nat → Int64} {v_s0_seen : Nat → Int32} {v_s0_took : Nat → Int32} {v_s0_dryDays : Nat → Int32} {v_s0_firstDry : Nat → Int32} {v_s0_total : Nat → Int32} {v_s1_day : Int32} {v_s1_water : Nat → Int32} {v_s1_salt : Nat → Int64} {v_s1_seen : Nat → Int32} {v_s1_took : Nat → Int32} {v_s1_dryDays : Nat → Int32} {v_s1_firstDry : Nat → Int32} {v_s1_total : Nat → Int32} {v_s2_day : Int32} {v_s2_water : Nat → Int32} {v_s2_salt : Nat → Int64} {v_s2_seen : Nat → Int32} {v_s2_took : Nat → Int32} {v_s2_dryDays : Nat → Int32} {v_s2_firstDry : Nat → Int32} {v_s2_total : Nat → Int32} {q1 : Int32} {v_m_day : Int32} {v_m_now : Nat → Int64} {v_m_held : Nat → Int64} {v_m_heldDay : Nat → Int32} {v_m_isHeld : Nat → Int32} (hd : v_n_day = v_m_day) (hs : SL v_w_held v_m_isHeld v_m_heldDay v_s0_day v_s1_day v_s2_day) : pj (f_X6_hold v_n_day v_n_water v_n_salt v_n_seen v_n_took v_n_dryDays v_n_firstDry v_n_total v_w_held v_s0_day v_s0_water v_s0_salt v_s0_seen v_s0_took v_s0_dryDays v_s0_firstDry v_s0_total v_s1_day v_s1_water v_s1_salt v_s1_seen v_s1_took v_s1_dryDays v_s1_firstDry v_s1_total v_s2_day v_s2_water v_s2_salt v_s2_seen v_s2_took v_s2_dryDays v_s2_firstDry v_s2_total q1) (f_X7_hold v_m_day v_m_now v_m_held v_m_heldDay v_m_isHeld q1) (fun a b => a.1 = b.1 ∧ SL a.2.1 b.2.2.2 b.2.2.1 a.2.2.1 a.2.2.2.2.2.2.2.2.2.2.1 a.2.2.2.2.2.2.2.2.2.2.2.2.2.2.2.2.2.2.1) := by
  subst hd
  unfold f_X6_hold f_X7_hold
  have z0 : (0 : Int32).toInt = 0 := rfl
  have z2 : (2 : Int32).toInt = 2 := rfl
  refine pj_bl (c_isSlot q1) (fun o ho => pj_br (m_in q1 0 2) (fun p hp => ?_))
  rcases ho with ⟨rfl, ho⟩ | ⟨rfl, ho⟩
  · rcases hp with ⟨rfl, hp⟩ | ⟨rfl, hp⟩
    · refine pj_ifl (fun z => absurd z (by decide)) (fun _ => pj_ckl (fun _ => pj_ifr (fun z => absurd z (by decide)) (fun _ => pj_ckr (fun _ => pj_nmr (pj_ckr (fun _ => pj_nmr ?_))))))
      refine pj_ifl (fun c => ?_) (fun _ => pj_ifl (fun c => ?_) (fun _ => pj_ifl (fun c => ?_) (fun _ => pj_nl)))
      · have e : q1.toNatClampNeg = 0 := by rw [c]; rfl
        rw [e]
        refine pj_of (P := fun a => a.1 = 1 ∧ SL a.2.1 (upd v_m_isHeld 0 (vp_nar .boolean (1 : Int32))) (upd v_m_heldDay 0 v_n_day) a.2.2.1 a.2.2.2.2.2.2.2.2.2.2.1 a.2.2.2.2.2.2.2.2.2.2.2.2.2.2.2.2.2.2.1) (pa_bd8 c_become (fun _ _ _ _ _ _ _ _ k => pa_ck (fun _ => pa_nx (pa_some ⟨rfl, ?_⟩)))) (m_h30 fuel _ _) (fun a b ha hb => ⟨ha.1.trans hb.1.symm, by rw [hb.2.1, hb.2.2]; exact ha.2⟩)
        have g := SL_0 (v := vp_nar .boolean (1 : Int32)) (d := v_n_day) hs
        rw [← (k : _ = v_n_day)] at g ⊢
        exact g
      · have e : q1.toNatClampNeg = 1 := by rw [c]; rfl
        rw [e]
        refine pj_of (P := fun a => a.1 = 1 ∧ SL a.2.1 (upd v_m_isHeld 1 (vp_nar .boolean (1 : Int32))) (upd v_m_heldDay 1 v_n_day) a.2.2.1 a.2.2.2.2.2.2.2.2.2.2.1 a.2.2.2.2.2.2.2.2.2.2.2.2.2.2.2.2.2.2.1) (pa_bd8 c_become (fun _ _ _ _ _ _ _ _ k => pa_ck (fun _ => pa_nx (pa_some ⟨rfl, ?_⟩)))) (m_h30 fuel _ _) (fun a b ha hb => ⟨ha.1.trans hb.1.symm, by rw [hb.2.1, hb.2.2]; exact ha.2⟩)
        have g := SL_1 (v := vp_nar .boolean (1 : Int32)) (d := v_n_day) hs
        rw [← (k : _ = v_n_day)] at g ⊢
        exact g
      · have e : q1.toNatClampNeg = 2 := by rw [c]; rfl
        rw [e]
        refine pj_of (P := fun a => a.1 = 1 ∧ SL a.2.1 (upd v_m_isHeld 2 (vp_nar .boolean (1 : Int32))) (upd v_m_heldDay 2 v_n_day) a.2.2.1 a.2.2.2.2.2.2.2.2.2.2.1 a.2.2.2.2.2.2.2.2.2.2.2.2.2.2.2.2.2.2.1) (pa_bd8 c_become (fun _ _ _ _ _ _ _ _ k => pa_ck (fun _ => pa_nx (pa_some ⟨rfl, ?_⟩)))) (m_h30 fuel _ _) (fun a b ha hb => ⟨ha.1.trans hb.1.symm, by rw [hb.2.1, hb.2.2]; exact ha.2⟩)
        have g := SL_2 (v := vp_nar .boolean (1 : Int32)) (d := v_n_day) hs
        rw [← (k : _ = v_n_day)] at g ⊢
        exact g
    · omega
  · rcases hp with ⟨rfl, hp⟩ | ⟨rfl, hp⟩
    · omega
    · exact pj_ifl (fun _ => pj_ifr (fun _ => pj_ss ⟨rfl, hs⟩) (fun z => absurd rfl z)) (fun z => absurd rfl z)
theorem j_restore {v_w_held : Nat → Int32} {v_s0_day : Int32} {v_s0_water : Nat → Int32} {v_s0_salt : Nat → Int64} {v_s0_seen : Nat → Int32} {v_s0_took : Nat → Int32} {v_s0_dryDays : Nat → Int32} {v_s0_firstDry : Nat → Int32} {v_s0_total : Nat → Int32} {v_s1_day : Int32} {v_s1_water : Nat → Int32} {v_s1_salt : Nat → Int64} {v_s1_seen : Nat → Int32} {v_s1_took : Nat → Int32} {v_s1_dryDays : Nat → Int32} {v_s1_firstDry : Nat → Int32} {v_s1_total : Nat → Int32} {v_s2_day : Int32} {v_s2_water : Nat → Int32} {v_s2_salt : Nat → Int64} {v_s2_seen : Nat → Int32} {v_s2_took : Nat → Int32} {v_s2_dryDays : Nat → Int32} {v_s2_firstDry : Nat → Int32} {v_s2_total : Nat → Int32} {v_n_day : Int32} {v_n_water : Nat → Int32} {v_n_salt : Nat → Int64} {v_n_seen : Nat → Int32} {v_n_took : Nat → Int32} {v_n_dryDays : Nat → Int32} {v_n_firstDry : Nat → Int32} {v_n_total : Nat → Int32} {q1 : Int32} {v_m_held : Nat → Int64} {v_m_heldDay : Nat → Int32} {v_m_isHeld : Nat → Int32} {v_m_day : Int32} {v_m_now : Nat → Int64} (hd : v_n_day = v_m_day) (hs : SL v_w_held v_m_isHeld v_m_heldDay v_s0_day v_s1_day v_s2_day) : pj (f_X6_restore v_w_held v_s0_day v_s0_water v_s0_salt v_s0_seen v_s0_took v_s0_dryDays v_s0_firstDry v_s0_total v_s1_day v_s1_water v_s1_salt v_s1_seen v_s1_took v_s1_dryDays v_s1_firstDry v_s1_total v_s2_day v_s2_water v_s2_salt v_s2_seen v_s2_took v_s2_dryDays v_s2_firstDry v_s2_total v_n_day v_n_water v_n_salt v_n_seen v_n_took v_n_dryDays v_n_firstDry v_n_total q1) (f_X7_restore v_m_held v_m_heldDay v_m_isHeld v_m_day v_m_now q1) (fun a b => a.1 = b.1 ∧ a.2.1 = b.2.1) := by
  subst hd
  unfold f_X6_restore f_X7_restore
  have z0 : (0 : Int32).toInt = 0 := rfl
  have z2 : (2 : Int32).toInt = 2 := rfl
  refine pj_bl (c_isSlot q1) (fun o ho => pj_br (m_in q1 0 2) (fun p hp => ?_))
  rcases ho with ⟨rfl, ho⟩ | ⟨rfl, ho⟩
  · rcases hp with ⟨rfl, hp⟩ | ⟨rfl, hp⟩
    · have e0 : (q1.toNatClampNeg : Int) = q1.toInt := cl_k (by omega)
      have eh := hs.1 q1.toNatClampNeg (by omega)
      refine pj_ifl (fun z => absurd z (by decide)) (fun _ => pj_ckl (fun _ => pj_ifr (fun z => absurd z (by decide)) (fun _ => pj_ckr (fun _ => ?_))))
      refine pj_ifl (fun c => pj_ifr (fun _ => pj_ss ⟨rfl, rfl⟩) (fun z => absurd (eh.symm.trans c) z)) (fun c => pj_ckl (fun _ => pj_ifr (fun z => absurd (eh.trans z) c) (fun _ => pj_ckr (fun _ => ?_))))
      refine pj_ifl (fun k => ?_) (fun _ => pj_ifl (fun k => ?_) (fun _ => pj_ifl (fun k => ?_) (fun _ => pj_nl)))
      · have e : q1.toNatClampNeg = 0 := by rw [k]; rfl
        rw [e] at c ⊢
        refine pj_of (P := fun a => a.1 = 1 ∧ a.2.1 = v_s0_day) (pa_bd8 c_become (fun _ _ _ _ _ _ _ _ k => pa_some ⟨rfl, k⟩)) (m_r32 fuel _ _) (fun a b ha hb => ⟨ha.1.trans hb.1.symm, ha.2.trans ((hs.2.1 c).trans hb.2.symm)⟩)
      · have e : q1.toNatClampNeg = 1 := by rw [k]; rfl
        rw [e] at c ⊢
        refine pj_of (P := fun a => a.1 = 1 ∧ a.2.1 = v_s1_day) (pa_bd8 c_become (fun _ _ _ _ _ _ _ _ k => pa_some ⟨rfl, k⟩)) (m_r32 fuel _ _) (fun a b ha hb => ⟨ha.1.trans hb.1.symm, ha.2.trans ((hs.2.2.1 c).trans hb.2.symm)⟩)
      · have e : q1.toNatClampNeg = 2 := by rw [k]; rfl
        rw [e] at c ⊢
        refine pj_of (P := fun a => a.1 = 1 ∧ a.2.1 = v_s2_day) (pa_bd8 c_become (fun _ _ _ _ _ _ _ _ k => pa_some ⟨rfl, k⟩)) (m_r32 fuel _ _) (fun a b ha hb => ⟨ha.1.trans hb.1.symm, ha.2.trans ((hs.2.2.2 c).trans hb.2.symm)⟩)
    · omega
  · rcases hp with ⟨rfl, hp⟩ | ⟨rfl, hp⟩
    · omega
    · exact pj_ifl (fun _ => pj_ifr (fun _ => pj_ss ⟨rfl, rfl⟩) (fun z => absurd rfl z)) (fun z => absurd rfl z)
theorem c_od107 {v_g_rivers : Int32} {v_g_riverCell : Nat → Int32} {v_g_riverLevel : Nat → Int32} {v_g_riverSalt : Nat → Int32} {v_p_riverWidth : Nat → Int32} : ∀ (n : Nat) (v_c_pumped : Int32) (v_c_today : Int32) (v_c_lacked : (Nat → Int32)) (v_c_level : (Nat → Int32)) (v_c_water : (Nat → Int32)) (v_c_salt : (Nat → Int64)) (v_c_stack : (Nat → Int32)) (v_d_day : Int32) (v_d_water : (Nat → Int32)) (v_d_salt : (Nat → Int64)) (v_d_seen : (Nat → Int32)) (v_d_took : (Nat → Int32)) (v_d_dryDays : (Nat → Int32)) (v_d_firstDry : (Nat → Int32)) (v_d_total : (Nat → Int32)) (x2 : Int32), pa (f_X0_oneDay_b107 v_g_rivers v_g_riverCell v_g_riverLevel v_g_riverSalt v_p_riverWidth n v_c_pumped v_c_today v_c_lacked v_c_level v_c_water v_c_salt v_c_stack v_d_day v_d_water v_d_salt v_d_seen v_d_took v_d_dryDays v_d_firstDry v_d_total x2) (fun o => o.2.2.2.2.2.2.2.1 = v_d_day + 1) := by
  intro n
  induction n with
  | zero => intro _ _ _ _ _ _ _ _ _ _ _ _ _ _ _ _; exact pa_none
  | succ n ih =>
    intro v_c_pumped v_c_today v_c_lacked v_c_level v_c_water v_c_salt v_c_stack v_d_day v_d_water v_d_salt v_d_seen v_d_took v_d_dryDays v_d_firstDry v_d_total x2
    show pa (f_X0_oneDay_b107_st (f_X0_oneDay_b107 v_g_rivers v_g_riverCell v_g_riverLevel v_g_riverSalt v_p_riverWidth n) v_g_rivers v_g_riverCell v_g_riverLevel v_g_riverSalt v_p_riverWidth v_c_pumped v_c_today v_c_lacked v_c_level v_c_water v_c_salt v_c_stack v_d_day v_d_water v_d_salt v_d_seen v_d_took v_d_dryDays v_d_firstDry v_d_total x2) _
    unfold f_X0_oneDay_b107_st
    exact pa_if (fun _ => pa_some rfl) (fun _ => pa_bd2 (pa_T _) (fun _ _ _ => ih _ _ _ _ _ _ _ _ _ _ _ _ _ _ _ _))
theorem c_od22 {v_g_passes : Int32} {v_g_rivers : Int32} {v_g_passFrom : Nat → Int32} {v_g_passTo : Nat → Int32} {v_g_riverCell : Nat → Int32} {v_g_riverLevel : Nat → Int32} {v_g_riverSalt : Nat → Int32} {v_p_passWidth : Nat → Int32} {v_p_riverWidth : Nat → Int32} : ∀ (n : Nat) (v_c_pumped : Int32) (v_c_today : Int32) (v_c_lacked : (Nat → Int32)) (v_c_level : (Nat → Int32)) (v_c_water : (Nat → Int32)) (v_c_salt : (Nat → Int64)) (v_c_stack : (Nat → Int32)) (v_d_day : Int32) (v_d_water : (Nat → Int32)) (v_d_salt : (Nat → Int64)) (v_d_seen : (Nat → Int32)) (v_d_took : (Nat → Int32)) (v_d_dryDays : (Nat → Int32)) (v_d_firstDry : (Nat → Int32)) (v_d_total : (Nat → Int32)) (x2 : Int32), pa (f_X0_oneDay_b22 v_g_passes v_g_rivers v_g_passFrom v_g_passTo v_g_riverCell v_g_riverLevel v_g_riverSalt v_p_passWidth v_p_riverWidth n v_c_pumped v_c_today v_c_lacked v_c_level v_c_water v_c_salt v_c_stack v_d_day v_d_water v_d_salt v_d_seen v_d_took v_d_dryDays v_d_firstDry v_d_total x2) (fun o => o.2.2.2.2.2.2.2.1 = v_d_day + 1) := by
  intro n
  induction n with
  | zero => intro _ _ _ _ _ _ _ _ _ _ _ _ _ _ _ _; exact pa_none
  | succ n ih =>
    intro v_c_pumped v_c_today v_c_lacked v_c_level v_c_water v_c_salt v_c_stack v_d_day v_d_water v_d_salt v_d_seen v_d_took v_d_dryDays v_d_firstDry v_d_total x2
    show pa (f_X0_oneDay_b22_st (f_X0_oneDay_b22 v_g_passes v_g_rivers v_g_passFrom v_g_passTo v_g_riverCell v_g_riverLevel v_g_riverSalt v_p_passWidth v_p_riverWidth n) v_g_passes v_g_rivers v_g_passFrom v_g_passTo v_g_riverCell v_g_riverLevel v_g_riverSalt v_p_passWidth v_p_riverWidth v_c_pumped v_c_today v_c_lacked v_c_level v_c_water v_c_salt v_c_stack v_d_day v_d_water v_d_salt v_d_seen v_d_took v_d_dryDays v_d_firstDry v_d_total x2) _
    unfold f_X0_oneDay_b22_st
    exact pa_if (fun _ => c_od107 _ _ _ _ _ _ _ _ _ _ _ _ _ _ _ _ _) (fun _ => pa_bd (pa_T _) (fun _ _ => pa_if (fun _ => pa_if (fun _ => ih _ _ _ _ _ _ _ _ _ _ _ _ _ _ _ _) (fun _ => pa_ck (fun _ => pa_ck (fun _ => pa_bd2 (pa_T _) (fun _ _ _ => ih _ _ _ _ _ _ _ _ _ _ _ _ _ _ _ _))))) (fun _ => pa_ck (fun _ => pa_ck (fun _ => pa_bd2 (pa_T _) (fun _ _ _ => ih _ _ _ _ _ _ _ _ _ _ _ _ _ _ _ _))))))
theorem c_oneDay {v_g_cells : Int32} {v_g_passes : Int32} {v_g_rivers : Int32} {v_g_villages : Int32} {v_g_rains : Int32} {v_g_room : Nat → Int32} {v_g_passFrom : Nat → Int32} {v_g_passTo : Nat → Int32} {v_g_riverCell : Nat → Int32} {v_g_riverLevel : Nat → Int32} {v_g_riverSalt : Nat → Int32} {v_g_villageCell : Nat → Int32} {v_g_need : Nat → Int32} {v_g_lawEnd : Nat → Int32} {v_g_code : Nat → Int32} {v_p_pumpCell : Int32} {v_p_pumpTakes : Int32} {v_p_pumpFrom : Int32} {v_p_pumpTo : Int32} {v_p_wanting : Nat → Int32} {v_p_passWidth : Nat → Int32} {v_p_riverWidth : Nat → Int32} {v_p_rain : Nat → Int32} {v_c_pumped : Int32} {v_c_today : Int32} {v_c_lacked : Nat → Int32} {v_c_level : Nat → Int32} {v_c_water : Nat → Int32} {v_c_salt : Nat → Int64} {v_c_stack : Nat → Int32} {v_d_day : Int32} {v_d_water : Nat → Int32} {v_d_salt : Nat → Int64} {v_d_seen : Nat → Int32} {v_d_took : Nat → Int32} {v_d_dryDays : Nat → Int32} {v_d_firstDry : Nat → Int32} {v_d_total : Nat → Int32} : pa (f_X0_oneDay v_g_cells v_g_passes v_g_rivers v_g_villages v_g_rains v_g_room v_g_passFrom v_g_passTo v_g_riverCell v_g_riverLevel v_g_riverSalt v_g_villageCell v_g_need v_g_lawEnd v_g_code v_p_pumpCell v_p_pumpTakes v_p_pumpFrom v_p_pumpTo v_p_wanting v_p_passWidth v_p_riverWidth v_p_rain v_c_pumped v_c_today v_c_lacked v_c_level v_c_water v_c_salt v_c_stack v_d_day v_d_water v_d_salt v_d_seen v_d_took v_d_dryDays v_d_firstDry v_d_total) (fun o => o.2.2.2.2.2.2.2.1 = v_d_day + 1) := by
  unfold f_X0_oneDay
  exact pa_bd3 (pa_T _) (fun _ _ _ _ => pa_bd8 (pa_T _) (fun _ _ _ _ _ _ _ _ _ => pa_bd3 (pa_T _) (fun _ _ _ _ => pa_bd3 (pa_T _) (fun _ _ _ _ => c_od22 _ _ _ _ _ _ _ _ _ _ _ _ _ _ _ _ _))))
theorem m_goesBy {v_m_live : Int32} {v_m_changed : Int32} {v_m_changedAt : Int32} {v_m_pumpCell : Int32} {v_m_pumpMuch : Int32} {v_m_pumpFrom : Int32} {v_m_pumpTo : Int32} {v_m_cells : Nat → Int32} {v_m_room : Nat → Int32} {v_m_passes : Nat → Int32} {v_m_passOne : Nat → Int32} {v_m_passOther : Nat → Int32} {v_m_rivers : Nat → Int32} {v_m_riverCell : Nat → Int32} {v_m_riverLevel : Nat → Int32} {v_m_riverWide : Nat → Int32} {v_m_riverSalt : Nat → Int32} {v_m_rains : Nat → Int32} {v_m_villages : Nat → Int32} {v_m_home : Nat → Int32} {v_m_need : Nat → Int32} {v_m_lawFrom : Nat → Int32} {v_m_lawTo : Nat → Int32} {v_m_code : Nat → Int32} {v_m_codeInt : Nat → Int32} {v_m_wants : Nat → Int32} {v_m_isOff : Nat → Int32} {v_m_wide : Nat → Int32} {v_m_rainNow : Nat → Int32} {v_m_isBroken : Int32} {v_m_rowDay : Int32} {v_m_takenAll : Int64} {v_m_riversAll : Int64} {v_m_variables : Nat → Int32} {v_m_pile : Nat → Int32} {v_m_row : Nat → Int64} {v_m_taken : Nat → Int64} {v_m_isDry : Nat → Int32} {v_m_wouldLack : Nat → Int32} {v_m_more : Nat → Int64} {v_m_moreSalt : Nat → Int64} : pa (f_X7_goesBy v_m_live v_m_changed v_m_changedAt v_m_pumpCell v_m_pumpMuch v_m_pumpFrom v_m_pumpTo v_m_cells v_m_room v_m_passes v_m_passOne v_m_passOther v_m_rivers v_m_riverCell v_m_riverLevel v_m_riverWide v_m_riverSalt v_m_rains v_m_villages v_m_home v_m_need v_m_lawFrom v_m_lawTo v_m_code v_m_codeInt v_m_wants v_m_isOff v_m_wide v_m_rainNow v_m_isBroken v_m_rowDay v_m_takenAll v_m_riversAll v_m_variables v_m_pile v_m_row v_m_taken v_m_isDry v_m_wouldLack v_m_more v_m_moreSalt) (fun o => o.2.1 = v_m_rowDay + 1) := by
  unfold f_X7_goesBy
  exact pa_bd (pa_T _) (fun _ _ => pa_bd8 (pa_T _) (fun _ _ _ _ _ _ _ _ _ => pa_bd4 (pa_T _) (fun _ _ _ _ _ => pa_some rfl)))
theorem m_gf6 {v_m_day : Int32} {v_m_now : Nat → Int64} : ∀ (n : Nat) (v_m_rowDay : Int32) (v_m_changed : Int32) (v_m_pumpCell : Int32) (v_m_takenAll : Int64) (v_m_riversAll : Int64) (v_m_row : (Nat → Int64)) (v_m_wants : (Nat → Int32)) (v_m_isOff : (Nat → Int32)) (v_m_wide : (Nat → Int32)) (v_m_rainNow : (Nat → Int32)) (x1 : Int32), pa (f_X7_goesFrom_b6 v_m_day v_m_now n v_m_rowDay v_m_changed v_m_pumpCell v_m_takenAll v_m_riversAll v_m_row v_m_wants v_m_isOff v_m_wide v_m_rainNow x1) (fun o => o.1 = v_m_day) := by
  intro n
  induction n with
  | zero => intro _ _ _ _ _ _ _ _ _ _ _; exact pa_none
  | succ n ih =>
    intro v_m_rowDay v_m_changed v_m_pumpCell v_m_takenAll v_m_riversAll v_m_row v_m_wants v_m_isOff v_m_wide v_m_rainNow x1
    show pa (f_X7_goesFrom_b6_st (f_X7_goesFrom_b6 v_m_day v_m_now n) v_m_day v_m_now v_m_rowDay v_m_changed v_m_pumpCell v_m_takenAll v_m_riversAll v_m_row v_m_wants v_m_isOff v_m_wide v_m_rainNow x1) _
    unfold f_X7_goesFrom_b6_st
    exact pa_if (fun _ => pa_some rfl) (fun _ => pa_ck (fun _ => pa_ck (fun _ => pa_nx (ih _ _ _ _ _ _ _ _ _ _ _))))
theorem m_goesFrom {v_m_live : Int32} {v_m_day : Int32} {v_m_passWide : Nat → Int32} {v_m_rain : Nat → Int32} {v_m_now : Nat → Int64} {v_m_rowDay : Int32} {v_m_changed : Int32} {v_m_pumpCell : Int32} {v_m_takenAll : Int64} {v_m_riversAll : Int64} {v_m_row : Nat → Int64} {v_m_wants : Nat → Int32} {v_m_isOff : Nat → Int32} {v_m_wide : Nat → Int32} {v_m_rainNow : Nat → Int32} : pa (f_X7_goesFrom v_m_live v_m_day v_m_passWide v_m_rain v_m_now v_m_rowDay v_m_changed v_m_pumpCell v_m_takenAll v_m_riversAll v_m_row v_m_wants v_m_isOff v_m_wide v_m_rainNow) (fun o => o.1 = v_m_day) := by
  unfold f_X7_goesFrom
  exact pa_bd8 (pa_T _) (fun _ _ _ _ _ _ _ _ _ => m_gf6 _ _ _ _ _ _ _ _ _ _ _ _)
theorem m_k2 {v_m_rowDay : Int32} {v_m_row : Nat → Int64} : ∀ (n : Nat) (v_m_day : Int32) (v_m_now : (Nat → Int64)) (x1 : Int32), pa (f_X7_keeps_b2 v_m_rowDay v_m_row n v_m_day v_m_now x1) (fun o => o.1 = v_m_rowDay) := by
  intro n
  induction n with
  | zero => intro _ _ _; exact pa_none
  | succ n ih =>
    intro v_m_day v_m_now x1
    show pa (f_X7_keeps_b2_st (f_X7_keeps_b2 v_m_rowDay v_m_row n) v_m_rowDay v_m_row v_m_day v_m_now x1) _
    unfold f_X7_keeps_b2_st
    exact pa_if (fun _ => pa_some rfl) (fun _ => pa_ck (fun _ => pa_ck (fun _ => pa_nx (ih _ _ _))))
theorem m_keeps {v_m_rowDay v_m_day : Int32} {v_m_row v_m_now : Nat → Int64} : pa (f_X7_keeps v_m_rowDay v_m_row v_m_day v_m_now) (fun o => o.1 = v_m_rowDay) := by
  unfold f_X7_keeps
  exact m_k2 _ _ _ _
theorem j_days {v_g_cells : Int32} {v_g_passes : Int32} {v_g_rivers : Int32} {v_g_villages : Int32} {v_g_rains : Int32} {v_g_room : Nat → Int32} {v_g_passFrom : Nat → Int32} {v_g_passTo : Nat → Int32} {v_g_riverCell : Nat → Int32} {v_g_riverLevel : Nat → Int32} {v_g_riverSalt : Nat → Int32} {v_g_villageCell : Nat → Int32} {v_g_need : Nat → Int32} {v_g_lawEnd : Nat → Int32} {v_g_code : Nat → Int32} {v_p_pumpTakes : Int32} {v_p_pumpFrom : Int32} {v_p_pumpTo : Int32} {v_m_live : Int32} {v_m_changedAt : Int32} {v_m_pumpMuch : Int32} {v_m_pumpFrom : Int32} {v_m_pumpTo : Int32} {v_m_cells : Nat → Int32} {v_m_room : Nat → Int32} {v_m_passes : Nat → Int32} {v_m_passOne : Nat → Int32} {v_m_passOther : Nat → Int32} {v_m_rivers : Nat → Int32} {v_m_riverCell : Nat → Int32} {v_m_riverLevel : Nat → Int32} {v_m_riverWide : Nat → Int32} {v_m_riverSalt : Nat → Int32} {v_m_rains : Nat → Int32} {v_m_villages : Nat → Int32} {v_m_home : Nat → Int32} {v_m_need : Nat → Int32} {v_m_lawFrom : Nat → Int32} {v_m_lawTo : Nat → Int32} {v_m_code : Nat → Int32} {v_m_codeInt : Nat → Int32} {x1 : Int32} : ∀ (n k : Nat) (v_p_pumpCell : Int32) (v_p_wanting : (Nat → Int32)) (v_p_passWidth : (Nat → Int32)) (v_p_riverWidth : (Nat → Int32)) (v_p_rain : (Nat → Int32)) (v_c_pumped : Int32) (v_c_today : Int32) (v_c_lacked : (Nat → Int32)) (v_c_level : (Nat → Int32)) (v_c_water : (Nat → Int32)) (v_c_salt : (Nat → Int64)) (v_c_stack : (Nat → Int32)) (v_n_day : Int32) (v_n_water : (Nat → Int32)) (v_n_salt : (Nat → Int64)) (v_n_seen : (Nat → Int32)) (v_n_took : (Nat → Int32)) (v_n_dryDays : (Nat → Int32)) (v_n_firstDry : (Nat → Int32)) (v_n_total : (Nat → Int32)) (v_m_isBroken : Int32) (v_m_day : Int32) (v_m_rowDay : Int32) (v_m_changed : Int32) (v_m_pumpCell : Int32) (v_m_takenAll : Int64) (v_m_riversAll : Int64) (v_m_variables : (Nat → Int32)) (v_m_pile : (Nat → Int32)) (v_m_now : (Nat → Int64)) (v_m_row : (Nat → Int64)) (v_m_wants : (Nat → Int32)) (v_m_isOff : (Nat → Int32)) (v_m_wide : (Nat → Int32)) (v_m_rainNow : (Nat → Int32)) (v_m_taken : (Nat → Int64)) (v_m_isDry : (Nat → Int32)) (v_m_wouldLack : (Nat → Int32)) (v_m_more : (Nat → Int64)) (v_m_moreSalt : (Nat → Int64)) (x2 : Int32), v_n_day = v_m_rowDay → pj (f_X6_run_b26 v_g_cells v_g_passes v_g_rivers v_g_villages v_g_rains v_g_room v_g_passFrom v_g_passTo v_g_riverCell v_g_riverLevel v_g_riverSalt v_g_villageCell v_g_need v_g_lawEnd v_g_code v_p_pumpTakes v_p_pumpFrom v_p_pumpTo n v_p_pumpCell v_p_wanting v_p_passWidth v_p_riverWidth v_p_rain v_c_pumped v_c_today v_c_lacked v_c_level v_c_water v_c_salt v_c_stack v_n_day v_n_water v_n_salt v_n_seen v_n_took v_n_dryDays v_n_firstDry v_n_total x1 x2) (f_X7_run_b19 v_m_live v_m_changedAt v_m_pumpMuch v_m_pumpFrom v_m_pumpTo v_m_cells v_m_room v_m_passes v_m_passOne v_m_passOther v_m_rivers v_m_riverCell v_m_riverLevel v_m_riverWide v_m_riverSalt v_m_rains v_m_villages v_m_home v_m_need v_m_lawFrom v_m_lawTo v_m_code v_m_codeInt k v_m_isBroken v_m_day v_m_rowDay v_m_changed v_m_pumpCell v_m_takenAll v_m_riversAll v_m_variables v_m_pile v_m_now v_m_row v_m_wants v_m_isOff v_m_wide v_m_rainNow v_m_taken v_m_isDry v_m_wouldLack v_m_more v_m_moreSalt x1 x2) (fun a b => a.1 = b.1 ∧ a.2.2.2.2.2.2.2.2.2.2.2.2.2.1 = b.2.2.1) := by
  intro n
  induction n with
  | zero => intro k _ _ _ _ _ _ _ _ _ _ _ _ _ _ _ _ _ _ _ _ _ _ _ _ _ _ _ _ _ _ _ _ _ _ _ _ _ _ _ _ _ _; exact pj_nl
  | succ n ih =>
    intro k v_p_pumpCell v_p_wanting v_p_passWidth v_p_riverWidth v_p_rain v_c_pumped v_c_today v_c_lacked v_c_level v_c_water v_c_salt v_c_stack v_n_day v_n_water v_n_salt v_n_seen v_n_took v_n_dryDays v_n_firstDry v_n_total v_m_isBroken v_m_day v_m_rowDay v_m_changed v_m_pumpCell v_m_takenAll v_m_riversAll v_m_variables v_m_pile v_m_now v_m_row v_m_wants v_m_isOff v_m_wide v_m_rainNow v_m_taken v_m_isDry v_m_wouldLack v_m_more v_m_moreSalt x2 hd
    cases k with
    | zero => exact pj_nr
    | succ k =>
      show pj (f_X6_run_b26_st (f_X6_run_b26 v_g_cells v_g_passes v_g_rivers v_g_villages v_g_rains v_g_room v_g_passFrom v_g_passTo v_g_riverCell v_g_riverLevel v_g_riverSalt v_g_villageCell v_g_need v_g_lawEnd v_g_code v_p_pumpTakes v_p_pumpFrom v_p_pumpTo n) v_g_cells v_g_passes v_g_rivers v_g_villages v_g_rains v_g_room v_g_passFrom v_g_passTo v_g_riverCell v_g_riverLevel v_g_riverSalt v_g_villageCell v_g_need v_g_lawEnd v_g_code v_p_pumpTakes v_p_pumpFrom v_p_pumpTo v_p_pumpCell v_p_wanting v_p_passWidth v_p_riverWidth v_p_rain v_c_pumped v_c_today v_c_lacked v_c_level v_c_water v_c_salt v_c_stack v_n_day v_n_water v_n_salt v_n_seen v_n_took v_n_dryDays v_n_firstDry v_n_total x1 x2) (f_X7_run_b19_st (f_X7_run_b19 v_m_live v_m_changedAt v_m_pumpMuch v_m_pumpFrom v_m_pumpTo v_m_cells v_m_room v_m_passes v_m_passOne v_m_passOther v_m_rivers v_m_riverCell v_m_riverLevel v_m_riverWide v_m_riverSalt v_m_rains v_m_villages v_m_home v_m_need v_m_lawFrom v_m_lawTo v_m_code v_m_codeInt k) v_m_live v_m_changedAt v_m_pumpMuch v_m_pumpFrom v_m_pumpTo v_m_cells v_m_room v_m_passes v_m_passOne v_m_passOther v_m_rivers v_m_riverCell v_m_riverLevel v_m_riverWide v_m_riverSalt v_m_rains v_m_villages v_m_home v_m_need v_m_lawFrom v_m_lawTo v_m_code v_m_codeInt v_m_isBroken v_m_day v_m_rowDay v_m_changed v_m_pumpCell v_m_takenAll v_m_riversAll v_m_variables v_m_pile v_m_now v_m_row v_m_wants v_m_isOff v_m_wide v_m_rainNow v_m_taken v_m_isDry v_m_wouldLack v_m_more v_m_moreSalt x1 x2) _
      unfold f_X6_run_b26_st f_X7_run_b19_st
      refine pj_ifl (fun c => pj_ifr (fun _ => pj_br2 m_keeps (fun o o2 ho => pj_ss ⟨hd.trans ho.symm, hd.trans ho.symm⟩)) (fun d => absurd c d)) (fun c => pj_ifr (fun d => absurd d c) (fun _ => pj_bl15 c_oneDay (fun a0 a1 a2 a3 a4 a5 a6 a7 a8 a9 a10 a11 a12 a13 a14 ha => pj_br12 m_goesBy (fun b0 b1 b2 b3 b4 b5 b6 b7 b8 b9 b10 b11 hb => ih k _ _ _ _ _ _ _ _ _ _ _ _ _ _ _ _ _ _ _ _ _ _ _ _ _ _ _ _ _ _ _ _ _ _ _ _ _ _ _ _ _ ?_))))
      have ha' : a7 = v_n_day + 1 := ha
      have hb' : b1 = v_m_rowDay + 1 := hb
      rw [ha', hb', hd]
theorem j_run {v_g_cells : Int32} {v_g_passes : Int32} {v_g_rivers : Int32} {v_g_villages : Int32} {v_g_rains : Int32} {v_g_room : Nat → Int32} {v_g_passFrom : Nat → Int32} {v_g_passTo : Nat → Int32} {v_g_passWidth : Nat → Int32} {v_g_riverCell : Nat → Int32} {v_g_riverLevel : Nat → Int32} {v_g_riverWidth : Nat → Int32} {v_g_riverSalt : Nat → Int32} {v_g_villageCell : Nat → Int32} {v_g_need : Nat → Int32} {v_g_lawEnd : Nat → Int32} {v_g_code : Nat → Int32} {v_g_rain : Nat → Int32} {v_p_pumpTakes : Int32} {v_p_pumpFrom : Int32} {v_p_pumpTo : Int32} {v_p_pumpCell : Int32} {v_p_wanting : Nat → Int32} {v_p_passWidth : Nat → Int32} {v_p_riverWidth : Nat → Int32} {v_p_rain : Nat → Int32} {v_c_pumped : Int32} {v_c_today : Int32} {v_c_lacked : Nat → Int32} {v_c_level : Nat → Int32} {v_c_water : Nat → Int32} {v_c_salt : Nat → Int64} {v_c_stack : Nat → Int32} {v_n_day : Int32} {v_n_water : Nat → Int32} {v_n_salt : Nat → Int64} {v_n_seen : Nat → Int32} {v_n_took : Nat → Int32} {v_n_dryDays : Nat → Int32} {v_n_firstDry : Nat → Int32} {v_n_total : Nat → Int32} {q1 : Int32} {v_m_live : Int32} {v_m_changedAt : Int32} {v_m_pumpMuch : Int32} {v_m_pumpFrom : Int32} {v_m_pumpTo : Int32} {v_m_cells : Nat → Int32} {v_m_room : Nat → Int32} {v_m_passes : Nat → Int32} {v_m_passOne : Nat → Int32} {v_m_passOther : Nat → Int32} {v_m_passWide : Nat → Int32} {v_m_rivers : Nat → Int32} {v_m_riverCell : Nat → Int32} {v_m_riverLevel : Nat → Int32} {v_m_riverWide : Nat → Int32} {v_m_riverSalt : Nat → Int32} {v_m_rains : Nat → Int32} {v_m_rain : Nat → Int32} {v_m_villages : Nat → Int32} {v_m_home : Nat → Int32} {v_m_need : Nat → Int32} {v_m_lawFrom : Nat → Int32} {v_m_lawTo : Nat → Int32} {v_m_code : Nat → Int32} {v_m_codeInt : Nat → Int32} {v_m_isBroken : Int32} {v_m_day : Int32} {v_m_rowDay : Int32} {v_m_changed : Int32} {v_m_pumpCell : Int32} {v_m_takenAll : Int64} {v_m_riversAll : Int64} {v_m_variables : Nat → Int32} {v_m_pile : Nat → Int32} {v_m_now : Nat → Int64} {v_m_row : Nat → Int64} {v_m_wants : Nat → Int32} {v_m_isOff : Nat → Int32} {v_m_wide : Nat → Int32} {v_m_rainNow : Nat → Int32} {v_m_taken : Nat → Int64} {v_m_isDry : Nat → Int32} {v_m_wouldLack : Nat → Int32} {v_m_more : Nat → Int64} {v_m_moreSalt : Nat → Int64} (hd : v_n_day = v_m_day) : pj (f_X6_run v_g_cells v_g_passes v_g_rivers v_g_villages v_g_rains v_g_room v_g_passFrom v_g_passTo v_g_passWidth v_g_riverCell v_g_riverLevel v_g_riverWidth v_g_riverSalt v_g_villageCell v_g_need v_g_lawEnd v_g_code v_g_rain v_p_pumpTakes v_p_pumpFrom v_p_pumpTo v_p_pumpCell v_p_wanting v_p_passWidth v_p_riverWidth v_p_rain v_c_pumped v_c_today v_c_lacked v_c_level v_c_water v_c_salt v_c_stack v_n_day v_n_water v_n_salt v_n_seen v_n_took v_n_dryDays v_n_firstDry v_n_total q1) (f_X7_run v_m_live v_m_changedAt v_m_pumpMuch v_m_pumpFrom v_m_pumpTo v_m_cells v_m_room v_m_passes v_m_passOne v_m_passOther v_m_passWide v_m_rivers v_m_riverCell v_m_riverLevel v_m_riverWide v_m_riverSalt v_m_rains v_m_rain v_m_villages v_m_home v_m_need v_m_lawFrom v_m_lawTo v_m_code v_m_codeInt v_m_isBroken v_m_day v_m_rowDay v_m_changed v_m_pumpCell v_m_takenAll v_m_riversAll v_m_variables v_m_pile v_m_now v_m_row v_m_wants v_m_isOff v_m_wide v_m_rainNow v_m_taken v_m_isDry v_m_wouldLack v_m_more v_m_moreSalt q1) (fun a b => a.1 = b.1 ∧ a.2.2.2.2.2.2.2.2.2.2.2.2.2.1 = b.2.2.1) := by
  unfold f_X6_run f_X7_run
  have z0 : (0 : Int32).toInt = 0 := rfl
  have z4 : (400 : Int32).toInt = 400 := rfl
  refine pj_br (m_in q1 0 400) (fun r hr => ?_)
  rcases hr with ⟨rfl, hr⟩ | ⟨rfl, hr⟩
  · refine pj_ifl (fun c => ?_) (fun _ => pj_ifl (fun _ => pj_ifr (fun z => absurd z (by decide)) (fun _ => ?_)) (fun c => ?_))
    · have := lt_k (k := 0) rfl c
      omega
    · exact pj_bl5 (pa_T _) (fun _ _ _ _ _ _ => pj_br10 m_goesFrom (fun o0 o1 o2 o3 o4 o5 o6 o7 o8 o9 ho => j_days fuel fuel _ _ _ _ _ _ _ _ _ _ _ _ _ _ _ _ _ _ _ _ _ _ _ _ _ _ _ _ _ _ _ _ _ _ _ _ _ _ _ _ _ (hd.trans (Eq.symm ho))))
    · have := nle_k (k := 400) rfl c
      omega
  · refine pj_ifr (fun _ => ?_) (fun z => absurd rfl z)
    refine pj_ifl (fun _ => pj_ss ⟨rfl, hd⟩) (fun c => pj_ifl (fun d => ?_) (fun _ => pj_ss ⟨rfl, hd⟩))
    have := nlt_k (k := 0) rfl c
    have := le_k (k := 400) rfl d
    omega
/-- the GROUND alike: the class's against the reference's live side -/
def GRD (live c_cells c_passes c_rivers c_villages c_rains : Int32) (c_room c_water c_passFrom c_passTo c_passWidth c_riverCell c_riverLevel c_riverWidth c_villageCell c_need c_rain n_cells n_passes n_rivers n_villages n_rains n_room n_water n_passOne n_passOther n_passWide n_riverCell n_riverLevel n_riverWide n_home n_need n_rain : Nat → Int32) : Prop := (0 ≤ live.toInt ∧ live.toInt ≤ 1) ∧ n_cells live.toNatClampNeg = c_cells ∧ (0 ≤ c_cells.toInt ∧ c_cells.toInt ≤ 12) ∧ n_passes live.toNatClampNeg = c_passes ∧ (0 ≤ c_passes.toInt ∧ c_passes.toInt ≤ 20) ∧ n_rivers live.toNatClampNeg = c_rivers ∧ (0 ≤ c_rivers.toInt ∧ c_rivers.toInt ≤ 3) ∧ n_villages live.toNatClampNeg = c_villages ∧ (0 ≤ c_villages.toInt ∧ c_villages.toInt ≤ 6) ∧ n_rains live.toNatClampNeg = c_rains ∧ (0 ≤ c_rains.toInt ∧ c_rains.toInt ≤ 14) ∧ AL c_room n_room (12 * live.toNatClampNeg) c_cells.toInt ∧ AL c_water n_water (12 * live.toNatClampNeg) c_cells.toInt ∧ AL c_passFrom n_passOne (20 * live.toNatClampNeg) c_passes.toInt ∧ AL c_passTo n_passOther (20 * live.toNatClampNeg) c_passes.toInt ∧ AL c_passWidth n_passWide (20 * live.toNatClampNeg) c_passes.toInt ∧ AL c_riverCell n_riverCell (3 * live.toNatClampNeg) c_rivers.toInt ∧ AL c_riverLevel n_riverLevel (3 * live.toNatClampNeg) c_rivers.toInt ∧ AL c_riverWidth n_riverWide (3 * live.toNatClampNeg) c_rivers.toInt ∧ AL c_villageCell n_home (6 * live.toNatClampNeg) c_villages.toInt ∧ AL c_need n_need (6 * live.toNatClampNeg) c_villages.toInt ∧ AL c_rain n_rain (14 * live.toNatClampNeg) c_rains.toInt
theorem cp_at {f g : Nat → Int32} {N : Int32} {n i : Nat} (hn : N.toNatClampNeg = n) (h : i < n) : va_cpy f g (0 : Int32).toNatClampNeg (0 : Int32).toNatClampNeg N.toNatClampNeg i = f i := by
  unfold va_cpy
  rw [hn]
  show (if (0 : Nat) ≤ i ∧ i < 0 + n then f (0 + (i - 0)) else g i) = f i
  rw [if_pos (by omega)]
  rw [Nat.zero_add, Nat.sub_zero]
theorem c_become3 {v_o_cells : Int32} {v_o_passes : Int32} {v_o_rivers : Int32} {v_o_villages : Int32} {v_o_rains : Int32} {v_o_room : Nat → Int32} {v_o_water : Nat → Int32} {v_o_ways : Nat → Int32} {v_o_passFrom : Nat → Int32} {v_o_passTo : Nat → Int32} {v_o_passWidth : Nat → Int32} {v_o_riverCell : Nat → Int32} {v_o_riverLevel : Nat → Int32} {v_o_riverWidth : Nat → Int32} {v_o_riverSalt : Nat → Int32} {v_o_villageCell : Nat → Int32} {v_o_need : Nat → Int32} {v_o_lawEnd : Nat → Int32} {v_o_code : Nat → Int32} {v_o_rain : Nat → Int32} {v_g_cells : Int32} {v_g_passes : Int32} {v_g_rivers : Int32} {v_g_villages : Int32} {v_g_rains : Int32} {v_g_room : Nat → Int32} {v_g_water : Nat → Int32} {v_g_ways : Nat → Int32} {v_g_passFrom : Nat → Int32} {v_g_passTo : Nat → Int32} {v_g_passWidth : Nat → Int32} {v_g_riverCell : Nat → Int32} {v_g_riverLevel : Nat → Int32} {v_g_riverWidth : Nat → Int32} {v_g_riverSalt : Nat → Int32} {v_g_villageCell : Nat → Int32} {v_g_need : Nat → Int32} {v_g_lawEnd : Nat → Int32} {v_g_code : Nat → Int32} {v_g_rain : Nat → Int32} : pa (f_X3_become v_o_cells v_o_passes v_o_rivers v_o_villages v_o_rains v_o_room v_o_water v_o_ways v_o_passFrom v_o_passTo v_o_passWidth v_o_riverCell v_o_riverLevel v_o_riverWidth v_o_riverSalt v_o_villageCell v_o_need v_o_lawEnd v_o_code v_o_rain v_g_cells v_g_passes v_g_rivers v_g_villages v_g_rains v_g_room v_g_water v_g_ways v_g_passFrom v_g_passTo v_g_passWidth v_g_riverCell v_g_riverLevel v_g_riverWidth v_g_riverSalt v_g_villageCell v_g_need v_g_lawEnd v_g_code v_g_rain) (fun o => o.1 = v_o_cells ∧ o.2.1 = v_o_passes ∧ o.2.2.1 = v_o_rivers ∧ o.2.2.2.1 = v_o_villages ∧ o.2.2.2.2.1 = v_o_rains ∧ (∀ i : Nat, i < 12 → o.2.2.2.2.2.1 i = v_o_room i) ∧ (∀ i : Nat, i < 12 → o.2.2.2.2.2.2.1 i = v_o_water i) ∧ (∀ i : Nat, i < 12 → o.2.2.2.2.2.2.2.1 i = v_o_ways i) ∧ (∀ i : Nat, i < 20 → o.2.2.2.2.2.2.2.2.1 i = v_o_passFrom i) ∧ (∀ i : Nat, i < 20 → o.2.2.2.2.2.2.2.2.2.1 i = v_o_passTo i) ∧ (∀ i : Nat, i < 20 → o.2.2.2.2.2.2.2.2.2.2.1 i = v_o_passWidth i) ∧ (∀ i : Nat, i < 3 → o.2.2.2.2.2.2.2.2.2.2.2.1 i = v_o_riverCell i) ∧ (∀ i : Nat, i < 3 → o.2.2.2.2.2.2.2.2.2.2.2.2.1 i = v_o_riverLevel i) ∧ (∀ i : Nat, i < 3 → o.2.2.2.2.2.2.2.2.2.2.2.2.2.1 i = v_o_riverWidth i) ∧ (∀ i : Nat, i < 3 → o.2.2.2.2.2.2.2.2.2.2.2.2.2.2.1 i = v_o_riverSalt i) ∧ (∀ i : Nat, i < 6 → o.2.2.2.2.2.2.2.2.2.2.2.2.2.2.2.1 i = v_o_villageCell i) ∧ (∀ i : Nat, i < 6 → o.2.2.2.2.2.2.2.2.2.2.2.2.2.2.2.2.1 i = v_o_need i) ∧ (∀ i : Nat, i < 6 → o.2.2.2.2.2.2.2.2.2.2.2.2.2.2.2.2.2.1 i = v_o_lawEnd i) ∧ (∀ i : Nat, i < 400 → o.2.2.2.2.2.2.2.2.2.2.2.2.2.2.2.2.2.2.1 i = v_o_code i) ∧ (∀ i : Nat, i < 14 → o.2.2.2.2.2.2.2.2.2.2.2.2.2.2.2.2.2.2.2 i = v_o_rain i)) := by
  unfold f_X3_become
  exact pa_nx (pa_nx (pa_nx (pa_nx (pa_nx (pa_nx (pa_nx (pa_nx (pa_nx (pa_nx (pa_nx (pa_nx (pa_nx (pa_nx (pa_nx (pa_some ⟨rfl, rfl, rfl, rfl, rfl, fun _ h => cp_at (n := 12) rfl h, fun _ h => cp_at (n := 12) rfl h, fun _ h => cp_at (n := 12) rfl h, fun _ h => cp_at (n := 20) rfl h, fun _ h => cp_at (n := 20) rfl h, fun _ h => cp_at (n := 20) rfl h, fun _ h => cp_at (n := 3) rfl h, fun _ h => cp_at (n := 3) rfl h, fun _ h => cp_at (n := 3) rfl h, fun _ h => cp_at (n := 3) rfl h, fun _ h => cp_at (n := 6) rfl h, fun _ h => cp_at (n := 6) rfl h, fun _ h => cp_at (n := 6) rfl h, fun _ h => cp_at (n := 400) rfl h, fun _ h => cp_at (n := 14) rfl h⟩)))))))))))))))
theorem GRD_of {live r_cells r_passes r_rivers r_villages r_rains e_cells e_passes e_rivers e_villages e_rains : Int32} {r_room r_water r_ways r_passFrom r_passTo r_passWidth r_riverCell r_riverLevel r_riverWidth r_riverSalt r_villageCell r_need r_lawEnd r_code r_rain e_room e_water e_ways e_passFrom e_passTo e_passWidth e_riverCell e_riverLevel e_riverWidth e_riverSalt e_villageCell e_need e_lawEnd e_code e_rain n_cells n_passes n_rivers n_villages n_rains n_room n_water n_passOne n_passOther n_passWide n_riverCell n_riverLevel n_riverWide n_home n_need n_rain nwy nrs : Nat → Int32} (g1 : G1 live r_cells r_room r_water r_ways n_cells n_room n_water nwy) (g2 : G2 live r_passes r_passFrom r_passTo r_passWidth n_passes n_passOne n_passOther n_passWide) (g3 : G3 live r_rivers r_riverCell r_riverLevel r_riverWidth r_riverSalt n_rivers n_riverCell n_riverLevel n_riverWide nrs) (g4 : G4 live r_rains r_rain n_rains n_rain) (g5 : G5 live r_villages r_villageCell r_need n_villages n_home n_need) (h : e_cells = r_cells ∧ e_passes = r_passes ∧ e_rivers = r_rivers ∧ e_villages = r_villages ∧ e_rains = r_rains ∧ (∀ i : Nat, i < 12 → e_room i = r_room i) ∧ (∀ i : Nat, i < 12 → e_water i = r_water i) ∧ (∀ i : Nat, i < 12 → e_ways i = r_ways i) ∧ (∀ i : Nat, i < 20 → e_passFrom i = r_passFrom i) ∧ (∀ i : Nat, i < 20 → e_passTo i = r_passTo i) ∧ (∀ i : Nat, i < 20 → e_passWidth i = r_passWidth i) ∧ (∀ i : Nat, i < 3 → e_riverCell i = r_riverCell i) ∧ (∀ i : Nat, i < 3 → e_riverLevel i = r_riverLevel i) ∧ (∀ i : Nat, i < 3 → e_riverWidth i = r_riverWidth i) ∧ (∀ i : Nat, i < 3 → e_riverSalt i = r_riverSalt i) ∧ (∀ i : Nat, i < 6 → e_villageCell i = r_villageCell i) ∧ (∀ i : Nat, i < 6 → e_need i = r_need i) ∧ (∀ i : Nat, i < 6 → e_lawEnd i = r_lawEnd i) ∧ (∀ i : Nat, i < 400 → e_code i = r_code i) ∧ (∀ i : Nat, i < 14 → e_rain i = r_rain i)) : GRD live e_cells e_passes e_rivers e_villages e_rains e_room e_water e_passFrom e_passTo e_passWidth e_riverCell e_riverLevel e_riverWidth e_villageCell e_need e_rain n_cells n_passes n_rivers n_villages n_rains n_room n_water n_passOne n_passOther n_passWide n_riverCell n_riverLevel n_riverWide n_home n_need n_rain := by
  obtain ⟨h0, h1, h2, h3, h4, h5, h6, h7, h8, h9, h10, h11, h12, h13, h14, h15, h16, h17, h18, h19⟩ := h
  obtain ⟨gl, g1b, g1c, g1r, g1w, _, _⟩ := g1
  obtain ⟨_, g2b, g2c, g2f, g2t, g2w⟩ := g2
  obtain ⟨_, g3b, g3c, g3r, g3l, g3w, _⟩ := g3
  obtain ⟨_, g4b, g4c, g4r⟩ := g4
  obtain ⟨_, g5b, g5c, g5v, g5n⟩ := g5
  subst h0 h1 h2 h3 h4
  exact ⟨gl, g1c, g1b, g2c, g2b, g3c, g3b, g5c, g5b, g4c, g4b, fun i hi => (h5 i (by omega)).trans (g1r i hi), fun i hi => (h6 i (by omega)).trans (g1w i hi), fun i hi => (h8 i (by omega)).trans (g2f i hi), fun i hi => (h9 i (by omega)).trans (g2t i hi), fun i hi => (h10 i (by omega)).trans (g2w i hi), fun i hi => (h11 i (by omega)).trans (g3r i hi), fun i hi => (h12 i (by omega)).trans (g3l i hi), fun i hi => (h13 i (by omega)).trans (g3w i hi), fun i hi => (h15 i (by omega)).trans (g5v i hi), fun i hi => (h16 i (by omega)).trans (g5n i hi), fun i hi => (h19 i (by omega)).trans (g4r i hi)⟩
theorem GRD_keep {s live c_cells c_passes c_rivers c_villages c_rains : Int32} {c_room c_water c_passFrom c_passTo c_passWidth c_riverCell c_riverLevel c_riverWidth c_villageCell c_need c_rain n_cells n_room n_water n_passes n_passOne n_passOther n_passWide n_rivers n_riverCell n_riverLevel n_riverWide n_rains n_rain n_villages n_home n_need n_lawFrom n_lawTo n_code n_codeInt b_cells b_room b_water b_passes b_passOne b_passOther b_passWide b_rivers b_riverCell b_riverLevel b_riverWide b_rains b_rain b_villages b_home b_need b_lawFrom b_lawTo b_code b_codeInt : Nat → Int32} (h : GRD live c_cells c_passes c_rivers c_villages c_rains c_room c_water c_passFrom c_passTo c_passWidth c_riverCell c_riverLevel c_riverWidth c_villageCell c_need c_rain n_cells n_passes n_rivers n_villages n_rains n_room n_water n_passOne n_passOther n_passWide n_riverCell n_riverLevel n_riverWide n_home n_need n_rain) (hs : rg s 0 1) (hv : live.toInt = 1 - s.toInt) (hM : FM s b_cells b_room b_water b_passes b_passOne b_passOther b_passWide b_rivers b_riverCell b_riverLevel b_riverWide b_rains b_rain b_villages b_home b_need b_lawFrom b_lawTo b_code b_codeInt n_cells n_room n_water n_passes n_passOne n_passOther n_passWide n_rivers n_riverCell n_riverLevel n_riverWide n_rains n_rain n_villages n_home n_need n_lawFrom n_lawTo n_code n_codeInt) : GRD live c_cells c_passes c_rivers c_villages c_rains c_room c_water c_passFrom c_passTo c_passWidth c_riverCell c_riverLevel c_riverWidth c_villageCell c_need c_rain b_cells b_passes b_rivers b_villages b_rains b_room b_water b_passOne b_passOther b_passWide b_riverCell b_riverLevel b_riverWide b_home b_need b_rain := by
  obtain ⟨hl, e0, k0, e1, k1, e2, k2, e3, k3, e4, k4, a5, a6, a7, a8, a9, a10, a11, a12, a13, a14, a15⟩ := h
  obtain ⟨s0, s1⟩ := hs
  have el : (live.toNatClampNeg : Int) = live.toInt := cl_k hl.1
  exact ⟨hl, ((hM.1 live.toNatClampNeg (by omega)).trans e0), k0, ((hM.2.2.2.1 live.toNatClampNeg (by omega)).trans e1), k1, ((hM.2.2.2.2.2.2.2.1 live.toNatClampNeg (by omega)).trans e2), k2, ((hM.2.2.2.2.2.2.2.2.2.2.2.2.2.1 live.toNatClampNeg (by omega)).trans e3), k3, ((hM.2.2.2.2.2.2.2.2.2.2.2.1 live.toNatClampNeg (by omega)).trans e4), k4, fun i hi => (a5 i hi).trans (hM.2.1 _ (by omega)).symm, fun i hi => (a6 i hi).trans (hM.2.2.1 _ (by omega)).symm, fun i hi => (a7 i hi).trans (hM.2.2.2.2.1 _ (by omega)).symm, fun i hi => (a8 i hi).trans (hM.2.2.2.2.2.1 _ (by omega)).symm, fun i hi => (a9 i hi).trans (hM.2.2.2.2.2.2.1 _ (by omega)).symm, fun i hi => (a10 i hi).trans (hM.2.2.2.2.2.2.2.2.1 _ (by omega)).symm, fun i hi => (a11 i hi).trans (hM.2.2.2.2.2.2.2.2.2.1 _ (by omega)).symm, fun i hi => (a12 i hi).trans (hM.2.2.2.2.2.2.2.2.2.2.1 _ (by omega)).symm, fun i hi => (a13 i hi).trans (hM.2.2.2.2.2.2.2.2.2.2.2.2.2.2.1 _ (by omega)).symm, fun i hi => (a14 i hi).trans (hM.2.2.2.2.2.2.2.2.2.2.2.2.2.2.2.1 _ (by omega)).symm, fun i hi => (a15 i hi).trans (hM.2.2.2.2.2.2.2.2.2.2.2.2.1 _ (by omega)).symm⟩
theorem c_sa20 {v_n_day : Int32} {v_n_water : Nat → Int32} {v_n_salt : Nat → Int64} {v_n_seen v_n_took v_n_dryDays v_n_firstDry v_n_total : Nat → Int32} {v_e_told : Int32} {v_e_pumps : Nat → Int32} : ∀ (n : Nat) (held : Nat → Int32) (x1 : Int32) (i : Nat), x1.toInt = i → (∀ j, j < i → held j = 0) → pa (f_X6_startAnew_b20 n held v_n_day v_n_water v_n_salt v_n_seen v_n_took v_n_dryDays v_n_firstDry v_n_total v_e_told v_e_pumps x1) (fun o => (∀ j, j < 3 → o.1 j = 0) ∧ o.2.1 = v_n_day ∧ o.2.2.2.2.2.2.2.2.2.1 = v_e_told) := by
  intro n
  induction n with
  | zero => intro held x1 i _ _; exact pa_none
  | succ n ih =>
    intro held x1 i h1 hj
    show pa (f_X6_startAnew_b20_st (f_X6_startAnew_b20 n) held v_n_day v_n_water v_n_salt v_n_seen v_n_took v_n_dryDays v_n_firstDry v_n_total v_e_told v_e_pumps x1) _
    unfold f_X6_startAnew_b20_st
    refine pa_if (fun c => pa_some ⟨fun j h => hj j ?_, rfl, rfl⟩) (fun c => pa_ck (fun _ => pa_nx ?_))
    · have := k_le (k := 3) rfl c
      omega
    · have c2 := k_nle (k := 3) rfl c
      have e : (x1.toNatClampNeg : Int) = x1.toInt := cl_k (by omega)
      have t := add_k (x := x1) (v := 1) (k := 1) rfl (by omega) (by omega)
      refine ih _ (x1 + 1) (i + 1) (by omega) (fun j h => ?_)
      unfold upd
      by_cases z : j = x1.toNatClampNeg
      · rw [if_pos z]; decide
      · rw [if_neg z]; exact hj j (by omega)
theorem c_startAnew {v_g_water : Nat → Int32} {v_w_held : Nat → Int32} {v_n_day : Int32} {v_n_water : Nat → Int32} {v_n_salt : Nat → Int64} {v_n_seen : Nat → Int32} {v_n_took : Nat → Int32} {v_n_dryDays : Nat → Int32} {v_n_firstDry : Nat → Int32} {v_n_total : Nat → Int32} {v_e_told : Int32} {v_e_pumps : Nat → Int32} : pa (f_X6_startAnew v_g_water v_w_held v_n_day v_n_water v_n_salt v_n_seen v_n_took v_n_dryDays v_n_firstDry v_n_total v_e_told v_e_pumps) (fun o => (∀ j, j < 3 → o.1 j = 0) ∧ o.2.1 = 0 ∧ o.2.2.2.2.2.2.2.2.2.1 = 0) := by
  unfold f_X6_startAnew
  refine pa_bd8 (P := fun o => o.1 = 0) ?_ (fun a0 a1 a2 a3 a4 a5 a6 a7 ha => pa_bd2 (P := fun o => o.1 = 0) ?_ (fun b0 b1 hb => pa_w (c_sa20 fuel v_w_held 0 0 rfl (fun j h => absurd h (Nat.not_lt_zero _))) (fun o ho => ⟨ho.1, ho.2.1.trans ha, ho.2.2.trans hb⟩)))
  · unfold f_X1_begin
    exact pa_nx (pa_bd (pa_T _) (fun _ _ => pa_bd (pa_T _) (fun _ _ => pa_bd (pa_T _) (fun _ _ => pa_bd (pa_T _) (fun _ _ => pa_bd (pa_T _) (fun _ _ => pa_bd (pa_T _) (fun _ _ => pa_some rfl)))))))
  · unfold f_X2_clear
    exact pa_bd (pa_T _) (fun _ _ => pa_some rfl)
/-- what a read leaves on both sides -/
def JR  (c_cells c_passes c_rivers c_villages c_rains told day : Int32) (held c_room c_water c_passFrom c_passTo c_passWidth c_riverCell c_riverLevel c_riverWidth c_villageCell c_need c_rain : Nat → Int32) (a : (Int32 × Int32 × Int32 × (Nat → Int32) × Int32 × Int32 × Int32 × Int32 × Int32 × Int32 × Int32 × Int32 × (Nat → Int32) × (Nat → Int32) × (Nat → Int64) × (Nat → Int64) × (Nat → Int64) × Int32 × Int32 × Int32 × Int32 × Int32 × (Nat → Int32) × (Nat → Int32) × (Nat → Int32) × (Nat → Int32) × (Nat → Int32) × (Nat → Int32) × (Nat → Int32) × (Nat → Int32) × (Nat → Int32) × (Nat → Int32) × (Nat → Int32) × (Nat → Int32) × (Nat → Int32) × (Nat → Int32) × (Nat → Int32) × Int32 × Int32 × Int32 × Int32 × Int32 × (Nat → Int32) × (Nat → Int32) × (Nat → Int32) × (Nat → Int32) × (Nat → Int32) × (Nat → Int32) × (Nat → Int32) × (Nat → Int32) × (Nat → Int32) × (Nat → Int32) × (Nat → Int32) × (Nat → Int32) × (Nat → Int32) × (Nat → Int32) × (Nat → Int32) × Int32 × (Nat → Int32) × (Nat → Int64) × (Nat → Int32) × (Nat → Int32) × (Nat → Int32) × (Nat → Int32) × (Nat → Int32) × Int32 × (Nat → Int32))) (b : (Int32 × Int32 × Int32 × Int32 × Int32 × Int32 × Int32 × Int32 × Int32 × Int32 × Int32 × Int32 × Int32 × Int32 × Int32 × Int32 × Int32 × Int32 × Int32 × Int32 × Int64 × Int64 × Int32 × (Nat → Int32) × (Nat → Int32) × (Nat → Int32) × (Nat → Int32) × (Nat → Int64) × (Nat → Int64) × (Nat → Int32) × (Nat → Int32) × (Nat → Int32) × (Nat → Int32) × (Nat → Int32) × (Nat → Int32) × (Nat → Int32) × (Nat → Int32) × (Nat → Int32) × (Nat → Int32) × (Nat → Int32) × (Nat → Int32) × (Nat → Int32) × (Nat → Int32) × (Nat → Int32) × (Nat → Int32) × (Nat → Int32) × (Nat → Int32) × (Nat → Int32) × (Nat → Int32) × (Nat → Int32) × (Nat → Int32) × (Nat → Int32) × (Nat → Int32) × (Nat → Int64) × (Nat → Int32) × (Nat → Int64) × (Nat → Int32) × (Nat → Int32) × (Nat → Int32) × (Nat → Int32))) : Prop := a.1 = b.1 ∧ (b.1 = 0 → GRD b.2.2.2.2.2.2.2.2.2.2.2.1 a.2.2.2.2.2.2.2.2.2.2.2.2.2.2.2.2.2.2.2.2.2.2.2.2.2.2.2.2.2.2.2.2.2.2.2.2.2.1 a.2.2.2.2.2.2.2.2.2.2.2.2.2.2.2.2.2.2.2.2.2.2.2.2.2.2.2.2.2.2.2.2.2.2.2.2.2.2.1 a.2.2.2.2.2.2.2.2.2.2.2.2.2.2.2.2.2.2.2.2.2.2.2.2.2.2.2.2.2.2.2.2.2.2.2.2.2.2.2.1 a.2.2.2.2.2.2.2.2.2.2.2.2.2.2.2.2.2.2.2.2.2.2.2.2.2.2.2.2.2.2.2.2.2.2.2.2.2.2.2.2.1 a.2.2.2.2.2.2.2.2.2.2.2.2.2.2.2.2.2.2.2.2.2.2.2.2.2.2.2.2.2.2.2.2.2.2.2.2.2.2.2.2.2.1 a.2.2.2.2.2.2.2.2.2.2.2.2.2.2.2.2.2.2.2.2.2.2.2.2.2.2.2.2.2.2.2.2.2.2.2.2.2.2.2.2.2.2.1 a.2.2.2.2.2.2.2.2.2.2.2.2.2.2.2.2.2.2.2.2.2.2.2.2.2.2.2.2.2.2.2.2.2.2.2.2.2.2.2.2.2.2.2.1 a.2.2.2.2.2.2.2.2.2.2.2.2.2.2.2.2.2.2.2.2.2.2.2.2.2.2.2.2.2.2.2.2.2.2.2.2.2.2.2.2.2.2.2.2.2.1 a.2.2.2.2.2.2.2.2.2.2.2.2.2.2.2.2.2.2.2.2.2.2.2.2.2.2.2.2.2.2.2.2.2.2.2.2.2.2.2.2.2.2.2.2.2.2.1 a.2.2.2.2.2.2.2.2.2.2.2.2.2.2.2.2.2.2.2.2.2.2.2.2.2.2.2.2.2.2.2.2.2.2.2.2.2.2.2.2.2.2.2.2.2.2.2.1 a.2.2.2.2.2.2.2.2.2.2.2.2.2.2.2.2.2.2.2.2.2.2.2.2.2.2.2.2.2.2.2.2.2.2.2.2.2.2.2.2.2.2.2.2.2.2.2.2.1 a.2.2.2.2.2.2.2.2.2.2.2.2.2.2.2.2.2.2.2.2.2.2.2.2.2.2.2.2.2.2.2.2.2.2.2.2.2.2.2.2.2.2.2.2.2.2.2.2.2.1 a.2.2.2.2.2.2.2.2.2.2.2.2.2.2.2.2.2.2.2.2.2.2.2.2.2.2.2.2.2.2.2.2.2.2.2.2.2.2.2.2.2.2.2.2.2.2.2.2.2.2.1 a.2.2.2.2.2.2.2.2.2.2.2.2.2.2.2.2.2.2.2.2.2.2.2.2.2.2.2.2.2.2.2.2.2.2.2.2.2.2.2.2.2.2.2.2.2.2.2.2.2.2.2.2.1 a.2.2.2.2.2.2.2.2.2.2.2.2.2.2.2.2.2.2.2.2.2.2.2.2.2.2.2.2.2.2.2.2.2.2.2.2.2.2.2.2.2.2.2.2.2.2.2.2.2.2.2.2.2.1 a.2.2.2.2.2.2.2.2.2.2.2.2.2.2.2.2.2.2.2.2.2.2.2.2.2.2.2.2.2.2.2.2.2.2.2.2.2.2.2.2.2.2.2.2.2.2.2.2.2.2.2.2.2.2.2.2.1 b.2.2.2.2.2.2.2.2.2.2.2.2.2.2.2.2.2.2.2.2.2.2.2.2.2.2.2.2.2.2.1 b.2.2.2.2.2.2.2.2.2.2.2.2.2.2.2.2.2.2.2.2.2.2.2.2.2.2.2.2.2.2.2.2.2.2.1 b.2.2.2.2.2.2.2.2.2.2.2.2.2.2.2.2.2.2.2.2.2.2.2.2.2.2.2.2.2.2.2.2.2.2.2.2.2.2.1 b.2.2.2.2.2.2.2.2.2.2.2.2.2.2.2.2.2.2.2.2.2.2.2.2.2.2.2.2.2.2.2.2.2.2.2.2.2.2.2.2.2.2.2.2.2.1 b.2.2.2.2.2.2.2.2.2.2.2.2.2.2.2.2.2.2.2.2.2.2.2.2.2.2.2.2.2.2.2.2.2.2.2.2.2.2.2.2.2.2.2.1 b.2.2.2.2.2.2.2.2.2.2.2.2.2.2.2.2.2.2.2.2.2.2.2.2.2.2.2.2.2.2.2.1 b.2.2.2.2.2.2.2.2.2.2.2.2.2.2.2.2.2.2.2.2.2.2.2.2.2.2.2.2.2.2.2.2.1 b.2.2.2.2.2.2.2.2.2.2.2.2.2.2.2.2.2.2.2.2.2.2.2.2.2.2.2.2.2.2.2.2.2.2.2.1 b.2.2.2.2.2.2.2.2.2.2.2.2.2.2.2.2.2.2.2.2.2.2.2.2.2.2.2.2.2.2.2.2.2.2.2.2.1 b.2.2.2.2.2.2.2.2.2.2.2.2.2.2.2.2.2.2.2.2.2.2.2.2.2.2.2.2.2.2.2.2.2.2.2.2.2.1 b.2.2.2.2.2.2.2.2.2.2.2.2.2.2.2.2.2.2.2.2.2.2.2.2.2.2.2.2.2.2.2.2.2.2.2.2.2.2.2.1 b.2.2.2.2.2.2.2.2.2.2.2.2.2.2.2.2.2.2.2.2.2.2.2.2.2.2.2.2.2.2.2.2.2.2.2.2.2.2.2.2.1 b.2.2.2.2.2.2.2.2.2.2.2.2.2.2.2.2.2.2.2.2.2.2.2.2.2.2.2.2.2.2.2.2.2.2.2.2.2.2.2.2.2.1 b.2.2.2.2.2.2.2.2.2.2.2.2.2.2.2.2.2.2.2.2.2.2.2.2.2.2.2.2.2.2.2.2.2.2.2.2.2.2.2.2.2.2.2.2.2.2.1 b.2.2.2.2.2.2.2.2.2.2.2.2.2.2.2.2.2.2.2.2.2.2.2.2.2.2.2.2.2.2.2.2.2.2.2.2.2.2.2.2.2.2.2.2.2.2.2.1 b.2.2.2.2.2.2.2.2.2.2.2.2.2.2.2.2.2.2.2.2.2.2.2.2.2.2.2.2.2.2.2.2.2.2.2.2.2.2.2.2.2.2.2.2.1 ∧ a.2.2.2.2.2.2.2.2.2.2.2.2.2.2.2.2.2.2.2.2.2.2.2.2.2.2.2.2.2.2.2.2.2.2.2.2.2.2.2.2.2.2.2.2.2.2.2.2.2.2.2.2.2.2.2.2.2.2.2.2.2.2.2.2.2.1 = 0 ∧ a.2.2.2.2.2.2.2.2.2.2.2.2.2.2.2.2.2.2.2.2.2.2.2.2.2.2.2.2.2.2.2.2.2.2.2.2.2.2.2.2.2.2.2.2.2.2.2.2.2.2.2.2.2.2.2.2.2.1 = 0 ∧ ∀ j, j < 3 → a.2.2.2.1 j = 0) ∧ (¬ b.1 = 0 → a.2.2.2.2.2.2.2.2.2.2.2.2.2.2.2.2.2.2.2.2.2.2.2.2.2.2.2.2.2.2.2.2.2.2.2.2.2.1 = c_cells ∧ a.2.2.2.2.2.2.2.2.2.2.2.2.2.2.2.2.2.2.2.2.2.2.2.2.2.2.2.2.2.2.2.2.2.2.2.2.2.2.1 = c_passes ∧ a.2.2.2.2.2.2.2.2.2.2.2.2.2.2.2.2.2.2.2.2.2.2.2.2.2.2.2.2.2.2.2.2.2.2.2.2.2.2.2.1 = c_rivers ∧ a.2.2.2.2.2.2.2.2.2.2.2.2.2.2.2.2.2.2.2.2.2.2.2.2.2.2.2.2.2.2.2.2.2.2.2.2.2.2.2.2.1 = c_villages ∧ a.2.2.2.2.2.2.2.2.2.2.2.2.2.2.2.2.2.2.2.2.2.2.2.2.2.2.2.2.2.2.2.2.2.2.2.2.2.2.2.2.2.1 = c_rains ∧ a.2.2.2.2.2.2.2.2.2.2.2.2.2.2.2.2.2.2.2.2.2.2.2.2.2.2.2.2.2.2.2.2.2.2.2.2.2.2.2.2.2.2.1 = c_room ∧ a.2.2.2.2.2.2.2.2.2.2.2.2.2.2.2.2.2.2.2.2.2.2.2.2.2.2.2.2.2.2.2.2.2.2.2.2.2.2.2.2.2.2.2.1 = c_water ∧ a.2.2.2.2.2.2.2.2.2.2.2.2.2.2.2.2.2.2.2.2.2.2.2.2.2.2.2.2.2.2.2.2.2.2.2.2.2.2.2.2.2.2.2.2.2.1 = c_passFrom ∧ a.2.2.2.2.2.2.2.2.2.2.2.2.2.2.2.2.2.2.2.2.2.2.2.2.2.2.2.2.2.2.2.2.2.2.2.2.2.2.2.2.2.2.2.2.2.2.1 = c_passTo ∧ a.2.2.2.2.2.2.2.2.2.2.2.2.2.2.2.2.2.2.2.2.2.2.2.2.2.2.2.2.2.2.2.2.2.2.2.2.2.2.2.2.2.2.2.2.2.2.2.1 = c_passWidth ∧ a.2.2.2.2.2.2.2.2.2.2.2.2.2.2.2.2.2.2.2.2.2.2.2.2.2.2.2.2.2.2.2.2.2.2.2.2.2.2.2.2.2.2.2.2.2.2.2.2.1 = c_riverCell ∧ a.2.2.2.2.2.2.2.2.2.2.2.2.2.2.2.2.2.2.2.2.2.2.2.2.2.2.2.2.2.2.2.2.2.2.2.2.2.2.2.2.2.2.2.2.2.2.2.2.2.1 = c_riverLevel ∧ a.2.2.2.2.2.2.2.2.2.2.2.2.2.2.2.2.2.2.2.2.2.2.2.2.2.2.2.2.2.2.2.2.2.2.2.2.2.2.2.2.2.2.2.2.2.2.2.2.2.2.1 = c_riverWidth ∧ a.2.2.2.2.2.2.2.2.2.2.2.2.2.2.2.2.2.2.2.2.2.2.2.2.2.2.2.2.2.2.2.2.2.2.2.2.2.2.2.2.2.2.2.2.2.2.2.2.2.2.2.2.1 = c_villageCell ∧ a.2.2.2.2.2.2.2.2.2.2.2.2.2.2.2.2.2.2.2.2.2.2.2.2.2.2.2.2.2.2.2.2.2.2.2.2.2.2.2.2.2.2.2.2.2.2.2.2.2.2.2.2.2.1 = c_need ∧ a.2.2.2.2.2.2.2.2.2.2.2.2.2.2.2.2.2.2.2.2.2.2.2.2.2.2.2.2.2.2.2.2.2.2.2.2.2.2.2.2.2.2.2.2.2.2.2.2.2.2.2.2.2.2.2.2.1 = c_rain ∧ a.2.2.2.2.2.2.2.2.2.2.2.2.2.2.2.2.2.2.2.2.2.2.2.2.2.2.2.2.2.2.2.2.2.2.2.2.2.2.2.2.2.2.2.2.2.2.2.2.2.2.2.2.2.2.2.2.2.2.2.2.2.2.2.2.2.1 = told ∧ a.2.2.2.2.2.2.2.2.2.2.2.2.2.2.2.2.2.2.2.2.2.2.2.2.2.2.2.2.2.2.2.2.2.2.2.2.2.2.2.2.2.2.2.2.2.2.2.2.2.2.2.2.2.2.2.2.2.1 = day ∧ a.2.2.2.1 = held)
theorem jr_read {v_w_tape : Nat → Int32} {v_w_length : Int32} {v_w_faultPlace : Int32} {v_w_held : Nat → Int32} {v_r_next : Int32} {v_r_codeLength : Int32} {v_r_ownCell : Int32} {v_r_stopped : Int32} {v_r_fault : Int32} {v_r_faultPlace : Int32} {v_r_laterFault : Int32} {v_r_laterPlace : Int32} {v_r_kind : Nat → Int32} {v_r_start : Nat → Int32} {v_r_value : Nat → Int64} {v_r_cellName : Nat → Int64} {v_r_villageName : Nat → Int64} {v_rg_cells : Int32} {v_rg_passes : Int32} {v_rg_rivers : Int32} {v_rg_villages : Int32} {v_rg_rains : Int32} {v_rg_room : Nat → Int32} {v_rg_water : Nat → Int32} {v_rg_ways : Nat → Int32} {v_rg_passFrom : Nat → Int32} {v_rg_passTo : Nat → Int32} {v_rg_passWidth : Nat → Int32} {v_rg_riverCell : Nat → Int32} {v_rg_riverLevel : Nat → Int32} {v_rg_riverWidth : Nat → Int32} {v_rg_riverSalt : Nat → Int32} {v_rg_villageCell : Nat → Int32} {v_rg_need : Nat → Int32} {v_rg_lawEnd : Nat → Int32} {v_rg_code : Nat → Int32} {v_rg_rain : Nat → Int32} {v_g_cells : Int32} {v_g_passes : Int32} {v_g_rivers : Int32} {v_g_villages : Int32} {v_g_rains : Int32} {v_g_room : Nat → Int32} {v_g_water : Nat → Int32} {v_g_ways : Nat → Int32} {v_g_passFrom : Nat → Int32} {v_g_passTo : Nat → Int32} {v_g_passWidth : Nat → Int32} {v_g_riverCell : Nat → Int32} {v_g_riverLevel : Nat → Int32} {v_g_riverWidth : Nat → Int32} {v_g_riverSalt : Nat → Int32} {v_g_villageCell : Nat → Int32} {v_g_need : Nat → Int32} {v_g_lawEnd : Nat → Int32} {v_g_code : Nat → Int32} {v_g_rain : Nat → Int32} {v_n_day : Int32} {v_n_water : Nat → Int32} {v_n_salt : Nat → Int64} {v_n_seen : Nat → Int32} {v_n_took : Nat → Int32} {v_n_dryDays : Nat → Int32} {v_n_firstDry : Nat → Int32} {v_n_total : Nat → Int32} {v_e_told : Int32} {v_e_pumps : Nat → Int32} {v_m_tape : Nat → Int32} {v_m_keys : Nat → Int64} {v_m_taped : Int32} {v_m_size : Int32} {v_m_tokens : Int32} {v_m_t : Int32} {v_m_open : Int32} {v_m_fault : Int32} {v_m_faultPlace : Int32} {v_m_worst : Int32} {v_m_worstPlace : Int32} {v_m_place : Int32} {v_m_live : Int32} {v_m_side : Int32} {v_m_names : Int32} {v_m_codes : Int32} {v_m_waiting : Int32} {v_m_day : Int32} {v_m_rowDay : Int32} {v_m_changed : Int32} {v_m_pumpCell : Int32} {v_m_takenAll : Int64} {v_m_riversAll : Int64} {v_m_told : Int32} {v_m_text : Nat → Int32} {v_m_tKind : Nat → Int32} {v_m_tPlace : Nat → Int32} {v_m_tValue : Nat → Int32} {v_m_tName : Nat → Int64} {v_m_nameOf : Nat → Int64} {v_m_nameAt : Nat → Int32} {v_m_cells : Nat → Int32} {v_m_room : Nat → Int32} {v_m_water : Nat → Int32} {v_m_ways : Nat → Int32} {v_m_passes : Nat → Int32} {v_m_passOne : Nat → Int32} {v_m_passOther : Nat → Int32} {v_m_passWide : Nat → Int32} {v_m_rivers : Nat → Int32} {v_m_riverCell : Nat → Int32} {v_m_riverLevel : Nat → Int32} {v_m_riverWide : Nat → Int32} {v_m_riverSalt : Nat → Int32} {v_m_rains : Nat → Int32} {v_m_rain : Nat → Int32} {v_m_villages : Nat → Int32} {v_m_home : Nat → Int32} {v_m_need : Nat → Int32} {v_m_lawFrom : Nat → Int32} {v_m_lawTo : Nat → Int32} {v_m_code : Nat → Int32} {v_m_codeInt : Nat → Int32} {v_m_waits : Nat → Int32} {v_m_now : Nat → Int64} {v_m_isHeld : Nat → Int32} {v_m_row : Nat → Int64} {v_m_wants : Nat → Int32} {v_m_isOff : Nat → Int32} {v_m_wide : Nat → Int32} {v_m_rainNow : Nat → Int32} (hl : 0 ≤ v_m_live.toInt ∧ v_m_live.toInt ≤ 1) (ht : 0 ≤ v_m_taped.toInt ∧ v_m_taped.toInt ≤ 2000) (he : v_w_length = v_m_taped) (ta : TA v_w_tape v_w_length v_m_tape) (ky : KY v_m_keys) : pj (f_X6_read v_w_tape v_w_length v_w_faultPlace v_w_held v_r_next v_r_codeLength v_r_ownCell v_r_stopped v_r_fault v_r_faultPlace v_r_laterFault v_r_laterPlace v_r_kind v_r_start v_r_value v_r_cellName v_r_villageName v_rg_cells v_rg_passes v_rg_rivers v_rg_villages v_rg_rains v_rg_room v_rg_water v_rg_ways v_rg_passFrom v_rg_passTo v_rg_passWidth v_rg_riverCell v_rg_riverLevel v_rg_riverWidth v_rg_riverSalt v_rg_villageCell v_rg_need v_rg_lawEnd v_rg_code v_rg_rain v_g_cells v_g_passes v_g_rivers v_g_villages v_g_rains v_g_room v_g_water v_g_ways v_g_passFrom v_g_passTo v_g_passWidth v_g_riverCell v_g_riverLevel v_g_riverWidth v_g_riverSalt v_g_villageCell v_g_need v_g_lawEnd v_g_code v_g_rain v_n_day v_n_water v_n_salt v_n_seen v_n_took v_n_dryDays v_n_firstDry v_n_total v_e_told v_e_pumps) (f_X7_read v_m_tape v_m_keys v_m_taped v_m_size v_m_tokens v_m_t v_m_open v_m_fault v_m_faultPlace v_m_worst v_m_worstPlace v_m_place v_m_live v_m_side v_m_names v_m_codes v_m_waiting v_m_day v_m_rowDay v_m_changed v_m_pumpCell v_m_takenAll v_m_riversAll v_m_told v_m_text v_m_tKind v_m_tPlace v_m_tValue v_m_tName v_m_nameOf v_m_nameAt v_m_cells v_m_room v_m_water v_m_ways v_m_passes v_m_passOne v_m_passOther v_m_passWide v_m_rivers v_m_riverCell v_m_riverLevel v_m_riverWide v_m_riverSalt v_m_rains v_m_rain v_m_villages v_m_home v_m_need v_m_lawFrom v_m_lawTo v_m_code v_m_codeInt v_m_waits v_m_now v_m_isHeld v_m_row v_m_wants v_m_isOff v_m_wide v_m_rainNow) (JR v_g_cells v_g_passes v_g_rivers v_g_villages v_g_rains v_e_told v_n_day v_w_held v_g_room v_g_water v_g_passFrom v_g_passTo v_g_passWidth v_g_riverCell v_g_riverLevel v_g_riverWidth v_g_villageCell v_g_need v_g_rain) := by
  unfold f_X6_read
  refine pj_bL34 (j_readAll hl ht he ta ky) (fun a0 a1 a2 a3 a4 a5 a6 a7 a8 a9 a10 a11 a12 a13 a14 a15 a16 a17 a18 a19 a20 a21 a22 a23 a24 a25 a26 a27 a28 a29 a30 a31 a32 a33 b hJ => ?_)
  have h1 : a0 = b.1 := hJ.1
  refine pa_bd (pa_T _) (fun _ _ => pa_if (fun z => pa_bd20 c_become3 (fun e0 e1 e2 e3 e4 e5 e6 e7 e8 e9 e10 e11 e12 e13 e14 e15 e16 e17 e18 e19 hb => pa_bd11 c_startAnew (fun f0 f1 f2 f3 f4 f5 f6 f7 f8 f9 f10 hf => pa_some ⟨h1, fun q => ?_, fun q => absurd (h1.symm.trans z) q⟩))) (fun z => pa_some ⟨h1, fun q => absurd (h1.trans q) z, fun _ => ⟨rfl, rfl, rfl, rfl, rfl, rfl, rfl, rfl, rfl, rfl, rfl, rfl, rfl, rfl, rfl, rfl, rfl, rfl, rfl⟩⟩))
  obtain ⟨g1, g2, g3, g4, g5, _⟩ := hJ.2 q
  exact ⟨GRD_of g1 g2 g3 g4 g5 hb, hf.2.2, hf.2.1, hf.1⟩
