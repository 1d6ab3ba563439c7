/-! off: from the text's begin on, the levels told against those that are; on both sides -/
theorem pj_br14 {A0 A1 A2 A3 A4 A5 A6 A7 A8 A9 A10 A11 A12 A13 β γ : Type} {f : Option (A0 × A1 × A2 × A3 × A4 × A5 × A6 × A7 × A8 × A9 × A10 × A11 × A12 × A13)} {k : A0 → A1 → A2 → A3 → A4 → A5 → A6 → A7 → A8 → A9 → A10 → A11 → A12 → A13 → Option γ} {g : Option β} {P : (A0 × A1 × A2 × A3 × A4 × A5 × A6 × A7 × A8 × A9 × A10 × A11 × A12 × A13) → Prop} {R : β → γ → Prop} (h : pa f P) (q : ∀ a0 a1 a2 a3 a4 a5 a6 a7 a8 a9 a10 a11 a12 a13, P (a0, a1, a2, a3, a4, a5, a6, a7, a8, a9, a10, a11, a12, a13) → pj g (k a0 a1 a2 a3 a4 a5 a6 a7 a8 a9 a10 a11 a12 a13) R) : pj g (bd f (fun o => un14 o k)) R := pj_br h (fun o ho => q (o.1) (o.2.1) (o.2.2.1) (o.2.2.2.1) (o.2.2.2.2.1) (o.2.2.2.2.2.1) (o.2.2.2.2.2.2.1) (o.2.2.2.2.2.2.2.1) (o.2.2.2.2.2.2.2.2.1) (o.2.2.2.2.2.2.2.2.2.1) (o.2.2.2.2.2.2.2.2.2.2.1) (o.2.2.2.2.2.2.2.2.2.2.2.1) (o.2.2.2.2.2.2.2.2.2.2.2.2.1) (o.2.2.2.2.2.2.2.2.2.2.2.2.2) ho)
theorem pa_un14 {A0 A1 A2 A3 A4 A5 A6 A7 A8 A9 A10 A11 A12 A13 γ : Type} {o : A0 × A1 × A2 × A3 × A4 × A5 × A6 × A7 × A8 × A9 × A10 × A11 × A12 × A13} {k : A0 → A1 → A2 → A3 → A4 → A5 → A6 → A7 → A8 → A9 → A10 → A11 → A12 → A13 → Option γ} {P : γ → Prop} (h : pa (k (o.1) (o.2.1) (o.2.2.1) (o.2.2.2.1) (o.2.2.2.2.1) (o.2.2.2.2.2.1) (o.2.2.2.2.2.2.1) (o.2.2.2.2.2.2.2.1) (o.2.2.2.2.2.2.2.2.1) (o.2.2.2.2.2.2.2.2.2.1) (o.2.2.2.2.2.2.2.2.2.2.1) (o.2.2.2.2.2.2.2.2.2.2.2.1) (o.2.2.2.2.2.2.2.2.2.2.2.2.1) (o.2.2.2.2.2.2.2.2.2.2.2.2.2)) P) : pa (un14 o k) P := h
theorem pa_r {β : Type} {g : Option β} {P : β → Prop} (h : pj (some ()) g (fun _ b => P b)) : pa g P := fun b eb => h () b rfl eb
/-- a level told that is not so on this day -/
def MIS (td tc tl room water : Nat → Int32) (day : Int32) (i : Nat) : Prop := td i = day ∧ ¬ water (tc i).toNatClampNeg / room (tc i).toNatClampNeg = tl i
/-- the first of k that has M -/
def OFT (k : Int32) (M : Nat → Prop) (o : Int32) : Prop := (o = -2 ∧ ∀ i : Nat, (i : Int) < k.toInt → ¬ M i) ∨ (0 ≤ o.toInt ∧ o.toInt < k.toInt ∧ M o.toNatClampNeg ∧ ∀ i : Nat, (i : Int) < o.toInt → ¬ M i)
theorem c_off {td tc tl room water : Nat → Int32} {day : Int32} : ∀ (n : Nat) (x1 x2 : Int32), 0 ≤ x2.toInt → x2.toInt ≤ x1.toInt → x1.toInt ≤ 20 → (∀ i : Nat, (i : Int) < x1.toInt → 1 ≤ (room (tc i).toNatClampNeg).toInt) → (∀ i : Nat, (i : Int) < x2.toInt → ¬ MIS td tc tl room water day i) → pa (f_X2_offToday_b2 td tc tl room day water n x1 x2) (OFT x1 (MIS td tc tl room water day)) := by
  intro n
  induction n with
  | zero => intro x1 x2 _ _ _ _ _; exact pa_none
  | succ n ih =>
    intro x1 x2 h0 h1 h2 hr hI
    show pa (f_X2_offToday_b2_st (f_X2_offToday_b2 td tc tl room day water n) td tc tl room day water x1 x2) _
    unfold f_X2_offToday_b2_st
    have ex : (x2.toNatClampNeg : Int) = x2.toInt := cl_k h0
    refine pa_if (fun z => pa_some (Or.inl ⟨rfl, fun i hi => hI i (by have := ti_le z; omega)⟩)) (fun z => pa_if (fun z2 => ?_) (fun _ => ?_))
    · have g := ti_nle z
      have := k_le (k := 20) rfl z2
      omega
    have g := ti_nle z
    have t1 := add_k (x := x2) (v := 1) (k := 1) rfl (by omega) (by omega)
    have nxt : ¬ MIS td tc tl room water day x2.toNatClampNeg → pa (f_X2_offToday_b2 td tc tl room day water n x1 (x2 + 1)) (OFT x1 (MIS td tc tl room water day)) := fun hm => ih x1 (x2 + 1) (by omega) (by omega) h2 hr (fun i hi => by
      by_cases q : i = x2.toNatClampNeg
      · rw [q]; exact hm
      · exact hI i (by omega))
    refine pa_ck (fun _ => pa_ck (fun _ => pa_if (fun q => pa_ck (fun _ => pa_bd (c_lev (hr x2.toNatClampNeg (by omega))) (fun o7 h7 => pa_ck (fun _ => pa_if (fun k => ?_) (fun k => ?_))))) (fun q => nxt (fun l => q l.1))))
    · exact nxt (fun l => l.2 (h7.symm.trans k))
    · exact pa_some (Or.inr ⟨h0, g, ⟨q, fun l => k (h7.trans l)⟩, hI⟩)
/-- the last day told among the first n: from 0, and from -1 -/
def LDY (td : Nat → Int32) : Nat → Int
  | 0 => 0
  | n + 1 => if LDY td n < (td n).toInt then (td n).toInt else LDY td n
def L7 (td : Nat → Int32) : Nat → Int
  | 0 => -1
  | n + 1 => if (td n).toInt ≤ L7 td n then L7 td n else (td n).toInt
theorem L7_LD {td : Nat → Int32} (h : ∀ i, 0 ≤ (td i).toInt) : ∀ n : Nat, L7 td (n + 1) = LDY td (n + 1) := by
  intro n
  induction n with
  | zero =>
    show (if (td 0).toInt ≤ -1 then (-1 : Int) else (td 0).toInt) = if (0 : Int) < (td 0).toInt then (td 0).toInt else 0
    have := h 0
    split <;> split <;> omega
  | succ n ih =>
    show (if (td (n + 1)).toInt ≤ L7 td (n + 1) then L7 td (n + 1) else (td (n + 1)).toInt) = if LDY td (n + 1) < (td (n + 1)).toInt then (td (n + 1)).toInt else LDY td (n + 1)
    rw [ih]
    split <;> split <;> omega
theorem LD_eq {td td' : Nat → Int32} : ∀ n : Nat, (∀ i, i < n → td i = td' i) → LDY td n = LDY td' n
  | 0, _ => rfl
  | n + 1, h => by
    show (if LDY td n < (td n).toInt then (td n).toInt else LDY td n) = if LDY td' n < (td' n).toInt then (td' n).toInt else LDY td' n
    rw [LD_eq n (fun i hi => h i (by omega)), h n (by omega)]
theorem LD_rg {td : Nat → Int32} (h : ∀ i, (td i).toInt ≤ 199) : ∀ n : Nat, 0 ≤ LDY td n ∧ LDY td n ≤ 199
  | 0 => ⟨by show (0 : Int) ≤ 0; omega, by show (0 : Int) ≤ 199; omega⟩
  | n + 1 => by
    have k := LD_rg h n
    have := h n
    show 0 ≤ (if LDY td n < (td n).toInt then (td n).toInt else LDY td n) ∧ (if LDY td n < (td n).toInt then (td n).toInt else LDY td n) ≤ 199
    split <;> omega
theorem c_last4 {td : Nat → Int32} : ∀ (n : Nat) (x1 x2 x3 : Int32), 0 ≤ x3.toInt → x3.toInt ≤ x1.toInt → x1.toInt ≤ 20 → x2.toInt = LDY td x3.toNatClampNeg → pa (f_X2_lastDay_b4 td n x1 x2 x3) (fun o => o.toInt = LDY td x1.toNatClampNeg) := by
  intro n
  induction n with
  | zero => intro x1 x2 x3 _ _ _ _; exact pa_none
  | succ n ih =>
    intro x1 x2 x3 h0 h1 h2 hI
    show pa (f_X2_lastDay_b4_st (f_X2_lastDay_b4 td n) td x1 x2 x3) _
    unfold f_X2_lastDay_b4_st
    refine pa_if (fun z => ?_) (fun z => pa_if (fun z2 => ?_) (fun _ => ?_))
    · have g := ti_le z
      have e : x3 = x1 := Int32.toInt_inj.mp (by omega)
      rw [← e]
      exact pa_some hI
    · have g := ti_nle z
      have := k_le (k := 20) rfl z2
      omega
    have g := ti_nle z
    have t1 := add_k (x := x3) (v := 1) (k := 1) rfl (by omega) (by omega)
    have ex : (x3.toNatClampNeg : Int) = x3.toInt := cl_k h0
    have e1 : ((x3 + 1).toNatClampNeg : Int) = (x3 + 1).toInt := cl_k (by omega)
    refine pa_ck (fun _ => pa_nm (fun e4 he4 => ih x1 e4 (x3 + 1) (by omega) (by omega) h2 ?_))
    rw [show (x3 + 1).toNatClampNeg = x3.toNatClampNeg + 1 by omega]
    show e4.toInt = if LDY td x3.toNatClampNeg < (td x3.toNatClampNeg).toInt then (td x3.toNatClampNeg).toInt else LDY td x3.toNatClampNeg
    rw [he4, ← hI]
    by_cases q : x2 < td x3.toNatClampNeg
    · rw [if_pos q, if_pos (ti_lt q)]
    · rw [if_neg q, if_neg (by have := ti_nlt q; omega)]
theorem c_last {td : Nat → Int32} {k : Int32} (h0 : 0 ≤ k.toInt) (h1 : k.toInt ≤ 20) : pa (f_X2_lastDay td k) (fun o => o.toInt = LDY td k.toNatClampNeg) := by
  unfold f_X2_lastDay
  exact c_last4 fuel k 0 0 (by decide) (by show (0 : Int) ≤ _; exact h0) h1 rfl
set_option maxHeartbeats 4000000 in
theorem BGF {v_g_cells : Int32} {v_g_passes : Int32} {v_g_rivers : Int32} {v_g_villages : Int32} {v_g_rains : Int32} {v_g_room : Nat → Int32} {v_g_passFrom : Nat → Int32} {v_g_passTo : Nat → Int32} {v_g_riverCell : Nat → Int32} {v_g_riverLevel : Nat → Int32} {v_g_riverSalt : Nat → Int32} {v_g_villageCell : Nat → Int32} {v_g_need : Nat → Int32} {v_g_lawEnd : Nat → Int32} {v_g_code : Nat → Int32} {v_p_pumpTakes : Int32} {v_p_pumpFrom : Int32} {v_p_pumpTo : Int32} {v_m_live : Int32} {v_m_changedAt : Int32} {v_m_pumpMuch : Int32} {v_m_pumpFrom : Int32} {v_m_pumpTo : Int32} {v_m_cells : Nat → Int32} {v_m_room : Nat → Int32} {v_m_passes : Nat → Int32} {v_m_passOne : Nat → Int32} {v_m_passOther : Nat → Int32} {v_m_rivers : Nat → Int32} {v_m_riverCell : Nat → Int32} {v_m_riverLevel : Nat → Int32} {v_m_riverWide : Nat → Int32} {v_m_riverSalt : Nat → Int32} {v_m_rains : Nat → Int32} {v_m_villages : Nat → Int32} {v_m_home : Nat → Int32} {v_m_need : Nat → Int32} {v_m_lawFrom : Nat → Int32} {v_m_lawTo : Nat → Int32} {v_m_code : Nat → Int32} {v_m_codeInt : Nat → Int32} {v_g_passWidth : Nat → Int32} {v_g_riverWidth : Nat → Int32} {v_g_rain : Nat → Int32} {v_m_passWide : Nat → Int32} {v_m_rain : Nat → Int32} {v_m_water : Nat → Int32} {v_g_water : Nat → Int32} {p0 r0 r1 r2 d0 : Int32} {p1 p2 p3 p4 d1 d3 d4 d5 d6 d7 r6 r7 r8 r9 : Nat → Int32} {d2 r5 : Nat → Int64} (y : DY v_m_live v_m_cells v_m_room v_m_passes v_m_passOne v_m_passOther v_m_rivers v_m_riverCell v_m_riverLevel v_m_riverWide v_m_rains v_m_villages v_m_home v_m_lawFrom v_m_lawTo v_m_code v_m_codeInt) (G : GL v_m_live v_g_cells v_g_passes v_g_rivers v_g_villages v_g_rains v_g_room v_g_passFrom v_g_passTo v_g_riverCell v_g_riverLevel v_g_riverSalt v_g_villageCell v_g_need v_g_lawEnd v_g_code v_m_cells v_m_room v_m_passes v_m_passOne v_m_passOther v_m_rivers v_m_riverCell v_m_riverLevel v_m_riverSalt v_m_rains v_m_villages v_m_home v_m_need v_m_lawFrom v_m_lawTo v_m_code v_m_codeInt) (a1 : AL v_g_passWidth v_m_passWide (20 * v_m_live.toNatClampNeg) v_g_passes.toInt) (a2 : AL v_g_riverWidth v_m_riverWide (3 * v_m_live.toNatClampNeg) v_g_rivers.toInt) (a3 : AL v_g_rain v_m_rain (14 * v_m_live.toNatClampNeg) v_g_rains.toInt) (hwa : WA v_m_live v_m_cells v_m_water) (gw : AL v_g_water v_m_water (12 * v_m_live.toNatClampNeg) v_g_cells.toInt) (hs : p0 = -1 ∧ (∀ i, i < 6 → p1 i = -1) ∧ (∀ i, i < 20 → p2 i = v_g_passWidth i) ∧ (∀ i, i < 3 → p3 i = v_g_riverWidth i) ∧ ∀ i, i < 14 → p4 i = v_g_rain i) (hb : d0 = 0 ∧ (∀ i, i < 12 → d1 i = v_g_water i ∧ d2 i = 0 ∧ d3 i = 0) ∧ ∀ i, i < 6 → d4 i = 0 ∧ d5 i = 0 ∧ d6 i = -2 ∧ d7 i = 0) (hm : r0 = 0 ∧ r1 = -1 ∧ r2 = -1 ∧ (∀ j, j < 60 → r5 j = if 48 ≤ j ∧ j < 54 then -2 else if (j : Int) < v_g_cells.toInt then (v_m_water (12 * v_m_live.toNatClampNeg + j)).toInt64 else 0) ∧ (∀ j, j < 6 → r6 j = -1 ∧ r7 j = 0) ∧ (∀ j, j < 20 → r8 j = v_m_passWide (20 * v_m_live.toNatClampNeg + j)) ∧ ∀ j, j < 14 → r9 j = v_m_rain (14 * v_m_live.toNatClampNeg + j)) (ht : PN v_m_live v_m_cells v_m_passes v_m_rains r6 r8 r9 r2 v_m_pumpMuch ∧ RD v_m_live v_m_cells v_m_room r5 r0 0 ∧ True) : PLN v_m_live r1 v_m_changedAt v_g_villages.toInt v_g_passes.toInt v_g_rivers.toInt v_g_rains.toInt r2 v_m_pumpMuch v_m_pumpFrom v_m_pumpTo p0 v_p_pumpTakes v_p_pumpFrom v_p_pumpTo p1 p2 p3 p4 r6 r7 r8 r9 v_m_riverWide ∧ PN v_m_live v_m_cells v_m_passes v_m_rains r6 r8 r9 r2 v_m_pumpMuch ∧ DD v_m_live v_g_cells.toInt v_g_villages.toInt 0 v_m_cells v_m_room d0 r0 d1 d2 d3 d4 d5 d6 d7 r5 := by
  have hl : 0 ≤ v_m_live.toInt ∧ v_m_live.toInt ≤ 1 := y.1.1
  have hc := y.1.2.1.2
  rw [G.1] at hc
  have hp := y.2.1.1.2
  rw [G.2.1] at hp
  have hri := y.2.1.2.1.2
  rw [G.2.2.1] at hri
  have hv := y.2.2.2.1.2
  rw [G.2.2.2.1] at hv
  have hra := y.2.2.1.2
  rw [G.2.2.2.2.1] at hra
  obtain ⟨s0, s1, s2, s3, s4⟩ := hs
  obtain ⟨b0, b1, b2⟩ := hb
  obtain ⟨m0, m1, m2, m3, m4, m5, m6⟩ := hm
  refine ⟨PLN_told hl hv hp hri hra s0 m1 m2 s1 s2 s3 s4 m4 m5 m6 a1 a2 a3, ht.1, b0.trans m0.symm, ht.2.1, ?_⟩
  exact DA_begin hc hv m0 b1 b2 gw m3
set_option maxHeartbeats 8000000 in
theorem r_59 {α : Type} {f : Option α} {R : α → Int32 × Int32 × Int32 × Int64 × Int64 × (Nat → Int32) × (Nat → Int32) × (Nat → Int64) × (Nat → Int64) × (Nat → Int32) × (Nat → Int32) × (Nat → Int64) × (Nat → Int64) × (Nat → Int32) → Prop} {k50 : Int32 → Int32 → Int64 → Int64 → (Nat → Int32) → (Nat → Int32) → (Nat → Int64) → (Nat → Int64) → (Nat → Int32) → (Nat → Int32) → (Nat → Int64) → (Nat → Int64) → (Nat → Int32) → Int32 → Int32 → Int32 → Int32 → Int32 → Option (Int32 × Int32 × Int32 × Int64 × Int64 × (Nat → Int32) × (Nat → Int32) × (Nat → Int64) × (Nat → Int64) × (Nat → Int32) × (Nat → Int32) × (Nat → Int64) × (Nat → Int64) × (Nat → Int32))} {v_m_live : Int32} {v_m_changed : Int32} {v_m_changedAt : Int32} {v_m_pumpCell : Int32} {v_m_pumpMuch : Int32} {v_m_pumpFrom : Int32} {v_m_pumpTo : Int32} {v_m_cells : Nat → Int32} {v_m_room : Nat → Int32} {v_m_passes : Nat → Int32} {v_m_passOne : Nat → Int32} {v_m_passOther : Nat → Int32} {v_m_rivers : Nat → Int32} {v_m_riverCell : Nat → Int32} {v_m_riverLevel : Nat → Int32} {v_m_riverWide : Nat → Int32} {v_m_riverSalt : Nat → Int32} {v_m_rains : Nat → Int32} {v_m_villages : Nat → Int32} {v_m_home : Nat → Int32} {v_m_need : Nat → Int32} {v_m_lawFrom : Nat → Int32} {v_m_lawTo : Nat → Int32} {v_m_code : Nat → Int32} {v_m_codeInt : Nat → Int32} {v_m_wants : Nat → Int32} {v_m_isOff : Nat → Int32} {v_m_wide : Nat → Int32} {v_m_rainNow : Nat → Int32} {v_m_toldDay : Nat → Int32} {v_m_toldCell : Nat → Int32} {v_m_toldLevel : Nat → Int32} {L : Nat → Prop} {off0 : Nat → Int32} {x40 : Int32} : ∀ (m : Nat) (v_m_isBroken : Int32) (v_m_rowDay : Int32) (v_m_takenAll : Int64) (v_m_riversAll : Int64) (v_m_variables : Nat → Int32) (v_m_pile : Nat → Int32) (v_m_row : Nat → Int64) (v_m_taken : Nat → Int64) (v_m_isDry : Nat → Int32) (v_m_wouldLack : Nat → Int32) (v_m_more : Nat → Int64) (v_m_moreSalt : Nat → Int64) (v_m_isOffTold : Nat → Int32) (x1 : Int32) (x2 : Int32) (x3 : Int32) (x4 : Int32) (x5 : Int32) (x6 : Int32), 0 ≤ x6.toInt → x6.toInt ≤ x1.toInt → x1.toInt ≤ 20 → ¬ x2 = 0 → (∀ i : Nat, (i : Int) < x1.toInt → pa (f_X7_level v_m_live v_m_room v_m_row (v_m_toldCell i)) (fun o => lg_cmp o (v_m_toldLevel i).toInt64 = 0 ↔ L i)) → (∀ i : Nat, ((i : Int) < x6.toInt → (v_m_isOffTold i = 0 ↔ off0 i = 0 ∧ ¬ (v_m_toldDay i = x5 ∧ ¬ L i))) ∧ (x6.toInt ≤ (i : Int) → v_m_isOffTold i = off0 i)) → ((x4 = x40 ∧ ∀ i : Nat, (i : Int) < x6.toInt → ¬ (v_m_toldDay i = x5 ∧ ¬ L i)) ∨ (x4 = 0 ∧ ∃ i : Nat, (i : Int) < x6.toInt ∧ v_m_toldDay i = x5 ∧ ¬ L i)) → (∀ (off' : Nat → Int32) (x4' : Int32), (∀ i : Nat, (i : Int) < x1.toInt → (off' i = 0 ↔ off0 i = 0 ∧ ¬ (v_m_toldDay i = x5 ∧ ¬ L i))) → ((x4' = x40 ∧ ∀ i : Nat, (i : Int) < x1.toInt → ¬ (v_m_toldDay i = x5 ∧ ¬ L i)) ∨ (x4' = 0 ∧ ∃ i : Nat, (i : Int) < x1.toInt ∧ v_m_toldDay i = x5 ∧ ¬ L i)) → pj f (bd (f_X7_goesBy v_m_live v_m_changed v_m_changedAt v_m_pumpCell v_m_pumpMuch v_m_pumpFrom v_m_pumpTo v_m_cells v_m_room v_m_passes v_m_passOne v_m_passOther v_m_rivers v_m_riverCell v_m_riverLevel v_m_riverWide v_m_riverSalt v_m_rains v_m_villages v_m_home v_m_need v_m_lawFrom v_m_lawTo v_m_code v_m_codeInt v_m_wants v_m_isOff v_m_wide v_m_rainNow v_m_isBroken v_m_rowDay v_m_takenAll v_m_riversAll v_m_variables v_m_pile v_m_row v_m_taken v_m_isDry v_m_wouldLack v_m_more v_m_moreSalt) (fun o_2 => un12 o_2 (fun o_2_0 o_2_1 o_2_2 o_2_3 o_2_4 o_2_5 o_2_6 o_2_7 o_2_8 o_2_9 o_2_10 o_2_11 => k50 o_2_0 o_2_1 o_2_2 o_2_3 o_2_4 o_2_5 o_2_6 o_2_7 o_2_8 o_2_9 o_2_10 o_2_11 off' x1 x2 x3 x4' (x5 + (1 : Int32))))) R) → pj f (f_X7_fits_b59 k50 v_m_live v_m_changed v_m_changedAt v_m_pumpCell v_m_pumpMuch v_m_pumpFrom v_m_pumpTo v_m_cells v_m_room v_m_passes v_m_passOne v_m_passOther v_m_rivers v_m_riverCell v_m_riverLevel v_m_riverWide v_m_riverSalt v_m_rains v_m_villages v_m_home v_m_need v_m_lawFrom v_m_lawTo v_m_code v_m_codeInt v_m_wants v_m_isOff v_m_wide v_m_rainNow v_m_toldDay v_m_toldCell v_m_toldLevel m v_m_isBroken v_m_rowDay v_m_takenAll v_m_riversAll v_m_variables v_m_pile v_m_row v_m_taken v_m_isDry v_m_wouldLack v_m_more v_m_moreSalt v_m_isOffTold x1 x2 x3 x4 x5 x6) R := by
  intro m
  induction m with
  | zero => intro v_m_isBroken v_m_rowDay v_m_takenAll v_m_riversAll v_m_variables v_m_pile v_m_row v_m_taken v_m_isDry v_m_wouldLack v_m_more v_m_moreSalt v_m_isOffTold x1 x2 x3 x4 x5 x6 _ _ _ _ _ _ _ _; exact pj_nr
  | succ m ih =>
    intro v_m_isBroken v_m_rowDay v_m_takenAll v_m_riversAll v_m_variables v_m_pile v_m_row v_m_taken v_m_isDry v_m_wouldLack v_m_more v_m_moreSalt v_m_isOffTold x1 x2 x3 x4 x5 x6 h0 h1 h2 hx2 hL hM hF hk
    show pj f (f_X7_fits_b59_st (f_X7_fits_b59 k50 v_m_live v_m_changed v_m_changedAt v_m_pumpCell v_m_pumpMuch v_m_pumpFrom v_m_pumpTo v_m_cells v_m_room v_m_passes v_m_passOne v_m_passOther v_m_rivers v_m_riverCell v_m_riverLevel v_m_riverWide v_m_riverSalt v_m_rains v_m_villages v_m_home v_m_need v_m_lawFrom v_m_lawTo v_m_code v_m_codeInt v_m_wants v_m_isOff v_m_wide v_m_rainNow v_m_toldDay v_m_toldCell v_m_toldLevel m) k50 v_m_live v_m_changed v_m_changedAt v_m_pumpCell v_m_pumpMuch v_m_pumpFrom v_m_pumpTo v_m_cells v_m_room v_m_passes v_m_passOne v_m_passOther v_m_rivers v_m_riverCell v_m_riverLevel v_m_riverWide v_m_riverSalt v_m_rains v_m_villages v_m_home v_m_need v_m_lawFrom v_m_lawTo v_m_code v_m_codeInt v_m_wants v_m_isOff v_m_wide v_m_rainNow v_m_toldDay v_m_toldCell v_m_toldLevel v_m_isBroken v_m_rowDay v_m_takenAll v_m_riversAll v_m_variables v_m_pile v_m_row v_m_taken v_m_isDry v_m_wouldLack v_m_more v_m_moreSalt v_m_isOffTold x1 x2 x3 x4 x5 x6) R
    unfold f_X7_fits_b59_st
    have ex : (x6.toNatClampNeg : Int) = x6.toInt := cl_k h0
    refine pj_ifr (fun z => ?_) (fun z => ?_)
    · have g := ti_le z
      have e : x6 = x1 := Int32.toInt_inj.mp (by omega)
      rw [e] at hF hM
      exact hk _ _ (fun i hi => (hM i).1 hi) hF
    have g := ti_nle z
    have t1 := add_k (x := x6) (v := 1) (k := 1) rfl (by omega) (by omega)
    have same : ¬ (v_m_toldDay x6.toNatClampNeg = x5 ∧ ¬ L x6.toNatClampNeg) → (∀ i : Nat, ((i : Int) < (x6 + 1).toInt → (v_m_isOffTold i = 0 ↔ off0 i = 0 ∧ ¬ (v_m_toldDay i = x5 ∧ ¬ L i))) ∧ ((x6 + 1).toInt ≤ (i : Int) → v_m_isOffTold i = off0 i)) ∧ ((x4 = x40 ∧ ∀ i : Nat, (i : Int) < (x6 + 1).toInt → ¬ (v_m_toldDay i = x5 ∧ ¬ L i)) ∨ (x4 = 0 ∧ ∃ i : Nat, (i : Int) < (x6 + 1).toInt ∧ v_m_toldDay i = x5 ∧ ¬ L i)) := fun hn => by
      refine ⟨fun i => ⟨fun hi => ?_, fun hi => (hM i).2 (by omega)⟩, ?_⟩
      · by_cases q : i = x6.toNatClampNeg
        · rw [q, (hM x6.toNatClampNeg).2 (by omega)]
          exact ⟨fun k => ⟨k, hn⟩, fun k => k.1⟩
        · exact (hM i).1 (by omega)
      · rcases hF with ⟨f1, f2⟩ | ⟨f1, i, f2, f3⟩
        · refine Or.inl ⟨f1, fun i hi => ?_⟩
          by_cases q : i = x6.toNatClampNeg
          · rw [q]; exact hn
          · exact f2 i (by omega)
        · exact Or.inr ⟨f1, i, by omega, f3⟩
    have skip_ : ¬ (v_m_toldDay x6.toNatClampNeg = x5 ∧ ¬ L x6.toNatClampNeg) → pj f (f_X7_fits_b59 k50 v_m_live v_m_changed v_m_changedAt v_m_pumpCell v_m_pumpMuch v_m_pumpFrom v_m_pumpTo v_m_cells v_m_room v_m_passes v_m_passOne v_m_passOther v_m_rivers v_m_riverCell v_m_riverLevel v_m_riverWide v_m_riverSalt v_m_rains v_m_villages v_m_home v_m_need v_m_lawFrom v_m_lawTo v_m_code v_m_codeInt v_m_wants v_m_isOff v_m_wide v_m_rainNow v_m_toldDay v_m_toldCell v_m_toldLevel m v_m_isBroken v_m_rowDay v_m_takenAll v_m_riversAll v_m_variables v_m_pile v_m_row v_m_taken v_m_isDry v_m_wouldLack v_m_more v_m_moreSalt v_m_isOffTold x1 x2 x3 x4 x5 (x6 + (1 : Int32))) R := fun hn => ih _ _ _ _ _ _ _ _ _ _ _ _ _ _ _ _ _ _ _ (by omega) (by omega) h2 hx2 hL (same hn).1 (same hn).2 hk
    refine pj_ckr (fun _ => pj_ifr (fun q => pj_ckr (fun _ => pj_br (hL x6.toNatClampNeg (by omega)) (fun o6 h6 => pj_ckr (fun _ => pj_ifr (fun k => skip_ (fun l => l.2 (h6.mp k))) (fun k => pj_ckr (fun _ => pj_nrg (fun a10 e10 => pj_ifr (fun l => absurd l hx2) (fun _ => ?_)))))))) (fun q => skip_ (fun l => q l.1)))
    have hmis : v_m_toldDay x6.toNatClampNeg = x5 ∧ ¬ L x6.toNatClampNeg := ⟨q, fun l => k (h6.mpr l)⟩
    refine ih _ _ _ _ _ _ _ _ _ _ _ _ _ _ _ _ _ _ _ (by omega) (by omega) h2 hx2 hL (fun i => ?_) (Or.inr ⟨rfl, x6.toNatClampNeg, by omega, hmis⟩) hk
    rw [e10]
    by_cases q2 : i = x6.toNatClampNeg
    · rw [q2, up_at]
      exact ⟨fun _ => ⟨fun l => absurd l (by decide), fun l => absurd hmis l.2⟩, fun l => absurd l (by omega)⟩
    · rw [up_ne q2]
      exact ⟨fun l => (hM i).1 (by omega), fun l => (hM i).2 (by omega)⟩
set_option maxHeartbeats 4000000 in
theorem r_5 {α : Type} {f : Option α} {R : α → Int32 × Int32 × Int32 × Int64 × Int64 × (Nat → Int32) × (Nat → Int32) × (Nat → Int64) × (Nat → Int64) × (Nat → Int32) × (Nat → Int32) × (Nat → Int64) × (Nat → Int64) × (Nat → Int32) → Prop} {v_m_live : Int32} {v_m_changed : Int32} {v_m_changedAt : Int32} {v_m_pumpCell : Int32} {v_m_pumpMuch : Int32} {v_m_pumpFrom : Int32} {v_m_pumpTo : Int32} {v_m_cells : Nat → Int32} {v_m_room : Nat → Int32} {v_m_passes : Nat → Int32} {v_m_passOne : Nat → Int32} {v_m_passOther : Nat → Int32} {v_m_rivers : Nat → Int32} {v_m_riverCell : Nat → Int32} {v_m_riverLevel : Nat → Int32} {v_m_riverWide : Nat → Int32} {v_m_riverSalt : Nat → Int32} {v_m_rains : Nat → Int32} {v_m_villages : Nat → Int32} {v_m_home : Nat → Int32} {v_m_need : Nat → Int32} {v_m_lawFrom : Nat → Int32} {v_m_lawTo : Nat → Int32} {v_m_code : Nat → Int32} {v_m_codeInt : Nat → Int32} {v_m_wants : Nat → Int32} {v_m_isOff : Nat → Int32} {v_m_wide : Nat → Int32} {v_m_rainNow : Nat → Int32} {v_m_toldDay : Nat → Int32} {v_m_toldCell : Nat → Int32} {v_m_toldLevel : Nat → Int32} : ∀ (m : Nat) (v_m_isBroken : Int32) (v_m_rowDay : Int32) (v_m_takenAll : Int64) (v_m_riversAll : Int64) (v_m_variables : Nat → Int32) (v_m_pile : Nat → Int32) (v_m_row : Nat → Int64) (v_m_taken : Nat → Int64) (v_m_isDry : Nat → Int32) (v_m_wouldLack : Nat → Int32) (v_m_more : Nat → Int64) (v_m_moreSalt : Nat → Int64) (v_m_isOffTold : Nat → Int32) (x1 : Int32) (x2 : Int32) (x3 : Int32) (x4 : Int32), 0 ≤ x4.toInt → x4.toInt ≤ x1.toInt → x1.toInt ≤ 20 → x3.toInt = L7 v_m_toldDay x4.toNatClampNeg → (∀ i : Nat, (i : Int) < x4.toInt → v_m_isOffTold i = 0) → (∀ (off' : Nat → Int32) (x3' : Int32), (∀ i : Nat, (i : Int) < x1.toInt → off' i = 0) → x3'.toInt = L7 v_m_toldDay x1.toNatClampNeg → pj f (f_X7_fits_b50 v_m_live v_m_changed v_m_changedAt v_m_pumpCell v_m_pumpMuch v_m_pumpFrom v_m_pumpTo v_m_cells v_m_room v_m_passes v_m_passOne v_m_passOther v_m_rivers v_m_riverCell v_m_riverLevel v_m_riverWide v_m_riverSalt v_m_rains v_m_villages v_m_home v_m_need v_m_lawFrom v_m_lawTo v_m_code v_m_codeInt v_m_wants v_m_isOff v_m_wide v_m_rainNow v_m_toldDay v_m_toldCell v_m_toldLevel fuel v_m_isBroken v_m_rowDay v_m_takenAll v_m_riversAll v_m_variables v_m_pile v_m_row v_m_taken v_m_isDry v_m_wouldLack v_m_more v_m_moreSalt off' x1 x2 x3' (1 : Int32) (0 : Int32)) R) → pj f (f_X7_fits_b5 v_m_live v_m_changed v_m_changedAt v_m_pumpCell v_m_pumpMuch v_m_pumpFrom v_m_pumpTo v_m_cells v_m_room v_m_passes v_m_passOne v_m_passOther v_m_rivers v_m_riverCell v_m_riverLevel v_m_riverWide v_m_riverSalt v_m_rains v_m_villages v_m_home v_m_need v_m_lawFrom v_m_lawTo v_m_code v_m_codeInt v_m_wants v_m_isOff v_m_wide v_m_rainNow v_m_toldDay v_m_toldCell v_m_toldLevel m v_m_isBroken v_m_rowDay v_m_takenAll v_m_riversAll v_m_variables v_m_pile v_m_row v_m_taken v_m_isDry v_m_wouldLack v_m_more v_m_moreSalt v_m_isOffTold x1 x2 x3 x4) R := by
  intro m
  induction m with
  | zero => intro v_m_isBroken v_m_rowDay v_m_takenAll v_m_riversAll v_m_variables v_m_pile v_m_row v_m_taken v_m_isDry v_m_wouldLack v_m_more v_m_moreSalt v_m_isOffTold x1 x2 x3 x4 _ _ _ _ _ _; exact pj_nr
  | succ m ih =>
    intro v_m_isBroken v_m_rowDay v_m_takenAll v_m_riversAll v_m_variables v_m_pile v_m_row v_m_taken v_m_isDry v_m_wouldLack v_m_more v_m_moreSalt v_m_isOffTold x1 x2 x3 x4 h0 h1 h2 hx3 hM hk
    show pj f (f_X7_fits_b5_st (f_X7_fits_b5 v_m_live v_m_changed v_m_changedAt v_m_pumpCell v_m_pumpMuch v_m_pumpFrom v_m_pumpTo v_m_cells v_m_room v_m_passes v_m_passOne v_m_passOther v_m_rivers v_m_riverCell v_m_riverLevel v_m_riverWide v_m_riverSalt v_m_rains v_m_villages v_m_home v_m_need v_m_lawFrom v_m_lawTo v_m_code v_m_codeInt v_m_wants v_m_isOff v_m_wide v_m_rainNow v_m_toldDay v_m_toldCell v_m_toldLevel m) v_m_live v_m_changed v_m_changedAt v_m_pumpCell v_m_pumpMuch v_m_pumpFrom v_m_pumpTo v_m_cells v_m_room v_m_passes v_m_passOne v_m_passOther v_m_rivers v_m_riverCell v_m_riverLevel v_m_riverWide v_m_riverSalt v_m_rains v_m_villages v_m_home v_m_need v_m_lawFrom v_m_lawTo v_m_code v_m_codeInt v_m_wants v_m_isOff v_m_wide v_m_rainNow v_m_toldDay v_m_toldCell v_m_toldLevel v_m_isBroken v_m_rowDay v_m_takenAll v_m_riversAll v_m_variables v_m_pile v_m_row v_m_taken v_m_isDry v_m_wouldLack v_m_more v_m_moreSalt v_m_isOffTold x1 x2 x3 x4) R
    unfold f_X7_fits_b5_st
    have ex : (x4.toNatClampNeg : Int) = x4.toInt := cl_k h0
    refine pj_ifr (fun z => ?_) (fun z => ?_)
    · have g := ti_le z
      have e : x4 = x1 := Int32.toInt_inj.mp (by omega)
      rw [e] at hx3 hM
      exact hk _ _ hM hx3
    have g := ti_nle z
    have t1 := add_k (x := x4) (v := 1) (k := 1) rfl (by omega) (by omega)
    have e1 : ((x4 + 1).toNatClampNeg : Int) = (x4 + 1).toInt := cl_k (by omega)
    have e2 : (x4 + 1).toNatClampNeg = x4.toNatClampNeg + 1 := by omega
    refine pj_ckr (fun _ => pj_nrg (fun a3 e3 => ?_))
    have hM2 : ∀ i : Nat, (i : Int) < (x4 + 1).toInt → a3 i = 0 := fun i hi => by
      rw [e3]
      by_cases q : i = x4.toNatClampNeg
      · rw [q, up_at]
        exact nar0
      · rw [up_ne q]
        exact hM i (by omega)
    refine pj_ckr (fun _ => pj_ifr (fun q => ih _ _ _ _ _ _ _ _ _ _ _ _ _ _ _ _ _ (by omega) (by omega) h2 ?_ hM2 hk) (fun q => pj_ckr (fun _ => ih _ _ _ _ _ _ _ _ _ _ _ _ _ _ _ _ _ (by omega) (by omega) h2 ?_ hM2 hk)))
    · rw [e2]
      show x3.toInt = if (v_m_toldDay x4.toNatClampNeg).toInt ≤ L7 v_m_toldDay x4.toNatClampNeg then L7 v_m_toldDay x4.toNatClampNeg else (v_m_toldDay x4.toNatClampNeg).toInt
      rw [← hx3, if_pos (ti_le q)]
    · rw [e2]
      show (v_m_toldDay x4.toNatClampNeg).toInt = if (v_m_toldDay x4.toNatClampNeg).toInt ≤ L7 v_m_toldDay x4.toNatClampNeg then L7 v_m_toldDay x4.toNatClampNeg else (v_m_toldDay x4.toNatClampNeg).toInt
      rw [← hx3, if_neg (by have := ti_nle q; omega)]
theorem r_50e {v_m_live : Int32} {v_m_changed : Int32} {v_m_changedAt : Int32} {v_m_pumpCell : Int32} {v_m_pumpMuch : Int32} {v_m_pumpFrom : Int32} {v_m_pumpTo : Int32} {v_m_cells : Nat → Int32} {v_m_room : Nat → Int32} {v_m_passes : Nat → Int32} {v_m_passOne : Nat → Int32} {v_m_passOther : Nat → Int32} {v_m_rivers : Nat → Int32} {v_m_riverCell : Nat → Int32} {v_m_riverLevel : Nat → Int32} {v_m_riverWide : Nat → Int32} {v_m_riverSalt : Nat → Int32} {v_m_rains : Nat → Int32} {v_m_villages : Nat → Int32} {v_m_home : Nat → Int32} {v_m_need : Nat → Int32} {v_m_lawFrom : Nat → Int32} {v_m_lawTo : Nat → Int32} {v_m_code : Nat → Int32} {v_m_codeInt : Nat → Int32} {v_m_wants : Nat → Int32} {v_m_isOff : Nat → Int32} {v_m_wide : Nat → Int32} {v_m_rainNow : Nat → Int32} {v_m_toldDay : Nat → Int32} {v_m_toldCell : Nat → Int32} {v_m_toldLevel : Nat → Int32} : ∀ (n : Nat) (v_m_isBroken : Int32) (v_m_rowDay : Int32) (v_m_takenAll : Int64) (v_m_riversAll : Int64) (v_m_variables : Nat → Int32) (v_m_pile : Nat → Int32) (v_m_row : Nat → Int64) (v_m_taken : Nat → Int64) (v_m_isDry : Nat → Int32) (v_m_wouldLack : Nat → Int32) (v_m_more : Nat → Int64) (v_m_moreSalt : Nat → Int64) (v_m_isOffTold : Nat → Int32) (x1 : Int32) (x2 : Int32) (x3 : Int32) (x4 : Int32) (x5 : Int32), x3.toInt < x5.toInt → pa (f_X7_fits_b50 v_m_live v_m_changed v_m_changedAt v_m_pumpCell v_m_pumpMuch v_m_pumpFrom v_m_pumpTo v_m_cells v_m_room v_m_passes v_m_passOne v_m_passOther v_m_rivers v_m_riverCell v_m_riverLevel v_m_riverWide v_m_riverSalt v_m_rains v_m_villages v_m_home v_m_need v_m_lawFrom v_m_lawTo v_m_code v_m_codeInt v_m_wants v_m_isOff v_m_wide v_m_rainNow v_m_toldDay v_m_toldCell v_m_toldLevel n v_m_isBroken v_m_rowDay v_m_takenAll v_m_riversAll v_m_variables v_m_pile v_m_row v_m_taken v_m_isDry v_m_wouldLack v_m_more v_m_moreSalt v_m_isOffTold x1 x2 x3 x4 x5) (fun o => o.1 = x4) := by
  intro n v_m_isBroken v_m_rowDay v_m_takenAll v_m_riversAll v_m_variables v_m_pile v_m_row v_m_taken v_m_isDry v_m_wouldLack v_m_more v_m_moreSalt v_m_isOffTold x1 x2 x3 x4 x5 h
  cases n with
  | zero => exact pa_none
  | succ n =>
    show pa (f_X7_fits_b50_st (f_X7_fits_b50 v_m_live v_m_changed v_m_changedAt v_m_pumpCell v_m_pumpMuch v_m_pumpFrom v_m_pumpTo v_m_cells v_m_room v_m_passes v_m_passOne v_m_passOther v_m_rivers v_m_riverCell v_m_riverLevel v_m_riverWide v_m_riverSalt v_m_rains v_m_villages v_m_home v_m_need v_m_lawFrom v_m_lawTo v_m_code v_m_codeInt v_m_wants v_m_isOff v_m_wide v_m_rainNow v_m_toldDay v_m_toldCell v_m_toldLevel n) v_m_live v_m_changed v_m_changedAt v_m_pumpCell v_m_pumpMuch v_m_pumpFrom v_m_pumpTo v_m_cells v_m_room v_m_passes v_m_passOne v_m_passOther v_m_rivers v_m_riverCell v_m_riverLevel v_m_riverWide v_m_riverSalt v_m_rains v_m_villages v_m_home v_m_need v_m_lawFrom v_m_lawTo v_m_code v_m_codeInt v_m_wants v_m_isOff v_m_wide v_m_rainNow v_m_toldDay v_m_toldCell v_m_toldLevel v_m_isBroken v_m_rowDay v_m_takenAll v_m_riversAll v_m_variables v_m_pile v_m_row v_m_taken v_m_isDry v_m_wouldLack v_m_more v_m_moreSalt v_m_isOffTold x1 x2 x3 x4 x5) _
    unfold f_X7_fits_b50_st
    refine pa_if (fun _ => pa_ck (fun _ => pa_some rfl)) (fun z => ?_)
    have := ti_nlt z
    omega
theorem m_gday {v_m_live : Int32} {v_m_changed : Int32} {v_m_changedAt : Int32} {v_m_pumpCell : Int32} {v_m_pumpMuch : Int32} {v_m_pumpFrom : Int32} {v_m_pumpTo : Int32} {v_m_cells : Nat → Int32} {v_m_room : Nat → Int32} {v_m_passes : Nat → Int32} {v_m_passOne : Nat → Int32} {v_m_passOther : Nat → Int32} {v_m_rivers : Nat → Int32} {v_m_riverCell : Nat → Int32} {v_m_riverLevel : Nat → Int32} {v_m_riverWide : Nat → Int32} {v_m_riverSalt : Nat → Int32} {v_m_rains : Nat → Int32} {v_m_villages : Nat → Int32} {v_m_home : Nat → Int32} {v_m_need : Nat → Int32} {v_m_lawFrom : Nat → Int32} {v_m_lawTo : Nat → Int32} {v_m_code : Nat → Int32} {v_m_codeInt : Nat → Int32} {v_m_wants : Nat → Int32} {v_m_isOff : Nat → Int32} {v_m_wide : Nat → Int32} {v_m_rainNow : Nat → Int32} {v_m_isBroken : Int32} {v_m_rowDay : Int32} {v_m_takenAll : Int64} {v_m_riversAll : Int64} {v_m_variables : Nat → Int32} {v_m_pile : Nat → Int32} {v_m_row : Nat → Int64} {v_m_taken : Nat → Int64} {v_m_isDry : Nat → Int32} {v_m_wouldLack : Nat → Int32} {v_m_more : Nat → Int64} {v_m_moreSalt : Nat → Int64} : pa (f_X7_goesBy v_m_live v_m_changed v_m_changedAt v_m_pumpCell v_m_pumpMuch v_m_pumpFrom v_m_pumpTo v_m_cells v_m_room v_m_passes v_m_passOne v_m_passOther v_m_rivers v_m_riverCell v_m_riverLevel v_m_riverWide v_m_riverSalt v_m_rains v_m_villages v_m_home v_m_need v_m_lawFrom v_m_lawTo v_m_code v_m_codeInt v_m_wants v_m_isOff v_m_wide v_m_rainNow v_m_isBroken v_m_rowDay v_m_takenAll v_m_riversAll v_m_variables v_m_pile v_m_row v_m_taken v_m_isDry v_m_wouldLack v_m_more v_m_moreSalt) (fun o => o.2.1 = v_m_rowDay + 1) := by
  unfold f_X7_goesBy
  exact pa_bd pa_tr (fun _ _ => pa_bd8 pa_tr (fun _ _ _ _ _ _ _ _ _ => pa_bd4 pa_tr (fun _ _ _ _ _ => pa_some rfl)))
theorem i64_inj {a b : Int32} : a.toInt64 = b.toInt64 ↔ a = b := by
  refine ⟨fun q => Int32.toInt_inj.mp ?_, fun q => by rw [q]⟩
  have e1 := Jvm.Kit.i64_of_i32 a
  have e2 := Jvm.Kit.i64_of_i32 b
  rw [q] at e1
  omega
/-- what the class knows of the marks -/
def FO (k x : Int32) (off : Nat → Int32) : Prop := (x = -2 ∧ ∀ i : Nat, (i : Int) < k.toInt → off i = 0) ∨ (0 ≤ x.toInt ∧ x.toInt < k.toInt ∧ ¬ off x.toNatClampNeg = 0 ∧ ∀ i : Nat, (i : Int) < x.toInt → off i = 0)
def FBO (x o : Int32) : Prop := (o = 1 ∧ x = -2) ∨ (o = 0 ∧ ¬ x = -2)
set_option maxHeartbeats 8000000 in
theorem l_off {v_e_toldDay : Nat → Int32} {v_e_toldCell : Nat → Int32} {v_e_toldLevel : Nat → Int32} {v_g_cells : Int32} {v_g_passes : Int32} {v_g_rivers : Int32} {v_g_villages : Int32} {v_g_rains : Int32} {v_g_room : Nat → Int32} {v_g_passFrom : Nat → Int32} {v_g_passTo : Nat → Int32} {v_g_riverCell : Nat → Int32} {v_g_riverLevel : Nat → Int32} {v_g_riverSalt : Nat → Int32} {v_g_villageCell : Nat → Int32} {v_g_need : Nat → Int32} {v_g_lawEnd : Nat → Int32} {v_g_code : Nat → Int32} {v_p_pumpTakes : Int32} {v_p_pumpFrom : Int32} {v_p_pumpTo : Int32} {v_m_live : Int32} {v_m_changed : Int32} {v_m_changedAt : Int32} {v_m_pumpCell : Int32} {v_m_pumpMuch : Int32} {v_m_pumpFrom : Int32} {v_m_pumpTo : Int32} {v_m_cells : Nat → Int32} {v_m_room : Nat → Int32} {v_m_passes : Nat → Int32} {v_m_passOne : Nat → Int32} {v_m_passOther : Nat → Int32} {v_m_rivers : Nat → Int32} {v_m_riverCell : Nat → Int32} {v_m_riverLevel : Nat → Int32} {v_m_riverWide : Nat → Int32} {v_m_riverSalt : Nat → Int32} {v_m_rains : Nat → Int32} {v_m_villages : Nat → Int32} {v_m_home : Nat → Int32} {v_m_need : Nat → Int32} {v_m_lawFrom : Nat → Int32} {v_m_lawTo : Nat → Int32} {v_m_code : Nat → Int32} {v_m_codeInt : Nat → Int32} {v_m_wants : Nat → Int32} {v_m_isOff : Nat → Int32} {v_m_wide : Nat → Int32} {v_m_rainNow : Nat → Int32} {v_m_toldDay : Nat → Int32} {v_m_toldCell : Nat → Int32} {v_m_toldLevel : Nat → Int32} {B : Int} (hB : B ≤ 1980000) (y : DY v_m_live v_m_cells v_m_room v_m_passes v_m_passOne v_m_passOther v_m_rivers v_m_riverCell v_m_riverLevel v_m_riverWide v_m_rains v_m_villages v_m_home v_m_lawFrom v_m_lawTo v_m_code v_m_codeInt) (hne : NE v_m_live v_m_villages v_m_need) (G : GL v_m_live v_g_cells v_g_passes v_g_rivers v_g_villages v_g_rains v_g_room v_g_passFrom v_g_passTo v_g_riverCell v_g_riverLevel v_g_riverSalt v_g_villageCell v_g_need v_g_lawEnd v_g_code v_m_cells v_m_room v_m_passes v_m_passOne v_m_passOther v_m_rivers v_m_riverCell v_m_riverLevel v_m_riverSalt v_m_rains v_m_villages v_m_home v_m_need v_m_lawFrom v_m_lawTo v_m_code v_m_codeInt) {K : Int32} (hK1 : 0 ≤ K.toInt ∧ K.toInt ≤ 20) (hTL : (∀ i : Nat, (i : Int) < K.toInt → v_e_toldDay i = v_m_toldDay i ∧ v_e_toldCell i = v_m_toldCell i ∧ v_e_toldLevel i = v_m_toldLevel i)) (hTC : (∀ i : Nat, (i : Int) < K.toInt → 0 ≤ (v_m_toldCell i).toInt ∧ (v_m_toldCell i).toInt < v_g_cells.toInt)) : ∀ (n m : Nat) (v_p_pumpCell : Int32) (v_p_wanting : Nat → Int32) (v_p_passWidth : Nat → Int32) (v_p_riverWidth : Nat → Int32) (v_p_rain : Nat → Int32) (v_c_pumped : Int32) (v_c_today : Int32) (v_c_lacked : Nat → Int32) (v_c_level : Nat → Int32) (v_c_water : Nat → Int32) (v_c_salt : Nat → Int64) (v_c_stack : Nat → Int32) (v_d_day : Int32) (v_d_water : Nat → Int32) (v_d_salt : Nat → Int64) (v_d_seen : Nat → Int32) (v_d_took : Nat → Int32) (v_d_dryDays : Nat → Int32) (v_d_firstDry : Nat → Int32) (v_d_total : Nat → Int32) (xk : Int32) (xf : Int32) (xl : Int32) (xd : Int32) (v_m_isBroken : Int32) (v_m_rowDay : Int32) (v_m_takenAll : Int64) (v_m_riversAll : Int64) (v_m_variables : Nat → Int32) (v_m_pile : Nat → Int32) (v_m_row : Nat → Int64) (v_m_taken : Nat → Int64) (v_m_isDry : Nat → Int32) (v_m_wouldLack : Nat → Int32) (v_m_more : Nat → Int64) (v_m_moreSalt : Nat → Int64) (v_m_isOffTold : Nat → Int32) (xm : Int32) (xl7 : Int32) (xo : Int32), 0 ≤ xd.toInt → xd.toInt ≤ xl.toInt + 1 → xl.toInt ≤ 199 → xl = xl7 → ¬ xm = 0 → K = xk → v_d_day = xd → FO K xf v_m_isOffTold → FBO xf xo → PN v_m_live v_m_cells v_m_passes v_m_rains v_m_wants v_m_wide v_m_rainNow v_m_pumpCell v_m_pumpMuch → PLN v_m_live v_m_changed v_m_changedAt v_g_villages.toInt v_g_passes.toInt v_g_rivers.toInt v_g_rains.toInt v_m_pumpCell v_m_pumpMuch v_m_pumpFrom v_m_pumpTo v_p_pumpCell v_p_pumpTakes v_p_pumpFrom v_p_pumpTo v_p_wanting v_p_passWidth v_p_riverWidth v_p_rain v_m_wants v_m_isOff v_m_wide v_m_rainNow v_m_riverWide → DD v_m_live v_g_cells.toInt v_g_villages.toInt (B + xd.toInt) v_m_cells v_m_room v_d_day v_m_rowDay v_d_water v_d_salt v_d_seen v_d_took v_d_dryDays v_d_firstDry v_d_total v_m_row → pj (f_X2_firstOff_b34 v_e_toldDay v_e_toldCell v_e_toldLevel v_g_cells v_g_passes v_g_rivers v_g_villages v_g_rains v_g_room v_g_passFrom v_g_passTo v_g_riverCell v_g_riverLevel v_g_riverSalt v_g_villageCell v_g_need v_g_lawEnd v_g_code v_p_pumpTakes v_p_pumpFrom v_p_pumpTo n v_p_pumpCell v_p_wanting v_p_passWidth v_p_riverWidth v_p_rain v_c_pumped v_c_today v_c_lacked v_c_level v_c_water v_c_salt v_c_stack v_d_day v_d_water v_d_salt v_d_seen v_d_took v_d_dryDays v_d_firstDry v_d_total xk xf xl xd) (f_X7_fits_b50 v_m_live v_m_changed v_m_changedAt v_m_pumpCell v_m_pumpMuch v_m_pumpFrom v_m_pumpTo v_m_cells v_m_room v_m_passes v_m_passOne v_m_passOther v_m_rivers v_m_riverCell v_m_riverLevel v_m_riverWide v_m_riverSalt v_m_rains v_m_villages v_m_home v_m_need v_m_lawFrom v_m_lawTo v_m_code v_m_codeInt v_m_wants v_m_isOff v_m_wide v_m_rainNow v_m_toldDay v_m_toldCell v_m_toldLevel m v_m_isBroken v_m_rowDay v_m_takenAll v_m_riversAll v_m_variables v_m_pile v_m_row v_m_taken v_m_isDry v_m_wouldLack v_m_more v_m_moreSalt v_m_isOffTold xk xm xl7 xo xd) (fun a b => FO K a.1 b.2.2.2.2.2.2.2.2.2.2.2.2.2 ∧ FBO a.1 b.1) := by
  intro n
  induction n with
  | zero => intro m v_p_pumpCell v_p_wanting v_p_passWidth v_p_riverWidth v_p_rain v_c_pumped v_c_today v_c_lacked v_c_level v_c_water v_c_salt v_c_stack v_d_day v_d_water v_d_salt v_d_seen v_d_took v_d_dryDays v_d_firstDry v_d_total xk xf xl xd v_m_isBroken v_m_rowDay v_m_takenAll v_m_riversAll v_m_variables v_m_pile v_m_row v_m_taken v_m_isDry v_m_wouldLack v_m_more v_m_moreSalt v_m_isOffTold xm xl7 xo _ _ _ _ _ _ _ _ _ _ _ _; exact pj_nl
  | succ n ih =>
    intro m v_p_pumpCell v_p_wanting v_p_passWidth v_p_riverWidth v_p_rain v_c_pumped v_c_today v_c_lacked v_c_level v_c_water v_c_salt v_c_stack v_d_day v_d_water v_d_salt v_d_seen v_d_took v_d_dryDays v_d_firstDry v_d_total xk xf xl xd v_m_isBroken v_m_rowDay v_m_takenAll v_m_riversAll v_m_variables v_m_pile v_m_row v_m_taken v_m_isDry v_m_wouldLack v_m_more v_m_moreSalt v_m_isOffTold xm xl7 xo hx0 hx1 hxn hl7 hm hK hday hfo hfb p P hD
    cases m with
    | zero => exact pj_nr
    | succ m =>
    show pj (f_X2_firstOff_b34_st (f_X2_firstOff_b34 v_e_toldDay v_e_toldCell v_e_toldLevel v_g_cells v_g_passes v_g_rivers v_g_villages v_g_rains v_g_room v_g_passFrom v_g_passTo v_g_riverCell v_g_riverLevel v_g_riverSalt v_g_villageCell v_g_need v_g_lawEnd v_g_code v_p_pumpTakes v_p_pumpFrom v_p_pumpTo n) v_e_toldDay v_e_toldCell v_e_toldLevel v_g_cells v_g_passes v_g_rivers v_g_villages v_g_rains v_g_room v_g_passFrom v_g_passTo v_g_riverCell v_g_riverLevel v_g_riverSalt v_g_villageCell v_g_need v_g_lawEnd v_g_code v_p_pumpTakes v_p_pumpFrom v_p_pumpTo v_p_pumpCell v_p_wanting v_p_passWidth v_p_riverWidth v_p_rain v_c_pumped v_c_today v_c_lacked v_c_level v_c_water v_c_salt v_c_stack v_d_day v_d_water v_d_salt v_d_seen v_d_took v_d_dryDays v_d_firstDry v_d_total xk xf xl xd) (f_X7_fits_b50_st (f_X7_fits_b50 v_m_live v_m_changed v_m_changedAt v_m_pumpCell v_m_pumpMuch v_m_pumpFrom v_m_pumpTo v_m_cells v_m_room v_m_passes v_m_passOne v_m_passOther v_m_rivers v_m_riverCell v_m_riverLevel v_m_riverWide v_m_riverSalt v_m_rains v_m_villages v_m_home v_m_need v_m_lawFrom v_m_lawTo v_m_code v_m_codeInt v_m_wants v_m_isOff v_m_wide v_m_rainNow v_m_toldDay v_m_toldCell v_m_toldLevel m) v_m_live v_m_changed v_m_changedAt v_m_pumpCell v_m_pumpMuch v_m_pumpFrom v_m_pumpTo v_m_cells v_m_room v_m_passes v_m_passOne v_m_passOther v_m_rivers v_m_riverCell v_m_riverLevel v_m_riverWide v_m_riverSalt v_m_rains v_m_villages v_m_home v_m_need v_m_lawFrom v_m_lawTo v_m_code v_m_codeInt v_m_wants v_m_isOff v_m_wide v_m_rainNow v_m_toldDay v_m_toldCell v_m_toldLevel v_m_isBroken v_m_rowDay v_m_takenAll v_m_riversAll v_m_variables v_m_pile v_m_row v_m_taken v_m_isDry v_m_wouldLack v_m_more v_m_moreSalt v_m_isOffTold xk xm xl7 xo xd) _
    unfold f_X2_firstOff_b34_st f_X7_fits_b50_st
    subst hl7
    subst hK
    have hc12 := y.1.2.1
    rw [G.1] at hc12
    have hc12 : 0 ≤ v_g_cells.toInt ∧ v_g_cells.toInt ≤ 12 := hc12
    have m2 : (-2 : Int32).toInt = -2 := by decide
    refine pj_ifl (fun z => pj_ifr (fun _ => pj_ckr (fun _ => pj_ss ⟨hfo, hfb⟩)) (fun k => absurd z k)) (fun z => pj_ifr (fun k => absurd k z) (fun _ => ?_))
    have g := ti_nlt z
    have t1 := add_k (x := xd) (v := 1) (k := 1) rfl (by omega) (by omega)
    have hroom : ∀ c : Nat, (c : Int) < v_g_cells.toInt → 1 ≤ (v_g_room c).toInt := fun c hc => by
      rw [G.2.2.2.2.2.1 c hc]
      exact (RW_n y.1 G.1 hD.2.1.2.2 c hc).2.2.1
    have htc : ∀ i : Nat, (i : Int) < K.toInt → (((v_e_toldCell i).toNatClampNeg : Nat) : Int) < v_g_cells.toInt := fun i hi => by
      have k := hTC i hi
      rw [(hTL i hi).2.1]
      have := cl_k k.1
      omega
    have ho : pa (f_X2_offToday v_e_toldDay v_e_toldCell v_e_toldLevel v_g_room v_d_day v_d_water K) (OFT K (MIS v_e_toldDay v_e_toldCell v_e_toldLevel v_g_room v_d_water v_d_day)) := by
      unfold f_X2_offToday
      exact c_off fuel K 0 (by decide) (by show (0 : Int) ≤ _; exact hK1.1) hK1.2 (fun i hi => hroom _ (htc i hi)) (fun i hi => absurd hi (by show ¬ (i : Int) < 0; omega))
    refine pj_bl ho (fun o2 ho2 => ?_)
    refine r_59 (L := fun i => v_d_water (v_e_toldCell i).toNatClampNeg / v_g_room (v_e_toldCell i).toNatClampNeg = v_e_toldLevel i) (off0 := v_m_isOffTold) (x40 := xo) fuel _ _ _ _ _ _ _ _ _ _ _ _ _ _ _ _ _ _ _ (by decide) (by show (0 : Int) ≤ _; exact hK1.1) hK1.2 hm (fun i hi => ?_) (fun i => ⟨fun k => absurd k (by show ¬ (i : Int) < 0; omega), fun _ => rfl⟩) (Or.inl ⟨rfl, fun i hi => absurd hi (by show ¬ (i : Int) < 0; omega)⟩) (fun off' xo' hmk hfl => ?_)
    · have k := hTC i hi
      refine pa_w (lev_eq (lv := v_d_water (v_m_toldCell i).toNatClampNeg / v_g_room (v_m_toldCell i).toNatClampNeg) y.1.1 G.2.2.2.2.2.1 (hroom _ (by rw [← (hTL i hi).2.1]; exact htc i hi)) hD.2.2 k.1 k.2 hc12.2 rfl) (fun o ho => ?_)
      rw [lg_cmp_eq, ho, i64_inj, (hTL i hi).2.1, (hTL i hi).2.2]
    have hmis : ∀ i : Nat, (i : Int) < K.toInt → ((v_m_toldDay i = xd ∧ ¬ v_d_water (v_e_toldCell i).toNatClampNeg / v_g_room (v_e_toldCell i).toNatClampNeg = v_e_toldLevel i) ↔ MIS v_e_toldDay v_e_toldCell v_e_toldLevel v_g_room v_d_water v_d_day i) := fun i hi => by
      unfold MIS
      rw [(hTL i hi).1, hday]
    have fin_ : ∀ xf' : Int32, FO K xf' off' → FBO xf' xo' → pj (f_X2_firstOff_b69 (f_X2_firstOff_b34 v_e_toldDay v_e_toldCell v_e_toldLevel v_g_cells v_g_passes v_g_rivers v_g_villages v_g_rains v_g_room v_g_passFrom v_g_passTo v_g_riverCell v_g_riverLevel v_g_riverSalt v_g_villageCell v_g_need v_g_lawEnd v_g_code v_p_pumpTakes v_p_pumpFrom v_p_pumpTo n) v_e_toldDay v_e_toldCell v_e_toldLevel v_g_cells v_g_passes v_g_rivers v_g_villages v_g_rains v_g_room v_g_passFrom v_g_passTo v_g_riverCell v_g_riverLevel v_g_riverSalt v_g_villageCell v_g_need v_g_lawEnd v_g_code v_p_pumpTakes v_p_pumpFrom v_p_pumpTo v_p_pumpCell v_p_wanting v_p_passWidth v_p_riverWidth v_p_rain v_c_pumped v_c_today v_c_lacked v_c_level v_c_water v_c_salt v_c_stack v_d_day v_d_water v_d_salt v_d_seen v_d_took v_d_dryDays v_d_firstDry v_d_total K xf' xl xd) (bd (f_X7_goesBy v_m_live v_m_changed v_m_changedAt v_m_pumpCell v_m_pumpMuch v_m_pumpFrom v_m_pumpTo v_m_cells v_m_room v_m_passes v_m_passOne v_m_passOther v_m_rivers v_m_riverCell v_m_riverLevel v_m_riverWide v_m_riverSalt v_m_rains v_m_villages v_m_home v_m_need v_m_lawFrom v_m_lawTo v_m_code v_m_codeInt v_m_wants v_m_isOff v_m_wide v_m_rainNow v_m_isBroken v_m_rowDay v_m_takenAll v_m_riversAll v_m_variables v_m_pile v_m_row v_m_taken v_m_isDry v_m_wouldLack v_m_more v_m_moreSalt) (fun o_2 => un12 o_2 (fun o_2_0 o_2_1 o_2_2 o_2_3 o_2_4 o_2_5 o_2_6 o_2_7 o_2_8 o_2_9 o_2_10 o_2_11 => (f_X7_fits_b50 v_m_live v_m_changed v_m_changedAt v_m_pumpCell v_m_pumpMuch v_m_pumpFrom v_m_pumpTo v_m_cells v_m_room v_m_passes v_m_passOne v_m_passOther v_m_rivers v_m_riverCell v_m_riverLevel v_m_riverWide v_m_riverSalt v_m_rains v_m_villages v_m_home v_m_need v_m_lawFrom v_m_lawTo v_m_code v_m_codeInt v_m_wants v_m_isOff v_m_wide v_m_rainNow v_m_toldDay v_m_toldCell v_m_toldLevel m) o_2_0 o_2_1 o_2_2 o_2_3 o_2_4 o_2_5 o_2_6 o_2_7 o_2_8 o_2_9 o_2_10 o_2_11 off' K xm xl xo' (xd + (1 : Int32))))) (fun a b => FO K a.1 b.2.2.2.2.2.2.2.2.2.2.2.2.2 ∧ FBO a.1 b.1) := by
      intro xf' hfo' hfb'
      unfold f_X2_firstOff_b69
      refine pj_b15_12 (pj_and_r (j_dd y hne G p P hD (by omega)) m_gday) (fun a0 a1 a2 a3 a4 a5 a6 a7 a8 a9 a10 a11 a12 a13 a14 b0 b1 b2 b3 b4 b5 b6 b7 b8 b9 b10 b11 hab => ?_)
      obtain ⟨⟨hD2, _⟩, hb1⟩ := hab
      have hb1 : b1 = v_m_rowDay + 1 := hb1
      have hD1 : a7 = b1 := hD2.1
      refine ih m _ _ _ _ _ _ _ _ _ _ _ _ _ _ _ _ _ _ _ _ _ _ _ _ _ _ _ _ _ _ _ _ _ _ _ _ _ _ _ _ (by omega) (by omega) hxn rfl hm rfl ?_ hfo' hfb' p P (by rw [t1, ← Int.add_assoc]; exact hD2)
      rw [hD1, hb1, ← hday, hD.1]
    -- what is the first now
    rcases ho2 with ⟨e2, n2⟩ | ⟨o0, o1, om, on_⟩
    · have hall : ∀ i : Nat, (i : Int) < K.toInt → (off' i = 0 ↔ v_m_isOffTold i = 0) := fun i hi => ⟨fun k => ((hmk i hi).mp k).1, fun k => (hmk i hi).mpr ⟨k, fun l => n2 i hi ((hmis i hi).mp l)⟩⟩
      have hxo : xo' = xo := by
        rcases hfl with ⟨q, _⟩ | ⟨_, i, hi, q⟩
        · exact q
        · exact absurd ((hmis i hi).mp q) (n2 i hi)
      refine pj_ifl (fun _ => fin_ xf ?_ (by rw [hxo]; exact hfb)) (fun k => absurd e2 k)
      rcases hfo with ⟨f1, f2⟩ | ⟨f0, f1, f2, f3⟩
      · exact Or.inl ⟨f1, fun i hi => (hall i hi).mpr (f2 i hi)⟩
      · have ef : (xf.toNatClampNeg : Int) = xf.toInt := cl_k f0
        exact Or.inr ⟨f0, f1, fun k => f2 ((hall _ (by omega)).mp k), fun i hi => (hall i (by omega)).mpr (f3 i hi)⟩
    · have eo : (o2.toNatClampNeg : Int) = o2.toInt := cl_k o0
      have ne2 : ¬ o2 = -2 := fun k => by
        have := z_eq m2 k
        omega
      have hxo : xo' = 0 := by
        rcases hfl with ⟨_, q⟩ | ⟨q, _⟩
        · exact absurd ((hmis _ (by omega)).mpr om) (q _ (by omega))
        · exact q
      have hmo : ¬ off' o2.toNatClampNeg = 0 := fun k => ((hmk _ (by omega)).mp k).2 ((hmis _ (by omega)).mpr om)
      have take_ : (∀ i : Nat, (i : Int) < o2.toInt → v_m_isOffTold i = 0) → FO K o2 off' := fun hz => Or.inr ⟨o0, o1, hmo, fun i hi => (hmk i (by omega)).mpr ⟨hz i hi, fun l => on_ i hi ((hmis i (by omega)).mp l)⟩⟩
      have fbo : FBO o2 xo' := Or.inr ⟨hxo, ne2⟩
      refine pj_ifl (fun k => absurd k ne2) (fun _ => ?_)
      rcases hfo with ⟨f1, f2⟩ | ⟨f0, f1, f2, f3⟩
      · exact pj_ifl (fun _ => fin_ o2 (take_ (fun i hi => f2 i (by omega))) fbo) (fun k => absurd f1 k)
      · have ef : (xf.toNatClampNeg : Int) = xf.toInt := cl_k f0
        have nf : ¬ xf = -2 := fun k => by
          have := z_eq m2 k
          omega
        refine pj_ifl (fun k => absurd k nf) (fun _ => pj_ifl (fun k => ?_) (fun k => ?_))
        · have g2 := ti_le k
          refine fin_ xf (Or.inr ⟨f0, f1, fun l => f2 ((hmk _ (by omega)).mp l).1, fun i hi => (hmk i (by omega)).mpr ⟨f3 i hi, fun l => on_ i (by omega) ((hmis i (by omega)).mp l)⟩⟩) (Or.inr ⟨hxo, nf⟩)
        · have g2 := ti_nle k
          exact fin_ o2 (take_ (fun i hi => f3 i (by omega))) fbo
set_option maxHeartbeats 4000000 in
theorem c_first0 {v_e_toldDay : Nat → Int32} {v_e_toldCell : Nat → Int32} {v_e_toldLevel : Nat → Int32} {v_g_cells : Int32} {v_g_passes : Int32} {v_g_rivers : Int32} {v_g_villages : Int32} {v_g_rains : Int32} {v_g_room : Nat → Int32} {v_g_passFrom : Nat → Int32} {v_g_passTo : Nat → Int32} {v_g_riverCell : Nat → Int32} {v_g_riverLevel : Nat → Int32} {v_g_riverSalt : Nat → Int32} {v_g_villageCell : Nat → Int32} {v_g_need : Nat → Int32} {v_g_lawEnd : Nat → Int32} {v_g_code : Nat → Int32} {v_p_pumpTakes : Int32} {v_p_pumpFrom : Int32} {v_p_pumpTo : Int32} : ∀ (n : Nat) (v_p_pumpCell : Int32) (v_p_wanting : Nat → Int32) (v_p_passWidth : Nat → Int32) (v_p_riverWidth : Nat → Int32) (v_p_rain : Nat → Int32) (v_c_pumped : Int32) (v_c_today : Int32) (v_c_lacked : Nat → Int32) (v_c_level : Nat → Int32) (v_c_water : Nat → Int32) (v_c_salt : Nat → Int64) (v_c_stack : Nat → Int32) (v_d_day : Int32) (v_d_water : Nat → Int32) (v_d_salt : Nat → Int64) (v_d_seen : Nat → Int32) (v_d_took : Nat → Int32) (v_d_dryDays : Nat → Int32) (v_d_firstDry : Nat → Int32) (v_d_total : Nat → Int32) (x1 : Int32) (x2 : Int32) (x3 : Int32) (x4 : Int32), x1 = 0 → x2 = -2 → pa (f_X2_firstOff_b34 v_e_toldDay v_e_toldCell v_e_toldLevel v_g_cells v_g_passes v_g_rivers v_g_villages v_g_rains v_g_room v_g_passFrom v_g_passTo v_g_riverCell v_g_riverLevel v_g_riverSalt v_g_villageCell v_g_need v_g_lawEnd v_g_code v_p_pumpTakes v_p_pumpFrom v_p_pumpTo n v_p_pumpCell v_p_wanting v_p_passWidth v_p_riverWidth v_p_rain v_c_pumped v_c_today v_c_lacked v_c_level v_c_water v_c_salt v_c_stack v_d_day v_d_water v_d_salt v_d_seen v_d_took v_d_dryDays v_d_firstDry v_d_total x1 x2 x3 x4) (fun a => a.1 = -2) := by
  intro n
  induction n with
  | zero => intro v_p_pumpCell v_p_wanting v_p_passWidth v_p_riverWidth v_p_rain v_c_pumped v_c_today v_c_lacked v_c_level v_c_water v_c_salt v_c_stack v_d_day v_d_water v_d_salt v_d_seen v_d_took v_d_dryDays v_d_firstDry v_d_total x1 x2 x3 x4 _ _; exact pa_none
  | succ n ih =>
    intro v_p_pumpCell v_p_wanting v_p_passWidth v_p_riverWidth v_p_rain v_c_pumped v_c_today v_c_lacked v_c_level v_c_water v_c_salt v_c_stack v_d_day v_d_water v_d_salt v_d_seen v_d_took v_d_dryDays v_d_firstDry v_d_total x1 x2 x3 x4 h1 h2
    show pa (f_X2_firstOff_b34_st (f_X2_firstOff_b34 v_e_toldDay v_e_toldCell v_e_toldLevel v_g_cells v_g_passes v_g_rivers v_g_villages v_g_rains v_g_room v_g_passFrom v_g_passTo v_g_riverCell v_g_riverLevel v_g_riverSalt v_g_villageCell v_g_need v_g_lawEnd v_g_code v_p_pumpTakes v_p_pumpFrom v_p_pumpTo n) v_e_toldDay v_e_toldCell v_e_toldLevel v_g_cells v_g_passes v_g_rivers v_g_villages v_g_rains v_g_room v_g_passFrom v_g_passTo v_g_riverCell v_g_riverLevel v_g_riverSalt v_g_villageCell v_g_need v_g_lawEnd v_g_code v_p_pumpTakes v_p_pumpFrom v_p_pumpTo v_p_pumpCell v_p_wanting v_p_passWidth v_p_riverWidth v_p_rain v_c_pumped v_c_today v_c_lacked v_c_level v_c_water v_c_salt v_c_stack v_d_day v_d_water v_d_salt v_d_seen v_d_took v_d_dryDays v_d_firstDry v_d_total x1 x2 x3 x4) _
    unfold f_X2_firstOff_b34_st
    subst h1
    refine pa_if (fun _ => pa_some h2) (fun _ => ?_)
    have ho : pa (f_X2_offToday v_e_toldDay v_e_toldCell v_e_toldLevel v_g_room v_d_day v_d_water 0) (OFT 0 (MIS v_e_toldDay v_e_toldCell v_e_toldLevel v_g_room v_d_water v_d_day)) := by
      unfold f_X2_offToday
      exact c_off fuel 0 0 (by decide) (by decide) (by decide) (fun i hi => absurd hi (by show ¬ (i : Int) < 0; omega)) (fun i hi => absurd hi (by show ¬ (i : Int) < 0; omega))
    refine pa_bd ho (fun o2 ho2 => ?_)
    have e2 : o2 = -2 := by
      rcases ho2 with ⟨e, _⟩ | ⟨a, b, _⟩
      · exact e
      · have b : o2.toInt < 0 := b
        omega
    refine pa_if (fun _ => ?_) (fun k => absurd e2 k)
    unfold f_X2_firstOff_b69
    exact pa_bd15 pa_tr (fun a0 a1 a2 a3 a4 a5 a6 a7 a8 a9 a10 a11 a12 a13 a14 _ => ih _ _ _ _ _ _ _ _ _ _ _ _ _ _ _ _ _ _ _ _ _ _ _ _ rfl h2)
set_option maxHeartbeats 4000000 in
theorem r_32  {X : Int32} (h1 : X.toInt ≤ 20) : ∀ (n : Nat) (v_m_isBroken : Int32) (v_m_rowDay : Int32) (v_m_changed : Int32) (v_m_pumpCell : Int32) (v_m_takenAll : Int64) (v_m_riversAll : Int64) (v_m_variables : Nat → Int32) (v_m_pile : Nat → Int32) (v_m_row : Nat → Int64) (v_m_wants : Nat → Int32) (v_m_isOff : Nat → Int32) (v_m_wide : Nat → Int32) (v_m_rainNow : Nat → Int32) (v_m_taken : Nat → Int64) (v_m_isDry : Nat → Int32) (v_m_wouldLack : Nat → Int32) (v_m_more : Nat → Int64) (v_m_moreSalt : Nat → Int64) (v_m_isOffTold : Nat → Int32) (x2 : Int32), 0 ≤ x2.toInt → x2.toInt ≤ X.toInt → ¬ v_m_isOffTold X.toNatClampNeg = 0 → (∀ i : Nat, (i : Int) < X.toInt → v_m_isOffTold i = 0) → pa (f_X7_off_b32  n v_m_isBroken v_m_rowDay v_m_changed v_m_pumpCell v_m_takenAll v_m_riversAll v_m_variables v_m_pile v_m_row v_m_wants v_m_isOff v_m_wide v_m_rainNow v_m_taken v_m_isDry v_m_wouldLack v_m_more v_m_moreSalt v_m_isOffTold x2) (fun b => b.1 = X) := by
  intro n
  induction n with
  | zero => intro v_m_isBroken v_m_rowDay v_m_changed v_m_pumpCell v_m_takenAll v_m_riversAll v_m_variables v_m_pile v_m_row v_m_wants v_m_isOff v_m_wide v_m_rainNow v_m_taken v_m_isDry v_m_wouldLack v_m_more v_m_moreSalt v_m_isOffTold x2 _ _ _ _; exact pa_none
  | succ n ih =>
    intro v_m_isBroken v_m_rowDay v_m_changed v_m_pumpCell v_m_takenAll v_m_riversAll v_m_variables v_m_pile v_m_row v_m_wants v_m_isOff v_m_wide v_m_rainNow v_m_taken v_m_isDry v_m_wouldLack v_m_more v_m_moreSalt v_m_isOffTold x2 h0 hx hm hz
    show pa (f_X7_off_b32_st (f_X7_off_b32  n)  v_m_isBroken v_m_rowDay v_m_changed v_m_pumpCell v_m_takenAll v_m_riversAll v_m_variables v_m_pile v_m_row v_m_wants v_m_isOff v_m_wide v_m_rainNow v_m_taken v_m_isDry v_m_wouldLack v_m_more v_m_moreSalt v_m_isOffTold x2) _
    unfold f_X7_off_b32_st
    have ex : (x2.toNatClampNeg : Int) = x2.toInt := cl_k h0
    have eX : (X.toNatClampNeg : Int) = X.toInt := cl_k (by omega)
    have t1 := add_k (x := x2) (v := 1) (k := 1) rfl (by omega) (by omega)
    refine pa_ck (fun _ => pa_if (fun q => ?_) (fun q => pa_some ?_))
    · have : ¬ x2.toInt = X.toInt := fun k => hm (by rw [show X.toNatClampNeg = x2.toNatClampNeg by omega]; exact q)
      exact ih _ _ _ _ _ _ _ _ _ _ _ _ _ _ _ _ _ _ _ _ (by omega) (by omega) hm hz
    · show x2 = X
      apply Int32.toInt_inj.mp
      have : ¬ x2.toInt < X.toInt := fun k => q (hz x2.toNatClampNeg (by omega))
      omega
set_option maxHeartbeats 8000000 in
theorem q_off {v_g_cells : Int32} {v_g_passes : Int32} {v_g_rivers : Int32} {v_g_villages : Int32} {v_g_rains : Int32} {v_g_room : Nat → Int32} {v_g_water : Nat → Int32} {v_g_passFrom : Nat → Int32} {v_g_passTo : Nat → Int32} {v_g_passWidth : Nat → Int32} {v_g_riverCell : Nat → Int32} {v_g_riverLevel : Nat → Int32} {v_g_riverWidth : Nat → Int32} {v_g_riverSalt : Nat → Int32} {v_g_villageCell : Nat → Int32} {v_g_need : Nat → Int32} {v_g_lawEnd : Nat → Int32} {v_g_code : Nat → Int32} {v_g_rain : Nat → Int32} {v_e_told : Int32} {v_e_toldDay : Nat → Int32} {v_e_toldCell : Nat → Int32} {v_e_toldLevel : Nat → Int32} {v_ep_pumpTakes : Int32} {v_ep_pumpFrom : Int32} {v_ep_pumpTo : Int32} {v_ep_pumpCell : Int32} {v_ep_wanting : Nat → Int32} {v_ep_passWidth : Nat → Int32} {v_ep_riverWidth : Nat → Int32} {v_ep_rain : Nat → Int32} {v_ec_pumped : Int32} {v_ec_today : Int32} {v_ec_lacked : Nat → Int32} {v_ec_level : Nat → Int32} {v_ec_water : Nat → Int32} {v_ec_salt : Nat → Int64} {v_ec_stack : Nat → Int32} {v_ed_day : Int32} {v_ed_water : Nat → Int32} {v_ed_salt : Nat → Int64} {v_ed_seen : Nat → Int32} {v_ed_took : Nat → Int32} {v_ed_dryDays : Nat → Int32} {v_ed_firstDry : Nat → Int32} {v_ed_total : Nat → Int32} {q1 : Int32} {v_m_live : Int32} {v_m_changedAt : Int32} {v_m_pumpMuch : Int32} {v_m_pumpFrom : Int32} {v_m_pumpTo : Int32} {v_m_told : Int32} {v_m_cells : Nat → Int32} {v_m_room : Nat → Int32} {v_m_water : Nat → Int32} {v_m_passes : Nat → Int32} {v_m_passOne : Nat → Int32} {v_m_passOther : Nat → Int32} {v_m_passWide : Nat → Int32} {v_m_rivers : Nat → Int32} {v_m_riverCell : Nat → Int32} {v_m_riverLevel : Nat → Int32} {v_m_riverWide : Nat → Int32} {v_m_riverSalt : Nat → Int32} {v_m_rains : Nat → Int32} {v_m_rain : Nat → Int32} {v_m_villages : Nat → Int32} {v_m_home : Nat → Int32} {v_m_need : Nat → Int32} {v_m_lawFrom : Nat → Int32} {v_m_lawTo : Nat → Int32} {v_m_code : Nat → Int32} {v_m_codeInt : Nat → Int32} {v_m_toldDay : Nat → Int32} {v_m_toldCell : Nat → Int32} {v_m_toldLevel : Nat → Int32} {v_m_isBroken : Int32} {v_m_rowDay : Int32} {v_m_changed : Int32} {v_m_pumpCell : Int32} {v_m_takenAll : Int64} {v_m_riversAll : Int64} {v_m_variables : Nat → Int32} {v_m_pile : Nat → Int32} {v_m_row : Nat → Int64} {v_m_wants : Nat → Int32} {v_m_isOff : Nat → Int32} {v_m_wide : Nat → Int32} {v_m_rainNow : Nat → Int32} {v_m_taken : Nat → Int64} {v_m_isDry : Nat → Int32} {v_m_wouldLack : Nat → Int32} {v_m_more : Nat → Int64} {v_m_moreSalt : Nat → Int64} {v_m_isOffTold : Nat → Int32} (y : DY v_m_live v_m_cells v_m_room v_m_passes v_m_passOne v_m_passOther v_m_rivers v_m_riverCell v_m_riverLevel v_m_riverWide v_m_rains v_m_villages v_m_home v_m_lawFrom v_m_lawTo v_m_code v_m_codeInt) (hne : NE v_m_live v_m_villages v_m_need) (G : GL v_m_live v_g_cells v_g_passes v_g_rivers v_g_villages v_g_rains v_g_room v_g_passFrom v_g_passTo v_g_riverCell v_g_riverLevel v_g_riverSalt v_g_villageCell v_g_need v_g_lawEnd v_g_code v_m_cells v_m_room v_m_passes v_m_passOne v_m_passOther v_m_rivers v_m_riverCell v_m_riverLevel v_m_riverSalt v_m_rains v_m_villages v_m_home v_m_need v_m_lawFrom v_m_lawTo v_m_code v_m_codeInt) (a1 : AL v_g_passWidth v_m_passWide (20 * v_m_live.toNatClampNeg) v_g_passes.toInt) (a2 : AL v_g_riverWidth v_m_riverWide (3 * v_m_live.toNatClampNeg) v_g_rivers.toInt) (a3 : AL v_g_rain v_m_rain (14 * v_m_live.toNatClampNeg) v_g_rains.toInt) (gx : GX v_m_live v_m_passes v_m_passWide v_m_rains v_m_rain) (hwa : WA v_m_live v_m_cells v_m_water) (gw : AL v_g_water v_m_water (12 * v_m_live.toNatClampNeg) v_g_cells.toInt) (toe : v_e_told = v_m_told) (jt : rg v_m_told 0 20) (jk : TK v_m_live v_m_cells v_m_toldCell v_m_told) (ja : al v_m_toldDay 0 199) (tl : TL v_e_told v_e_toldDay v_e_toldCell v_e_toldLevel v_m_toldDay v_m_toldCell v_m_toldLevel) : pj (f_X6_off v_g_cells v_g_passes v_g_rivers v_g_villages v_g_rains v_g_room v_g_water v_g_passFrom v_g_passTo v_g_passWidth v_g_riverCell v_g_riverLevel v_g_riverWidth v_g_riverSalt v_g_villageCell v_g_need v_g_lawEnd v_g_code v_g_rain v_e_told v_e_toldDay v_e_toldCell v_e_toldLevel v_ep_pumpTakes v_ep_pumpFrom v_ep_pumpTo v_ep_pumpCell v_ep_wanting v_ep_passWidth v_ep_riverWidth v_ep_rain v_ec_pumped v_ec_today v_ec_lacked v_ec_level v_ec_water v_ec_salt v_ec_stack v_ed_day v_ed_water v_ed_salt v_ed_seen v_ed_took v_ed_dryDays v_ed_firstDry v_ed_total q1) (f_X7_off v_m_live v_m_changedAt v_m_pumpMuch v_m_pumpFrom v_m_pumpTo v_m_told v_m_cells v_m_room v_m_water v_m_passes v_m_passOne v_m_passOther v_m_passWide v_m_rivers v_m_riverCell v_m_riverLevel v_m_riverWide v_m_riverSalt v_m_rains v_m_rain v_m_villages v_m_home v_m_need v_m_lawFrom v_m_lawTo v_m_code v_m_codeInt v_m_toldDay v_m_toldCell v_m_toldLevel v_m_isBroken v_m_rowDay v_m_changed v_m_pumpCell v_m_takenAll v_m_riversAll v_m_variables v_m_pile v_m_row v_m_wants v_m_isOff v_m_wide v_m_rainNow v_m_taken v_m_isDry v_m_wouldLack v_m_more v_m_moreSalt v_m_isOffTold q1) (fun a b => a.1 = b.1) := by
  unfold f_X6_off f_X7_off
  have jt : 0 ≤ v_m_told.toInt ∧ v_m_told.toInt ≤ 20 := jt
  have hk : pa (f_X6_isKnown v_e_told q1) (fun o => (o = 0 ∧ (q1.toInt < 0 ∨ v_m_told.toInt < q1.toInt)) ∨ (o = 1 ∧ 0 ≤ q1.toInt ∧ q1.toInt ≤ v_m_told.toInt)) := by
    unfold f_X6_isKnown
    rw [toe]
    refine pa_if (fun z => pa_some (Or.inl ⟨rfl, Or.inl (lt_k (k := 0) rfl z)⟩)) (fun z => pa_if (fun z2 => pa_some (Or.inl ⟨rfl, Or.inr (ti_lt z2)⟩)) (fun z2 => pa_some (Or.inr ⟨rfl, nlt_k (k := 0) rfl z, ti_nlt z2⟩)))
  have e0 : (0 : Int32).toInt = 0 := rfl
  have e20 : (20 : Int32).toInt = 20 := rfl
  refine pj_bl hk (fun o1 ho1 => pj_br (m_in q1 0 v_m_told) (fun b1 hb1 => ?_))
  rcases ho1 with ⟨e1, n1⟩ | ⟨e1, k0, k1⟩
  · refine pj_ifl (fun _ => pj_ifr (fun _ => pj_ss rfl) (fun k => ?_)) (fun k => absurd e1 k)
    rcases hb1 with ⟨_, c1, c2⟩ | ⟨c1, _⟩
    · omega
    · exact absurd c1 k
  have hb0 : ¬ b1 = 0 := fun k => by
    rcases hb1 with ⟨c1, _⟩ | ⟨_, c1⟩
    · exact absurd (c1.symm.trans k) (by decide)
    · omega
  refine pj_ifl (fun k => absurd (e1.symm.trans k) (by decide)) (fun _ => pj_ifr (fun k => absurd k hb0) (fun _ => ?_))
  have hc12 := y.1.2.1
  rw [G.1] at hc12
  have hc12 : 0 ≤ v_g_cells.toInt ∧ v_g_cells.toInt ≤ 12 := hc12
  have hnC : nC v_m_live v_m_cells = v_g_cells.toInt := by unfold nC; rw [G.1]
  have kn : (q1.toNatClampNeg : Int) = q1.toInt := cl_k k0
  have jt2 : 0 ≤ q1.toInt ∧ q1.toInt ≤ 20 := ⟨k0, by omega⟩
  have hTL : ∀ i : Nat, (i : Int) < q1.toInt → v_e_toldDay i = v_m_toldDay i ∧ v_e_toldCell i = v_m_toldCell i ∧ v_e_toldLevel i = v_m_toldLevel i := fun i hi => tl i (by rw [toe]; omega)
  have hTC : ∀ i : Nat, (i : Int) < q1.toInt → 0 ≤ (v_m_toldCell i).toInt ∧ (v_m_toldCell i).toInt < v_g_cells.toInt := fun i hi => by
    have oi := of_n (c := i) (by omega)
    have k := jk (Int32.ofNat i) (by omega) (by omega)
    rw [oi.2, hnC] at k
    exact k
  have ja0 : ∀ i, 0 ≤ (v_m_toldDay i).toInt := fun i => (ja i).1
  have ja1 : ∀ i, (v_m_toldDay i).toInt ≤ 199 := fun i => (ja i).2
  refine pj_bL (J := (fun a b => a.1 = b.1)) ?_ (fun a b hab => pa_some hab)
  unfold f_X2_firstOff
  refine pj_bl (c_last k0 jt2.2) (fun lo hlo => pj_bl5 c_set (fun p0 p1 p2 p3 p4 hs => pj_bl8 c_beg (fun d0 d1 d2 d3 d4 d5 d6 d7 hb => ?_)))
  refine pj_br10 (pa_and (m_beg y.1.1 G.1 hc12) (pa_ok (t_X7_begins _ _ _ _ _ _ _ _ _ _ _ _ _ _ _ (pm := v_m_pumpMuch) y gx hwa))) (fun r0 r1 r2 r3 r4 r5 r6 r7 r8 r9 hr => ?_)
  obtain ⟨hm, ht⟩ := hr
  obtain ⟨P, p, hD⟩ := BGF (p0 := p0) (p1 := p1) (p2 := p2) (p3 := p3) (p4 := p4) (d0 := d0) (d1 := d1) (d2 := d2) (d3 := d3) (d4 := d4) (d5 := d5) (d6 := d6) (d7 := d7) (r0 := r0) (r1 := r1) (r2 := r2) (r5 := r5) (r6 := r6) (r7 := r7) (r8 := r8) (r9 := r9) (v_m_changedAt := v_m_changedAt) (v_m_pumpMuch := v_m_pumpMuch) (v_m_pumpFrom := v_m_pumpFrom) (v_m_pumpTo := v_m_pumpTo) (v_p_pumpTakes := v_ep_pumpTakes) (v_p_pumpFrom := v_ep_pumpFrom) (v_p_pumpTo := v_ep_pumpTo) y G a1 a2 a3 hwa gw hs hb hm ht
  have hlo2 : lo.toInt = LDY v_m_toldDay q1.toNatClampNeg := hlo.trans (LD_eq _ (fun i hi => (hTL i (by omega)).1))
  have rng := LD_rg ja1 q1.toNatClampNeg
  unfold f_X7_fits
  by_cases q : q1 = 0
  · refine pj_of (P := fun a => a.1 = -2) (Q := fun b => b.1 = -2) (c_first0 fuel _ _ _ _ _ _ _ _ _ _ _ _ _ _ _ _ _ _ _ _ _ _ _ _ q rfl) (pa_r (pj_br14 (P := fun o => o.1 = 1) (pa_r (r_5 fuel _ _ _ _ _ _ _ _ _ _ _ _ _ _ _ _ _ (by decide) (by show (0 : Int) ≤ _; exact k0) jt2.2 (show (-1 : Int32).toInt = -1 by decide) (fun i hi => absurd hi (by show ¬ (i : Int) < 0; omega)) (fun off' x3' _ h3 => ?_))) (fun s0 s1 s2 s3 s4 s5 s6 s7 s8 s9 s10 s11 s12 s13 hs1 => ?_))) (fun a b ha hb => ha.trans hb.symm)
    · refine fun _ o _ eo => r_50e fuel _ _ _ _ _ _ _ _ _ _ _ _ _ _ _ _ _ _ ?_ o eo
      rw [h3, q]
      show (-1 : Int) < 0
      omega
    · have hs1 : s0 = 1 := hs1
      refine pj_ifr (fun k => absurd (hs1.symm.trans k) (by decide)) (fun _ => ?_)
      exact fun _ o _ eo => by cases eo; rfl
  · have q0 : ¬ q1.toInt = 0 := fun k => q (z_of (k := 0) rfl k)
    refine pj_tail (J := fun a b => FO q1 a.1 b.2.2.2.2.2.2.2.2.2.2.2.2.2 ∧ FBO a.1 b.1) (r_5 fuel _ _ _ _ _ _ _ _ _ _ _ _ _ _ _ _ _ (by decide) (by show (0 : Int) ≤ _; exact k0) jt2.2 (show (-1 : Int32).toInt = -1 by decide) (fun i hi => absurd hi (by show ¬ (i : Int) < 0; omega)) (fun off' x3' hz h3 => ?_)) (fun a b hab => ?_)
    · have e7 : lo = x3' := by
        apply Int32.toInt_inj.mp
        rw [hlo2, h3]
        obtain ⟨m, hm⟩ : ∃ m, q1.toNatClampNeg = m + 1 := ⟨q1.toNatClampNeg - 1, by omega⟩
        rw [hm, L7_LD ja0]
      refine l_off (B := 0) (K := q1) (by decide) y hne G jt2 hTL hTC fuel fuel _ _ _ _ _ _ _ _ _ _ _ _ _ _ _ _ _ _ _ _ _ _ _ _ _ _ _ _ _ _ _ _ _ _ _ _ _ _ _ _ (by decide) (by show (0 : Int) ≤ _; omega) (by omega) e7 (by decide) rfl hb.1 (Or.inl ⟨rfl, hz⟩) (Or.inl ⟨rfl, rfl⟩) p P ?_
      rw [show (0 : Int) + (0 : Int32).toInt = 0 from rfl]
      exact hD
    · obtain ⟨fo, fb⟩ := hab
      refine pa_un14 (pa_if (fun k => ?_) (fun k => ?_))
      · rcases fb with ⟨c1, _⟩ | ⟨_, c2⟩
        · exact absurd (c1.symm.trans k) (by decide)
        · rcases fo with ⟨c3, _⟩ | ⟨f0, f1, f2, f3⟩
          · exact absurd c3 c2
          · exact pa_w (r_32 (X := a.1) (by omega) fuel _ _ _ _ _ _ _ _ _ _ _ _ _ _ _ _ _ _ _ _ (by decide) (by show (0 : Int) ≤ _; exact f0) f2 f3) (fun o ho => ho.symm)
      · rcases fb with ⟨_, c2⟩ | ⟨c1, _⟩
        · exact pa_some c2
        · exact absurd c1 k
