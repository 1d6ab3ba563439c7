/-! balance: sums of WATER over all cells; what the reference counts along the way is what the class finds at the end -/
/-- the sum of the first n -/
def S64 (f : Nat → Int64) : Nat → Int64
  | 0 => 0
  | n + 1 => S64 f n + f n
def S32 (f : Nat → Int32) : Nat → Int32
  | 0 => 0
  | n + 1 => S32 f n + f n
theorem S64_eq {f g : Nat → Int64} : ∀ n : Nat, (∀ j, j < n → f j = g j) → S64 f n = S64 g n
  | 0, _ => rfl
  | n + 1, h => by
    show S64 f n + f n = S64 g n + g n
    rw [S64_eq n (fun j hj => h j (by omega)), h n (by omega)]
theorem S64_0 {f : Nat → Int64} : ∀ n : Nat, (∀ j, j < n → f j = 0) → S64 f n = 0
  | 0, _ => rfl
  | n + 1, h => by
    show S64 f n + f n = 0
    rw [S64_0 n (fun j hj => h j (by omega)), h n (by omega)]
    rfl
theorem S64_add {f g h : Nat → Int64} : ∀ n : Nat, (∀ j, j < n → f j = g j + h j) → S64 f n = S64 g n + S64 h n
  | 0, _ => rfl
  | n + 1, k => by
    show S64 f n + f n = (S64 g n + g n) + (S64 h n + h n)
    rw [S64_add n (fun j hj => k j (by omega)), k n (by omega)]
    ac_rfl
/-- one of them grows by u -/
theorem S64_up {f g : Nat → Int64} {k : Nat} {u : Int64} (hk : ∀ j, ¬ j = k → g j = f j) (e : g k = f k + u) : ∀ n : Nat, k < n → S64 g n = S64 f n + u
  | 0, h => absurd h (Nat.not_lt_zero _)
  | n + 1, h => by
    show S64 g n + g n = (S64 f n + f n) + u
    by_cases q : k = n
    · subst q
      rw [S64_eq k (fun j hj => hk j (by omega)), e]
      ac_rfl
    · rw [S64_up hk e n (by omega), hk n (fun z => q z.symm)]
      ac_rfl
theorem S64_32 {f : Nat → Int64} {g : Nat → Int32} : ∀ n : Nat, (∀ j, j < n → (f j).toInt32 = g j) → (S64 f n).toInt32 = S32 g n
  | 0, _ => rfl
  | n + 1, h => by
    show (S64 f n + f n).toInt32 = S32 g n + g n
    rw [Int64.toInt32_add, S64_32 n (fun j hj => h j (by omega)), h n (by omega)]
theorem S32_eq {f g : Nat → Int32} : ∀ n : Nat, (∀ j, j < n → f j = g j) → S32 f n = S32 g n
  | 0, _ => rfl
  | n + 1, h => by
    show S32 f n + f n = S32 g n + g n
    rw [S32_eq n (fun j hj => h j (by omega)), h n (by omega)]
theorem suc64 {x : Int32} (h0 : 0 ≤ x.toInt) (h1 : x.toInt ≤ 1000) : (x + 1).toInt64 = x.toInt64 + 1 := by
  apply Int64.toInt_inj.mp
  have t1 := add_k (x := x) (v := 1) (k := 1) rfl (by omega) (by omega)
  have e1 := Jvm.Kit.i64_of_i32 (x + 1)
  have e2 := Jvm.Kit.i64_of_i32 x
  have e3 : (1 : Int64).toInt = 1 := rfl
  rw [Jvm.Kit.i64_add (by omega) (by omega)]
  omega
theorem cl_suc {x : Int32} (h0 : 0 ≤ x.toInt) (h1 : x.toInt ≤ 1000) : (x + 1).toNatClampNeg = x.toNatClampNeg + 1 := by
  have t1 := add_k (x := x) (v := 1) (k := 1) rfl (by omega) (by omega)
  have e1 : (x.toNatClampNeg : Int) = x.toInt := cl_k h0
  have e2 : ((x + 1).toNatClampNeg : Int) = (x + 1).toInt := cl_k (by omega)
  omega
theorem m_cn64 {live : Int32} {cells : Nat → Int32} : pa (f_X7_n live cells) (fun o => o = cells live.toNatClampNeg) := by
  unfold f_X7_n
  exact pa_ck (fun _ => pa_some rfl)
theorem pj_bbe {α β γ δ : Type} {f : Option α} {g : Option β} {k : α → Option γ} {l : β → Option δ} {J : α → β → Prop} {R : γ → δ → Prop} (h : pj f g J) (q : ∀ a b, g = some b → J a b → pj (k a) (l b) R) : pj (bd f k) (bd g l) R := by
  cases f with
  | none => exact pj_nl
  | some a =>
    cases g with
    | none => exact pj_nr
    | some b => exact q a b rfl (h a b rfl rfl)
theorem md_k {rd ra : Int32} (hd : 0 ≤ rd.toInt) (q : 0 < ra.toInt) : 0 ≤ (rd - rd / ra * ra).toInt ∧ (rd - rd / ra * ra).toInt < ra.toInt := by
  have r := rem_toInt rd ra
  have r1 := Int.tmod_nonneg ra.toInt hd
  have r2 := Int.tmod_lt_of_pos rd.toInt q
  omega
theorem canc {a b c : Int64} (h : a + c = b + c) : a = b := by
  have k := congrArg (fun t => t + -c) h
  have k : a + c + -c = b + c + -c := k
  rw [Int64.add_assoc, Int64.add_assoc, Int64.add_right_neg, Int64.add_zero, Int64.add_zero] at k
  exact k
set_option maxHeartbeats 4000000 in
theorem b_42 {ce T : Int32} {A : Int64} {v_m_live : Int32} {v_m_rowDay : Int32} {v_m_cells : Nat → Int32} {v_m_rains : Nat → Int32} {v_m_rainNow : Nat → Int32} (hm : v_m_cells v_m_live.toNatClampNeg = ce) (hc : 0 ≤ ce.toInt ∧ ce.toInt ≤ 12) (hT : pa (f_X7_rainOf v_m_live v_m_rains v_m_rainNow v_m_rowDay) (fun o => o = T)) : ∀ (n : Nat) (v_m_row : Nat → Int64) (x1 : Int32), 0 ≤ x1.toInt → x1.toInt ≤ ce.toInt → S64 v_m_row ce.toNatClampNeg = A + x1.toInt64 * T.toInt64 → pa (f_X7_sees_b42 v_m_live v_m_rowDay v_m_cells v_m_rains v_m_rainNow n v_m_row x1) (fun o => S64 o ce.toNatClampNeg = A + ce.toInt64 * T.toInt64) := by
  intro n
  induction n with
  | zero => intro v_m_row x1 _ _ _; exact pa_none
  | succ n ih =>
    intro v_m_row x1 h0 h1 hS
    show pa (f_X7_sees_b42_st (f_X7_sees_b42 v_m_live v_m_rowDay v_m_cells v_m_rains v_m_rainNow n) v_m_live v_m_rowDay v_m_cells v_m_rains v_m_rainNow v_m_row x1) _
    unfold f_X7_sees_b42_st
    refine pa_bd m_cn64 (fun o1 ho => ?_)
    rw [hm] at ho
    rw [ho]
    refine pa_if (fun z => pa_some ?_) (fun z => ?_)
    · have g := ti_le z
      have e : x1 = ce := Int32.toInt_inj.mp (by omega)
      rw [← e]
      rw [← e] at hS
      exact hS
    · have g := ti_nle z
      have t1 := add_k (x := x1) (v := 1) (k := 1) rfl (by omega) (by omega)
      have ex : (x1.toNatClampNeg : Int) = x1.toInt := cl_k h0
      have ec : (ce.toNatClampNeg : Int) = ce.toInt := cl_k hc.1
      refine pa_ck (fun _ => pa_bd hT (fun o4 ho4 => pa_ck (fun _ => pa_nm (fun a6 e6 => ih _ _ (by omega) (by omega) ?_))))
      rw [S64_up (f := v_m_row) (g := a6) (k := x1.toNatClampNeg) (u := T.toInt64) (fun j hj => by rw [e6, upL_ne hj]) (by rw [e6, upL_at, ho4]) _ (by omega), hS, suc64 h0 (by omega), Int64.add_mul, Int64.one_mul]
      ac_rfl
set_option maxHeartbeats 4000000 in
theorem b_12 {ce T : Int32} {A : Int64} {v_m_live : Int32} {v_m_rowDay : Int32} {v_m_cells : Nat → Int32} {v_m_room : Nat → Int32} {v_m_rains : Nat → Int32} {v_m_rainNow : Nat → Int32} (hm : v_m_cells v_m_live.toNatClampNeg = ce) (hc : 0 ≤ ce.toInt ∧ ce.toInt ≤ 12) (hT : pa (f_X7_rainOf v_m_live v_m_rains v_m_rainNow v_m_rowDay) (fun o => o = T)) : ∀ (n : Nat) (v_m_row : Nat → Int64) (x1 : Int32), 0 ≤ x1.toInt → x1.toInt ≤ ce.toInt → S64 v_m_row ce.toNatClampNeg = A → pa (f_X7_sees_b12 v_m_live v_m_rowDay v_m_cells v_m_room v_m_rains v_m_rainNow n v_m_row x1) (fun o => S64 o ce.toNatClampNeg = A + ce.toInt64 * T.toInt64) := by
  intro n
  induction n with
  | zero => intro v_m_row x1 _ _ _; exact pa_none
  | succ n ih =>
    intro v_m_row x1 h0 h1 hS
    show pa (f_X7_sees_b12_st (f_X7_sees_b12 v_m_live v_m_rowDay v_m_cells v_m_room v_m_rains v_m_rainNow n) v_m_live v_m_rowDay v_m_cells v_m_room v_m_rains v_m_rainNow v_m_row x1) _
    unfold f_X7_sees_b12_st
    refine pa_bd m_cn64 (fun o1 ho => ?_)
    rw [hm] at ho
    rw [ho]
    refine pa_if (fun z => ?_) (fun z => ?_)
    · refine b_42 hm hc hT fuel _ _ (by decide) (by show (0 : Int) ≤ _; exact hc.1) ?_
      rw [hS, show (0 : Int32).toInt64 = 0 from rfl, Int64.zero_mul, Int64.add_zero]
    · have g := ti_nle z
      have t1 := add_k (x := x1) (v := 1) (k := 1) rfl (by omega) (by omega)
      have ec : (ce.toNatClampNeg : Int) = ce.toInt := cl_k hc.1
      have e24 : ((24 : Int32) + x1).toNatClampNeg = 24 + x1.toNatClampNeg := cl_K (k := 24) rfl (by decide) h0 (by omega)
      refine pa_bd pa_tr (fun o3 _ => pa_ck (fun _ => pa_nm (fun a5 e5 => ih _ _ (by omega) (by omega) ?_)))
      rw [S64_eq (f := a5) (g := v_m_row) _ (fun j hj => by rw [e5, upL_ne (by omega)]), hS]
theorem b_sees {ce T : Int32} {v_m_live : Int32} {v_m_rowDay : Int32} {v_m_cells : Nat → Int32} {v_m_room : Nat → Int32} {v_m_rains : Nat → Int32} {v_m_rainNow : Nat → Int32} {v_m_row : Nat → Int64} (hm : v_m_cells v_m_live.toNatClampNeg = ce) (hc : 0 ≤ ce.toInt ∧ ce.toInt ≤ 12) (hT : pa (f_X7_rainOf v_m_live v_m_rains v_m_rainNow v_m_rowDay) (fun o => o = T)) : pa (f_X7_sees v_m_live v_m_rowDay v_m_cells v_m_room v_m_rains v_m_rainNow v_m_row) (fun o => S64 o ce.toNatClampNeg = S64 v_m_row ce.toNatClampNeg + ce.toInt64 * T.toInt64) := by
  unfold f_X7_sees
  refine pa_if (fun _ => b_12 hm hc hT fuel _ _ (by decide) (by show (0 : Int) ≤ _; exact hc.1) rfl) (fun _ => b_42 hm hc hT fuel _ _ (by decide) (by show (0 : Int) ≤ _; exact hc.1) ?_)
  rw [show (0 : Int32).toInt64 = 0 from rfl, Int64.zero_mul, Int64.add_zero]
set_option maxHeartbeats 4000000 in
theorem b_166 {P : Int32 × Int64 × (Nat → Int32) × (Nat → Int32) × (Nat → Int64) × (Nat → Int64) × (Nat → Int32) × (Nat → Int32) → Prop} {k2 : Int32 → Int64 → (Nat → Int32) → (Nat → Int32) → (Nat → Int64) → (Nat → Int64) → (Nat → Int32) → (Nat → Int32) → Int32 → Option (Int32 × Int64 × (Nat → Int32) × (Nat → Int32) × (Nat → Int64) × (Nat → Int64) × (Nat → Int32) × (Nat → Int32))} {v_m_live : Int32} {v_m_rowDay : Int32} {v_m_changed : Int32} {v_m_changedAt : Int32} {v_m_pumpCell : Int32} {v_m_pumpMuch : Int32} {v_m_pumpFrom : Int32} {v_m_pumpTo : Int32} {v_m_rains : Nat → Int32} {v_m_villages : Nat → Int32} {v_m_home : Nat → Int32} {v_m_need : Nat → Int32} {v_m_lawFrom : Nat → Int32} {v_m_lawTo : Nat → Int32} {v_m_code : Nat → Int32} {v_m_codeInt : Nat → Int32} {v_m_wants : Nat → Int32} {v_m_isOff : Nat → Int32} {v_m_rainNow : Nat → Int32} {v_m_isBroken : Int32} {v_m_takenAll : Int64} {v_m_variables : Nat → Int32} {v_m_pile : Nat → Int32} {v_m_row : Nat → Int64} {v_m_taken : Nat → Int64} {v_m_isDry : Nat → Int32} {v_m_wouldLack : Nat → Int32} {x1 : Int32} {x4 : Int64} {t1 : Int32} {t2 : Int32} (hx : 0 ≤ x1.toInt ∧ x1.toInt ≤ 5) (hk : ∀ (row' : Nat → Int64) (di' : Nat → Int32), (∀ j, j < 12 → row' j = v_m_row j) → pa (k2 v_m_isBroken v_m_takenAll v_m_variables v_m_pile row' v_m_taken di' v_m_wouldLack (x1 + (1 : Int32))) P) : pa (f_X7_takes_b166 k2 v_m_live v_m_rowDay v_m_changed v_m_changedAt v_m_pumpCell v_m_pumpMuch v_m_pumpFrom v_m_pumpTo v_m_rains v_m_villages v_m_home v_m_need v_m_lawFrom v_m_lawTo v_m_code v_m_codeInt v_m_wants v_m_isOff v_m_rainNow v_m_isBroken v_m_takenAll v_m_variables v_m_pile v_m_row v_m_taken v_m_isDry v_m_wouldLack x1 x4 t1 t2) P := by
  have ex : (x1.toNatClampNeg : Int) = x1.toInt := cl_k hx.1
  have e36 : ((36 : Int32) + x1).toNatClampNeg = 36 + x1.toNatClampNeg := cl_K (k := 36) rfl (by decide) hx.1 (by omega)
  have e42 : ((42 : Int32) + x1).toNatClampNeg = 42 + x1.toNatClampNeg := cl_K (k := 42) rfl (by decide) hx.1 (by omega)
  have e48 : ((48 : Int32) + x1).toNatClampNeg = 48 + x1.toNatClampNeg := cl_K (k := 48) rfl (by decide) hx.1 (by omega)
  have e54 : ((54 : Int32) + x1).toNatClampNeg = 54 + x1.toNatClampNeg := cl_K (k := 54) rfl (by decide) hx.1 (by omega)
  unfold f_X7_takes_b166
  refine pa_ck (fun _ => pa_nm (fun a2 _ => pa_ck (fun _ => pa_nm (fun a4 e4 => pa_ck (fun _ => pa_ck (fun _ => pa_nm (fun a7 e7 => ?_)))))))
  have h7 : ∀ j, j < 12 → a7 j = v_m_row j := fun j hj => by rw [e7, upL_ne (by omega), e4, upL_ne (by omega)]
  refine pa_ck (fun _ => pa_if (fun _ => hk _ _ h7) (fun _ => pa_ck (fun _ => pa_ck (fun _ => pa_nm (fun a12 e12 => ?_)))))
  have h12 : ∀ j, j < 12 → a12 j = v_m_row j := fun j hj => by rw [e12, upL_ne (by omega)]; exact h7 j hj
  refine pa_ck (fun _ => pa_if (fun _ => pa_ck (fun _ => pa_nm (fun a16 e16 => hk _ _ (fun j hj => by rw [e16, upL_ne (by omega)]; exact h12 j hj)))) (fun _ => hk _ _ h12))
set_option maxHeartbeats 4000000 in
theorem b_114 {P : Int32 × Int64 × (Nat → Int32) × (Nat → Int32) × (Nat → Int64) × (Nat → Int64) × (Nat → Int32) × (Nat → Int32) → Prop} {C : Nat} {k2 : Int32 → Int64 → (Nat → Int32) → (Nat → Int32) → (Nat → Int64) → (Nat → Int64) → (Nat → Int32) → (Nat → Int32) → Int32 → Option (Int32 × Int64 × (Nat → Int32) × (Nat → Int32) × (Nat → Int64) × (Nat → Int64) × (Nat → Int32) × (Nat → Int32))} {v_m_live : Int32} {v_m_rowDay : Int32} {v_m_changed : Int32} {v_m_changedAt : Int32} {v_m_pumpCell : Int32} {v_m_pumpMuch : Int32} {v_m_pumpFrom : Int32} {v_m_pumpTo : Int32} {v_m_rains : Nat → Int32} {v_m_villages : Nat → Int32} {v_m_home : Nat → Int32} {v_m_need : Nat → Int32} {v_m_lawFrom : Nat → Int32} {v_m_lawTo : Nat → Int32} {v_m_code : Nat → Int32} {v_m_codeInt : Nat → Int32} {v_m_wants : Nat → Int32} {v_m_isOff : Nat → Int32} {v_m_rainNow : Nat → Int32} {v_m_isBroken : Int32} {v_m_takenAll : Int64} {v_m_variables : Nat → Int32} {v_m_pile : Nat → Int32} {v_m_row : Nat → Int64} {v_m_taken : Nat → Int64} {v_m_isDry : Nat → Int32} {v_m_wouldLack : Nat → Int32} {x1 : Int32} {x2 : Int32} {x3 : Int32} {x4 : Int64} (hx : 0 ≤ x1.toInt ∧ x1.toInt ≤ 5) (hC : C ≤ 12) (h2 : 0 ≤ x2.toInt ∧ x2.toInt < (C : Int)) (hk : ∀ (u : Int64) (ib : Int32) (va pi : Nat → Int32) (row' tk' : Nat → Int64) (di' wl' : Nat → Int32), S64 row' C + u = S64 v_m_row C → tk' = vp_updL v_m_taken x1.toNatClampNeg u → pa (k2 ib (v_m_takenAll + u) va pi row' tk' di' wl' (x1 + (1 : Int32))) P) : pa (f_X7_takes_b114 k2 v_m_live v_m_rowDay v_m_changed v_m_changedAt v_m_pumpCell v_m_pumpMuch v_m_pumpFrom v_m_pumpTo v_m_rains v_m_villages v_m_home v_m_need v_m_lawFrom v_m_lawTo v_m_code v_m_codeInt v_m_wants v_m_isOff v_m_rainNow v_m_isBroken v_m_takenAll v_m_variables v_m_pile v_m_row v_m_taken v_m_isDry v_m_wouldLack x1 x2 x3 x4) P := by
  have ec : (x2.toNatClampNeg : Int) = x2.toInt := cl_k h2.1
  unfold f_X7_takes_b114
  refine pa_bd (m_takesOut ⟨h2.1, by omega⟩) (fun o1 ho1 => pa_ck (fun _ => pa_nm (fun a3 e3 => ?_)))
  obtain ⟨r1, r2, _⟩ := ho1
  have hS : ∀ r' : Nat → Int64, (∀ j, j < 12 → r' j = o1 j) → S64 r' C + x4 = S64 v_m_row C := fun r' hr' => by
    rw [S64_eq (f := r') (g := fun j => if j < 12 then o1 j else v_m_row j) C (fun j hj => by rw [if_pos (by omega)]; exact hr' j (by omega))]
    refine (S64_up (f := fun j => if j < 12 then o1 j else v_m_row j) (g := v_m_row) (k := x2.toNatClampNeg) (u := x4) (fun j hj => ?_) ?_ C (by omega)).symm
    · by_cases q : j < 12
      · rw [if_pos q, r1 j hj (by omega)]
      · rw [if_neg q]
    · rw [if_pos (by omega), r2, Int64.sub_add_cancel]
  have k : ∀ t2 : Int32, pa (f_X7_takes_b166 k2 v_m_live v_m_rowDay v_m_changed v_m_changedAt v_m_pumpCell v_m_pumpMuch v_m_pumpFrom v_m_pumpTo v_m_rains v_m_villages v_m_home v_m_need v_m_lawFrom v_m_lawTo v_m_code v_m_codeInt v_m_wants v_m_isOff v_m_rainNow v_m_isBroken (v_m_takenAll + x4) v_m_variables v_m_pile o1 a3 v_m_isDry v_m_wouldLack x1 x4 x1 t2) P := fun t2 => b_166 hx (fun row' di' hr => hk x4 _ _ _ row' a3 di' _ (hS row' hr) e3)
  exact pa_if (fun _ => pa_bd pa_tr (fun o5 _ => pa_if (fun _ => k 0) (fun _ => k 1))) (fun _ => k 0)
set_option maxHeartbeats 4000000 in
theorem b_92 {P : Int32 × Int64 × (Nat → Int32) × (Nat → Int32) × (Nat → Int64) × (Nat → Int64) × (Nat → Int32) × (Nat → Int32) → Prop} {C : Nat} {k2 : Int32 → Int64 → (Nat → Int32) → (Nat → Int32) → (Nat → Int64) → (Nat → Int64) → (Nat → Int32) → (Nat → Int32) → Int32 → Option (Int32 × Int64 × (Nat → Int32) × (Nat → Int32) × (Nat → Int64) × (Nat → Int64) × (Nat → Int32) × (Nat → Int32))} {v_m_live : Int32} {v_m_rowDay : Int32} {v_m_changed : Int32} {v_m_changedAt : Int32} {v_m_pumpCell : Int32} {v_m_pumpMuch : Int32} {v_m_pumpFrom : Int32} {v_m_pumpTo : Int32} {v_m_rains : Nat → Int32} {v_m_villages : Nat → Int32} {v_m_home : Nat → Int32} {v_m_need : Nat → Int32} {v_m_lawFrom : Nat → Int32} {v_m_lawTo : Nat → Int32} {v_m_code : Nat → Int32} {v_m_codeInt : Nat → Int32} {v_m_wants : Nat → Int32} {v_m_isOff : Nat → Int32} {v_m_rainNow : Nat → Int32} {v_m_isBroken : Int32} {v_m_takenAll : Int64} {v_m_variables : Nat → Int32} {v_m_pile : Nat → Int32} {v_m_row : Nat → Int64} {v_m_taken : Nat → Int64} {v_m_isDry : Nat → Int32} {v_m_wouldLack : Nat → Int32} {x1 : Int32} {x2 : Int32} {x3 : Int32} {t0 : Int64} (hx : 0 ≤ x1.toInt ∧ x1.toInt ≤ 5) (hC : C ≤ 12) (h2 : 0 ≤ x2.toInt ∧ x2.toInt < (C : Int)) (hk : ∀ (u : Int64) (ib : Int32) (va pi : Nat → Int32) (row' tk' : Nat → Int64) (di' wl' : Nat → Int32), S64 row' C + u = S64 v_m_row C → tk' = vp_updL v_m_taken x1.toNatClampNeg u → pa (k2 ib (v_m_takenAll + u) va pi row' tk' di' wl' (x1 + (1 : Int32))) P) : pa (f_X7_takes_b92 k2 v_m_live v_m_rowDay v_m_changed v_m_changedAt v_m_pumpCell v_m_pumpMuch v_m_pumpFrom v_m_pumpTo v_m_rains v_m_villages v_m_home v_m_need v_m_lawFrom v_m_lawTo v_m_code v_m_codeInt v_m_wants v_m_isOff v_m_rainNow v_m_isBroken v_m_takenAll v_m_variables v_m_pile v_m_row v_m_taken v_m_isDry v_m_wouldLack x1 x2 x3 t0) P := by
  unfold f_X7_takes_b92
  exact pa_ck (fun _ => pa_if (fun _ => b_114 hx hC h2 hk) (fun _ => pa_ck (fun _ => b_114 hx hC h2 hk)))
set_option maxHeartbeats 4000000 in
theorem b_77 {P : Int32 × Int64 × (Nat → Int32) × (Nat → Int32) × (Nat → Int64) × (Nat → Int64) × (Nat → Int32) × (Nat → Int32) → Prop} {C : Nat} {k2 : Int32 → Int64 → (Nat → Int32) → (Nat → Int32) → (Nat → Int64) → (Nat → Int64) → (Nat → Int32) → (Nat → Int32) → Int32 → Option (Int32 × Int64 × (Nat → Int32) × (Nat → Int32) × (Nat → Int64) × (Nat → Int64) × (Nat → Int32) × (Nat → Int32))} {v_m_live : Int32} {v_m_rowDay : Int32} {v_m_changed : Int32} {v_m_changedAt : Int32} {v_m_pumpCell : Int32} {v_m_pumpMuch : Int32} {v_m_pumpFrom : Int32} {v_m_pumpTo : Int32} {v_m_rains : Nat → Int32} {v_m_villages : Nat → Int32} {v_m_home : Nat → Int32} {v_m_need : Nat → Int32} {v_m_lawFrom : Nat → Int32} {v_m_lawTo : Nat → Int32} {v_m_code : Nat → Int32} {v_m_codeInt : Nat → Int32} {v_m_wants : Nat → Int32} {v_m_isOff : Nat → Int32} {v_m_rainNow : Nat → Int32} {v_m_isBroken : Int32} {v_m_takenAll : Int64} {v_m_variables : Nat → Int32} {v_m_pile : Nat → Int32} {v_m_row : Nat → Int64} {v_m_taken : Nat → Int64} {v_m_isDry : Nat → Int32} {v_m_wouldLack : Nat → Int32} {x1 : Int32} {x2 : Int32} {t0 : Int32} (hx : 0 ≤ x1.toInt ∧ x1.toInt ≤ 5) (hC : C ≤ 12) (h2 : 0 ≤ x2.toInt ∧ x2.toInt < (C : Int)) (hk : ∀ (u : Int64) (ib : Int32) (va pi : Nat → Int32) (row' tk' : Nat → Int64) (di' wl' : Nat → Int32), S64 row' C + u = S64 v_m_row C → tk' = vp_updL v_m_taken x1.toNatClampNeg u → pa (k2 ib (v_m_takenAll + u) va pi row' tk' di' wl' (x1 + (1 : Int32))) P) : pa (f_X7_takes_b77 k2 v_m_live v_m_rowDay v_m_changed v_m_changedAt v_m_pumpCell v_m_pumpMuch v_m_pumpFrom v_m_pumpTo v_m_rains v_m_villages v_m_home v_m_need v_m_lawFrom v_m_lawTo v_m_code v_m_codeInt v_m_wants v_m_isOff v_m_rainNow v_m_isBroken v_m_takenAll v_m_variables v_m_pile v_m_row v_m_taken v_m_isDry v_m_wouldLack x1 x2 t0) P := by
  unfold f_X7_takes_b77
  exact pa_if (fun _ => pa_bd4 pa_tr (fun _ _ _ _ _ => b_92 hx hC h2 hk)) (fun _ => b_92 hx hC h2 hk)
set_option maxHeartbeats 4000000 in
theorem b_47 {P : Int32 × Int64 × (Nat → Int32) × (Nat → Int32) × (Nat → Int64) × (Nat → Int64) × (Nat → Int32) × (Nat → Int32) → Prop} {C : Nat} {k2 : Int32 → Int64 → (Nat → Int32) → (Nat → Int32) → (Nat → Int64) → (Nat → Int64) → (Nat → Int32) → (Nat → Int32) → Int32 → Option (Int32 × Int64 × (Nat → Int32) × (Nat → Int32) × (Nat → Int64) × (Nat → Int64) × (Nat → Int32) × (Nat → Int32))} {v_m_live : Int32} {v_m_rowDay : Int32} {v_m_changed : Int32} {v_m_changedAt : Int32} {v_m_pumpCell : Int32} {v_m_pumpMuch : Int32} {v_m_pumpFrom : Int32} {v_m_pumpTo : Int32} {v_m_rains : Nat → Int32} {v_m_villages : Nat → Int32} {v_m_home : Nat → Int32} {v_m_need : Nat → Int32} {v_m_lawFrom : Nat → Int32} {v_m_lawTo : Nat → Int32} {v_m_code : Nat → Int32} {v_m_codeInt : Nat → Int32} {v_m_wants : Nat → Int32} {v_m_isOff : Nat → Int32} {v_m_rainNow : Nat → Int32} {v_m_isBroken : Int32} {v_m_takenAll : Int64} {v_m_variables : Nat → Int32} {v_m_pile : Nat → Int32} {v_m_row : Nat → Int64} {v_m_taken : Nat → Int64} {v_m_isDry : Nat → Int32} {v_m_wouldLack : Nat → Int32} {x1 : Int32} {x2 : Int32} {t1 : Int32} {t2 : Int32} (hx : 0 ≤ x1.toInt ∧ x1.toInt ≤ 5) (hC : C ≤ 12) (h2 : 0 ≤ x2.toInt ∧ x2.toInt < (C : Int)) (hk : ∀ (u : Int64) (ib : Int32) (va pi : Nat → Int32) (row' tk' : Nat → Int64) (di' wl' : Nat → Int32), S64 row' C + u = S64 v_m_row C → tk' = vp_updL v_m_taken x1.toNatClampNeg u → pa (k2 ib (v_m_takenAll + u) va pi row' tk' di' wl' (x1 + (1 : Int32))) P) : pa (f_X7_takes_b47 k2 v_m_live v_m_rowDay v_m_changed v_m_changedAt v_m_pumpCell v_m_pumpMuch v_m_pumpFrom v_m_pumpTo v_m_rains v_m_villages v_m_home v_m_need v_m_lawFrom v_m_lawTo v_m_code v_m_codeInt v_m_wants v_m_isOff v_m_rainNow v_m_isBroken v_m_takenAll v_m_variables v_m_pile v_m_row v_m_taken v_m_isDry v_m_wouldLack x1 x2 t1 t2) P := by
  unfold f_X7_takes_b47
  exact pa_ck (fun _ => pa_nm (fun a2 _ => pa_ck (fun _ => pa_if (fun _ => pa_if (fun _ => pa_if (fun _ => b_77 hx hC h2 hk) (fun _ => b_77 hx hC h2 hk)) (fun _ => b_77 hx hC h2 hk)) (fun _ => b_77 hx hC h2 hk))))
set_option maxHeartbeats 4000000 in
theorem b_tk2 {C : Nat} {vi : Int32} {A t0 : Int64} {v_m_live : Int32} {v_m_rowDay : Int32} {v_m_changed : Int32} {v_m_changedAt : Int32} {v_m_pumpCell : Int32} {v_m_pumpMuch : Int32} {v_m_pumpFrom : Int32} {v_m_pumpTo : Int32} {v_m_rains : Nat → Int32} {v_m_villages : Nat → Int32} {v_m_home : Nat → Int32} {v_m_need : Nat → Int32} {v_m_lawFrom : Nat → Int32} {v_m_lawTo : Nat → Int32} {v_m_code : Nat → Int32} {v_m_codeInt : Nat → Int32} {v_m_wants : Nat → Int32} {v_m_isOff : Nat → Int32} {v_m_rainNow : Nat → Int32} (hvi : v_m_villages v_m_live.toNatClampNeg = vi) (hv6 : 0 ≤ vi.toInt ∧ vi.toInt ≤ 6) (hl : 0 ≤ v_m_live.toInt ∧ v_m_live.toInt ≤ 1) (hC : C ≤ 12) (hpc : v_m_pumpCell.toInt < 0) (hh : ∀ x : Int32, 0 ≤ x.toInt → x.toInt < vi.toInt → 0 ≤ (v_m_home (6 * v_m_live.toNatClampNeg + x.toNatClampNeg)).toInt ∧ (v_m_home (6 * v_m_live.toNatClampNeg + x.toNatClampNeg)).toInt < (C : Int)) : ∀ (n : Nat) (v_m_isBroken : Int32) (v_m_takenAll : Int64) (v_m_variables : Nat → Int32) (v_m_pile : Nat → Int32) (v_m_row : Nat → Int64) (v_m_taken : Nat → Int64) (v_m_isDry : Nat → Int32) (v_m_wouldLack : Nat → Int32) (x1 : Int32), 0 ≤ x1.toInt → x1.toInt ≤ vi.toInt → S64 v_m_row C + S64 v_m_taken x1.toNatClampNeg = A → v_m_takenAll = t0 + S64 v_m_taken x1.toNatClampNeg → pa (f_X7_takes_b2 v_m_live v_m_rowDay v_m_changed v_m_changedAt v_m_pumpCell v_m_pumpMuch v_m_pumpFrom v_m_pumpTo v_m_rains v_m_villages v_m_home v_m_need v_m_lawFrom v_m_lawTo v_m_code v_m_codeInt v_m_wants v_m_isOff v_m_rainNow n v_m_isBroken v_m_takenAll v_m_variables v_m_pile v_m_row v_m_taken v_m_isDry v_m_wouldLack x1) (fun o => S64 o.2.2.2.2.1 C + S64 o.2.2.2.2.2.1 vi.toNatClampNeg = A ∧ o.2.1 = t0 + S64 o.2.2.2.2.2.1 vi.toNatClampNeg) := by
  intro n
  induction n with
  | zero => intro v_m_isBroken v_m_takenAll v_m_variables v_m_pile v_m_row v_m_taken v_m_isDry v_m_wouldLack x1 _ _ _ _; exact pa_none
  | succ n ih =>
    intro v_m_isBroken v_m_takenAll v_m_variables v_m_pile v_m_row v_m_taken v_m_isDry v_m_wouldLack x1 h0 h1 hS hT
    show pa (f_X7_takes_b2_st (f_X7_takes_b2 v_m_live v_m_rowDay v_m_changed v_m_changedAt v_m_pumpCell v_m_pumpMuch v_m_pumpFrom v_m_pumpTo v_m_rains v_m_villages v_m_home v_m_need v_m_lawFrom v_m_lawTo v_m_code v_m_codeInt v_m_wants v_m_isOff v_m_rainNow n) v_m_live v_m_rowDay v_m_changed v_m_changedAt v_m_pumpCell v_m_pumpMuch v_m_pumpFrom v_m_pumpTo v_m_rains v_m_villages v_m_home v_m_need v_m_lawFrom v_m_lawTo v_m_code v_m_codeInt v_m_wants v_m_isOff v_m_rainNow v_m_isBroken v_m_takenAll v_m_variables v_m_pile v_m_row v_m_taken v_m_isDry v_m_wouldLack x1) _
    unfold f_X7_takes_b2_st
    refine pa_ck (fun _ => ?_)
    rw [hvi]
    refine pa_if (fun z => ?_) (fun z => ?_)
    · have g := ti_le z
      have e : x1 = vi := Int32.toInt_inj.mp (by omega)
      rw [e] at hS hT
      refine pa_if (fun _ => pa_some ⟨hS, hT⟩) (fun k => ?_)
      have := nlt_k (k := 0) rfl k
      omega
    · have g := ti_nle z
      have t1 := add_k (x := x1) (v := 1) (k := 1) rfl (by omega) (by omega)
      refine pa_bd (m_homeOf hl h0 (by omega)) (fun o9 ho9 => pa_ck (fun _ => pa_bd pa_tr (fun o11 _ => ?_)))
      have h2 : 0 ≤ o9.toInt ∧ o9.toInt < (C : Int) := by
        rw [ho9]
        exact hh x1 h0 g
      have stp : ∀ (u : Int64) (ib : Int32) (va pi : Nat → Int32) (row' tk' : Nat → Int64) (di' wl' : Nat → Int32), S64 row' C + u = S64 v_m_row C → tk' = vp_updL v_m_taken x1.toNatClampNeg u → pa (f_X7_takes_b2 v_m_live v_m_rowDay v_m_changed v_m_changedAt v_m_pumpCell v_m_pumpMuch v_m_pumpFrom v_m_pumpTo v_m_rains v_m_villages v_m_home v_m_need v_m_lawFrom v_m_lawTo v_m_code v_m_codeInt v_m_wants v_m_isOff v_m_rainNow n ib (v_m_takenAll + u) va pi row' tk' di' wl' (x1 + (1 : Int32))) (fun o => S64 o.2.2.2.2.1 C + S64 o.2.2.2.2.2.1 vi.toNatClampNeg = A ∧ o.2.1 = t0 + S64 o.2.2.2.2.2.1 vi.toNatClampNeg) := by
        intro u ib va pi row' tk' di' wl' e1 e2
        have e3 : S64 tk' (x1 + 1).toNatClampNeg = S64 v_m_taken x1.toNatClampNeg + u := by
          rw [cl_suc h0 (by omega)]
          show S64 tk' x1.toNatClampNeg + tk' x1.toNatClampNeg = _
          rw [e2, upL_at, S64_eq (g := v_m_taken) _ (fun j hj => upL_ne (by omega))]
        refine ih _ _ _ _ _ _ _ _ _ (by omega) (by omega) ?_ ?_
        · rw [e3, ← hS, ← e1]
          ac_rfl
        · rw [e3, hT]
          ac_rfl
      exact pa_if (fun _ => b_47 ⟨h0, by omega⟩ hC h2 stp) (fun _ => b_47 ⟨h0, by omega⟩ hC h2 stp)
theorem b_takes {C : Nat} {vi : Int32} {v_m_live : Int32} {v_m_rowDay : Int32} {v_m_changed : Int32} {v_m_changedAt : Int32} {v_m_pumpCell : Int32} {v_m_pumpMuch : Int32} {v_m_pumpFrom : Int32} {v_m_pumpTo : Int32} {v_m_rains : Nat → Int32} {v_m_villages : Nat → Int32} {v_m_home : Nat → Int32} {v_m_need : Nat → Int32} {v_m_lawFrom : Nat → Int32} {v_m_lawTo : Nat → Int32} {v_m_code : Nat → Int32} {v_m_codeInt : Nat → Int32} {v_m_wants : Nat → Int32} {v_m_isOff : Nat → Int32} {v_m_rainNow : Nat → Int32} {v_m_isBroken : Int32} {v_m_takenAll : Int64} {v_m_variables : Nat → Int32} {v_m_pile : Nat → Int32} {v_m_row : Nat → Int64} {v_m_taken : Nat → Int64} {v_m_isDry : Nat → Int32} {v_m_wouldLack : Nat → Int32} (hvi : v_m_villages v_m_live.toNatClampNeg = vi) (hv6 : 0 ≤ vi.toInt ∧ vi.toInt ≤ 6) (hl : 0 ≤ v_m_live.toInt ∧ v_m_live.toInt ≤ 1) (hC : C ≤ 12) (hpc : v_m_pumpCell.toInt < 0) (hh : ∀ x : Int32, 0 ≤ x.toInt → x.toInt < vi.toInt → 0 ≤ (v_m_home (6 * v_m_live.toNatClampNeg + x.toNatClampNeg)).toInt ∧ (v_m_home (6 * v_m_live.toNatClampNeg + x.toNatClampNeg)).toInt < (C : Int)) : pa (f_X7_takes v_m_live v_m_rowDay v_m_changed v_m_changedAt v_m_pumpCell v_m_pumpMuch v_m_pumpFrom v_m_pumpTo v_m_rains v_m_villages v_m_home v_m_need v_m_lawFrom v_m_lawTo v_m_code v_m_codeInt v_m_wants v_m_isOff v_m_rainNow v_m_isBroken v_m_takenAll v_m_variables v_m_pile v_m_row v_m_taken v_m_isDry v_m_wouldLack) (fun o => S64 o.2.2.2.2.1 C + S64 o.2.2.2.2.2.1 vi.toNatClampNeg = S64 v_m_row C ∧ o.2.1 = v_m_takenAll + S64 o.2.2.2.2.2.1 vi.toNatClampNeg) := by
  unfold f_X7_takes
  exact b_tk2 hvi hv6 hl hC hpc hh fuel _ _ _ _ _ _ _ _ _ (by decide) (by show (0 : Int) ≤ _; exact hv6.1) (Int64.add_zero _) (Int64.add_zero _).symm
theorem b_leaves {v_m_row : Nat → Int64} {v_m_more : Nat → Int64} {v_m_moreSalt : Nat → Int64} {q1 : Int32} {q2 : Int64} : pa (f_X7_leaves v_m_row v_m_more v_m_moreSalt q1 q2) (fun o => (∀ j, ¬ j = q1.toNatClampNeg → o.2.1 j = v_m_more j) ∧ v_m_more q1.toNatClampNeg = o.2.1 q1.toNatClampNeg + q2) := by
  unfold f_X7_leaves
  refine pa_if (fun z => pa_some ⟨fun _ _ => rfl, ?_⟩) (fun _ => pa_ck (fun _ => pa_ck (fun _ => pa_ck (fun _ => pa_nm (fun e5 _ => pa_ck (fun _ => pa_ck (fun _ => pa_nm (fun a8 e8 => pa_ck (fun _ => pa_ck (fun _ => pa_nm (fun a11 _ => pa_some ⟨fun j hj => ?_, ?_⟩)))))))))))
  · rw [(lg_cmp_eq _ _).mp z]
    exact (Int64.add_zero _).symm
  · show a8 j = _
    rw [e8, upL_ne hj]
  · show _ = a8 _ + q2
    rw [e8, upL_at, Int64.sub_add_cancel]
set_option maxHeartbeats 4000000 in
theorem b_286 {ce : Int32} {row0 : Nat → Int64} {v_m_live : Int32} {v_m_cells : Nat → Int32} (hm : v_m_cells v_m_live.toNatClampNeg = ce) (hc : 0 ≤ ce.toInt ∧ ce.toInt ≤ 12) : ∀ (n : Nat) (v_m_riversAll : Int64) (v_m_row : Nat → Int64) (v_m_more : Nat → Int64) (v_m_moreSalt : Nat → Int64) (x1 : Int32), 0 ≤ x1.toInt → x1.toInt ≤ ce.toInt → (∀ j : Nat, (j : Int) < ce.toInt → ((j : Int) < x1.toInt → v_m_row j = row0 j + v_m_more j) ∧ (x1.toInt ≤ (j : Int) → v_m_row j = row0 j)) → pa (f_X7_flows_b286 v_m_live v_m_cells n v_m_riversAll v_m_row v_m_more v_m_moreSalt x1) (fun o => S64 o.2.1 ce.toNatClampNeg = S64 row0 ce.toNatClampNeg + S64 v_m_more ce.toNatClampNeg ∧ o.1 = v_m_riversAll) := by
  intro n
  induction n with
  | zero => intro v_m_riversAll v_m_row v_m_more v_m_moreSalt x1 _ _ _; exact pa_none
  | succ n ih =>
    intro v_m_riversAll v_m_row v_m_more v_m_moreSalt x1 h0 h1 hI
    show pa (f_X7_flows_b286_st (f_X7_flows_b286 v_m_live v_m_cells n) v_m_live v_m_cells v_m_riversAll v_m_row v_m_more v_m_moreSalt x1) _
    unfold f_X7_flows_b286_st
    refine pa_bd m_cn64 (fun o1 ho => ?_)
    rw [hm] at ho
    rw [ho]
    have ec : (ce.toNatClampNeg : Int) = ce.toInt := cl_k hc.1
    have ex : (x1.toNatClampNeg : Int) = x1.toInt := cl_k h0
    refine pa_if (fun z => pa_some ⟨?_, rfl⟩) (fun z => ?_)
    · have g := ti_le z
      exact S64_add _ (fun j hj => (hI j (by omega)).1 (by omega))
    · have g := ti_nle z
      have t1 := add_k (x := x1) (v := 1) (k := 1) rfl (by omega) (by omega)
      have e12 : ((12 : Int32) + x1).toNatClampNeg = 12 + x1.toNatClampNeg := cl_K (k := 12) rfl (by decide) h0 (by omega)
      refine pa_ck (fun _ => pa_ck (fun _ => pa_ck (fun _ => pa_nm (fun a6 e6 => pa_ck (fun _ => pa_ck (fun _ => pa_ck (fun _ => pa_nm (fun a10 e10 => ih _ _ _ _ _ (by omega) (by omega) (fun j hj => ?_)))))))))
      have e : a10 j = a6 j := by rw [e10, upL_ne (by omega)]
      rw [e, e6]
      by_cases q : j = x1.toNatClampNeg
      · refine ⟨fun _ => ?_, fun k => absurd k (by omega)⟩
        rw [q, upL_at, (hI x1.toNatClampNeg (by omega)).2 (by omega)]
      · rw [upL_ne q]
        exact ⟨fun k => (hI j hj).1 (by omega), fun k => (hI j hj).2 (by omega)⟩
set_option maxHeartbeats 4000000 in
theorem b_179 {ce ri : Int32} {r0 : Int64} {v_m_live : Int32} {v_m_changed : Int32} {v_m_changedAt : Int32} {v_m_cells : Nat → Int32} {v_m_room : Nat → Int32} {v_m_rivers : Nat → Int32} {v_m_riverCell : Nat → Int32} {v_m_riverLevel : Nat → Int32} {v_m_riverWide : Nat → Int32} {v_m_riverSalt : Nat → Int32} (hm : v_m_cells v_m_live.toNatClampNeg = ce) (hc : 0 ≤ ce.toInt ∧ ce.toInt ≤ 12) (hri : v_m_rivers v_m_live.toNatClampNeg = ri) (hr3 : 0 ≤ ri.toInt ∧ ri.toInt ≤ 3) (hl : 0 ≤ v_m_live.toInt ∧ v_m_live.toInt ≤ 1) (hr : ∀ x : Int32, 0 ≤ x.toInt → x.toInt < ri.toInt → 0 ≤ (v_m_riverCell (3 * v_m_live.toNatClampNeg + x.toNatClampNeg)).toInt ∧ (v_m_riverCell (3 * v_m_live.toNatClampNeg + x.toNatClampNeg)).toInt < ce.toInt) : ∀ (n : Nat) (v_m_riversAll : Int64) (v_m_row : Nat → Int64) (v_m_more : Nat → Int64) (v_m_moreSalt : Nat → Int64) (x1 : Int32), 0 ≤ x1.toInt → x1.toInt ≤ ri.toInt → S64 v_m_more ce.toNatClampNeg + r0 = v_m_riversAll → pa (f_X7_flows_b179 v_m_live v_m_changed v_m_changedAt v_m_cells v_m_room v_m_rivers v_m_riverCell v_m_riverLevel v_m_riverWide v_m_riverSalt n v_m_riversAll v_m_row v_m_more v_m_moreSalt x1) (fun o => S64 o.2.1 ce.toNatClampNeg + r0 = S64 v_m_row ce.toNatClampNeg + o.1) := by
  intro n
  induction n with
  | zero => intro v_m_riversAll v_m_row v_m_more v_m_moreSalt x1 _ _ _; exact pa_none
  | succ n ih =>
    intro v_m_riversAll v_m_row v_m_more v_m_moreSalt x1 h0 h1 hS
    show pa (f_X7_flows_b179_st (f_X7_flows_b179 v_m_live v_m_changed v_m_changedAt v_m_cells v_m_room v_m_rivers v_m_riverCell v_m_riverLevel v_m_riverWide v_m_riverSalt n) v_m_live v_m_changed v_m_changedAt v_m_cells v_m_room v_m_rivers v_m_riverCell v_m_riverLevel v_m_riverWide v_m_riverSalt v_m_riversAll v_m_row v_m_more v_m_moreSalt x1) _
    unfold f_X7_flows_b179_st
    have ec : (ce.toNatClampNeg : Int) = ce.toInt := cl_k hc.1
    refine pa_ck (fun _ => ?_)
    rw [hri]
    refine pa_if (fun z => ?_) (fun z => ?_)
    · refine pa_w (b_286 (row0 := v_m_row) hm hc fuel _ _ _ _ _ (by decide) (by show (0 : Int) ≤ _; exact hc.1) (fun j _ => ⟨fun k => absurd k (by show ¬ (j : Int) < 0; omega), fun _ => rfl⟩)) (fun o ho => ?_)
      rw [ho.1, ho.2, ← hS]
      ac_rfl
    · have g := ti_nle z
      have t1 := add_k (x := x1) (v := 1) (k := 1) rfl (by omega) (by omega)
      have s3 : (((3 : Int32) * v_m_live) + x1).toNatClampNeg = 3 * v_m_live.toNatClampNeg + x1.toNatClampNeg := cl_S (k := 3) rfl (by decide) hl h0 (by omega)
      obtain ⟨q0, q1⟩ := hr x1 h0 g
      refine pa_bd pa_tr (fun o3 _ => pa_ck (fun _ => pa_nm (fun e5 he5 => ?_)))
      rw [s3] at he5
      rw [← he5] at q0 q1
      have e5n : (e5.toNatClampNeg : Int) = e5.toInt := cl_k q0
      refine pa_if (fun _ => pa_ck (fun _ => pa_ck (fun _ => pa_nm (fun a9 e9 => pa_ck (fun _ => pa_ck (fun _ => pa_ck (fun _ => pa_nm (fun a13 _ => ih _ _ _ _ _ (by omega) (by omega) ?_)))))))) (fun _ => pa_bd3 b_leaves (fun l0 l1 l2 hl3 => ih _ _ _ _ _ (by omega) (by omega) ?_))
      · rw [S64_up (f := v_m_more) (g := a9) (k := e5.toNatClampNeg) (u := o3) (fun j hj => by rw [e9, upL_ne hj]) (by rw [e9, upL_at]) _ (by omega), ← hS]
        ac_rfl
      · obtain ⟨k1, k2⟩ := hl3
        have k1 : ∀ j, ¬ j = e5.toNatClampNeg → l1 j = v_m_more j := k1
        have k2 : v_m_more e5.toNatClampNeg = l1 e5.toNatClampNeg + -o3 := k2
        have k3 := S64_up (f := l1) (g := v_m_more) (k := e5.toNatClampNeg) (u := -o3) (fun j hj => (k1 j hj).symm) k2 ce.toNatClampNeg (by omega)
        rw [← hS, k3]
        have : S64 l1 ce.toNatClampNeg + -o3 + r0 + o3 = S64 l1 ce.toNatClampNeg + r0 + (-o3 + o3) := by ac_rfl
        rw [this, Int64.add_left_neg, Int64.add_zero]
set_option maxHeartbeats 4000000 in
theorem b_139 {P : Int64 × (Nat → Int64) × (Nat → Int64) × (Nat → Int64) → Prop} {C : Nat} {k30 : Int64 → (Nat → Int64) → (Nat → Int64) → (Nat → Int64) → Int32 → Option (Int64 × (Nat → Int64) × (Nat → Int64) × (Nat → Int64))} {v_m_live : Int32} {v_m_changed : Int32} {v_m_changedAt : Int32} {v_m_cells : Nat → Int32} {v_m_room : Nat → Int32} {v_m_passes : Nat → Int32} {v_m_passOne : Nat → Int32} {v_m_passOther : Nat → Int32} {v_m_rivers : Nat → Int32} {v_m_riverCell : Nat → Int32} {v_m_riverLevel : Nat → Int32} {v_m_riverWide : Nat → Int32} {v_m_riverSalt : Nat → Int32} {v_m_wide : Nat → Int32} {v_m_riversAll : Int64} {v_m_row : Nat → Int64} {v_m_more : Nat → Int64} {v_m_moreSalt : Nat → Int64} {x1 : Int32} {x4 : Int32} {x5 : Int32} {t0 : Int64} (h4 : 0 ≤ x4.toInt ∧ x4.toInt < (C : Int)) (h5 : 0 ≤ x5.toInt ∧ x5.toInt < (C : Int)) (hk : ∀ m' s', S64 m' C = S64 v_m_more C → pa (k30 v_m_riversAll v_m_row m' s' (x1 + (1 : Int32))) P) : pa (f_X7_flows_b139 k30 v_m_live v_m_changed v_m_changedAt v_m_cells v_m_room v_m_passes v_m_passOne v_m_passOther v_m_rivers v_m_riverCell v_m_riverLevel v_m_riverWide v_m_riverSalt v_m_wide v_m_riversAll v_m_row v_m_more v_m_moreSalt x1 x4 x5 t0) P := by
  have e4 : (x4.toNatClampNeg : Int) = x4.toInt := cl_k h4.1
  have e5 : (x5.toNatClampNeg : Int) = x5.toInt := cl_k h5.1
  unfold f_X7_flows_b139
  refine pa_ck (fun _ => pa_bd3 b_leaves (fun l0 l1 l2 hl => pa_ck (fun _ => pa_nm (fun a4 _ => pa_ck (fun _ => pa_ck (fun _ => pa_nm (fun a7 e7 => hk _ _ ?_)))))))
  obtain ⟨k1, k2⟩ := hl
  have k1 : ∀ j, ¬ j = x4.toNatClampNeg → l1 j = v_m_more j := k1
  have k2 : v_m_more x4.toNatClampNeg = l1 x4.toNatClampNeg + t0 := k2
  rw [S64_up (f := l1) (g := a7) (k := x5.toNatClampNeg) (u := t0) (fun j hj => by rw [e7, upL_ne hj]) (by rw [e7, upL_at]) C (by omega), S64_up (f := l1) (g := v_m_more) (k := x4.toNatClampNeg) (u := t0) (fun j hj => (k1 j hj).symm) k2 C (by omega)]
set_option maxHeartbeats 4000000 in
theorem b_86 {P : Int64 × (Nat → Int64) × (Nat → Int64) × (Nat → Int64) → Prop} {C : Nat} {k30 : Int64 → (Nat → Int64) → (Nat → Int64) → (Nat → Int64) → Int32 → Option (Int64 × (Nat → Int64) × (Nat → Int64) × (Nat → Int64))} {v_m_live : Int32} {v_m_changed : Int32} {v_m_changedAt : Int32} {v_m_cells : Nat → Int32} {v_m_room : Nat → Int32} {v_m_passes : Nat → Int32} {v_m_passOne : Nat → Int32} {v_m_passOther : Nat → Int32} {v_m_rivers : Nat → Int32} {v_m_riverCell : Nat → Int32} {v_m_riverLevel : Nat → Int32} {v_m_riverWide : Nat → Int32} {v_m_riverSalt : Nat → Int32} {v_m_wide : Nat → Int32} {v_m_riversAll : Int64} {v_m_row : Nat → Int64} {v_m_more : Nat → Int64} {v_m_moreSalt : Nat → Int64} {x1 : Int32} {x2 : Int64} {t0 : Int32} (h0 : 0 ≤ t0.toInt ∧ t0.toInt < (C : Int)) (hA : 0 ≤ (v_m_passOne (((20 : Int32) * v_m_live) + x1).toNatClampNeg).toInt ∧ (v_m_passOne (((20 : Int32) * v_m_live) + x1).toNatClampNeg).toInt < (C : Int)) (hB : 0 ≤ (v_m_passOther (((20 : Int32) * v_m_live) + x1).toNatClampNeg).toInt ∧ (v_m_passOther (((20 : Int32) * v_m_live) + x1).toNatClampNeg).toInt < (C : Int)) (hk : ∀ m' s', S64 m' C = S64 v_m_more C → pa (k30 v_m_riversAll v_m_row m' s' (x1 + (1 : Int32))) P) : pa (f_X7_flows_b86 k30 v_m_live v_m_changed v_m_changedAt v_m_cells v_m_room v_m_passes v_m_passOne v_m_passOther v_m_rivers v_m_riverCell v_m_riverLevel v_m_riverWide v_m_riverSalt v_m_wide v_m_riversAll v_m_row v_m_more v_m_moreSalt x1 x2 t0) P := by
  unfold f_X7_flows_b86 f_X7_flows_b125
  exact pa_if (fun _ => pa_ck (fun _ => pa_if (fun _ => b_139 h0 hA hk) (fun _ => b_139 h0 hA hk))) (fun _ => pa_ck (fun _ => pa_if (fun _ => b_139 h0 hB hk) (fun _ => b_139 h0 hB hk)))
set_option maxHeartbeats 4000000 in
theorem b_30 {ce ri pp : Int32} {r0 : Int64} {v_m_live : Int32} {v_m_changed : Int32} {v_m_changedAt : Int32} {v_m_cells : Nat → Int32} {v_m_room : Nat → Int32} {v_m_passes : Nat → Int32} {v_m_passOne : Nat → Int32} {v_m_passOther : Nat → Int32} {v_m_rivers : Nat → Int32} {v_m_riverCell : Nat → Int32} {v_m_riverLevel : Nat → Int32} {v_m_riverWide : Nat → Int32} {v_m_riverSalt : Nat → Int32} {v_m_wide : Nat → Int32} (hm : v_m_cells v_m_live.toNatClampNeg = ce) (hc : 0 ≤ ce.toInt ∧ ce.toInt ≤ 12) (hri : v_m_rivers v_m_live.toNatClampNeg = ri) (hr3 : 0 ≤ ri.toInt ∧ ri.toInt ≤ 3) (hl : 0 ≤ v_m_live.toInt ∧ v_m_live.toInt ≤ 1) (hr : ∀ x : Int32, 0 ≤ x.toInt → x.toInt < ri.toInt → 0 ≤ (v_m_riverCell (3 * v_m_live.toNatClampNeg + x.toNatClampNeg)).toInt ∧ (v_m_riverCell (3 * v_m_live.toNatClampNeg + x.toNatClampNeg)).toInt < ce.toInt) (hpp : v_m_passes v_m_live.toNatClampNeg = pp) (hp20 : 0 ≤ pp.toInt ∧ pp.toInt ≤ 20) (hp : ∀ x : Int32, 0 ≤ x.toInt → x.toInt < pp.toInt → (0 ≤ (v_m_passOne (20 * v_m_live.toNatClampNeg + x.toNatClampNeg)).toInt ∧ (v_m_passOne (20 * v_m_live.toNatClampNeg + x.toNatClampNeg)).toInt < ce.toInt) ∧ 0 ≤ (v_m_passOther (20 * v_m_live.toNatClampNeg + x.toNatClampNeg)).toInt ∧ (v_m_passOther (20 * v_m_live.toNatClampNeg + x.toNatClampNeg)).toInt < ce.toInt) : ∀ (n : Nat) (v_m_riversAll : Int64) (v_m_row : Nat → Int64) (v_m_more : Nat → Int64) (v_m_moreSalt : Nat → Int64) (x1 : Int32), 0 ≤ x1.toInt → x1.toInt ≤ pp.toInt → S64 v_m_more ce.toNatClampNeg + r0 = v_m_riversAll → pa (f_X7_flows_b30 v_m_live v_m_changed v_m_changedAt v_m_cells v_m_room v_m_passes v_m_passOne v_m_passOther v_m_rivers v_m_riverCell v_m_riverLevel v_m_riverWide v_m_riverSalt v_m_wide n v_m_riversAll v_m_row v_m_more v_m_moreSalt x1) (fun o => S64 o.2.1 ce.toNatClampNeg + r0 = S64 v_m_row ce.toNatClampNeg + o.1) := by
  intro n
  induction n with
  | zero => intro v_m_riversAll v_m_row v_m_more v_m_moreSalt x1 _ _ _; exact pa_none
  | succ n ih =>
    intro v_m_riversAll v_m_row v_m_more v_m_moreSalt x1 h0 h1 hS
    show pa (f_X7_flows_b30_st (f_X7_flows_b30 v_m_live v_m_changed v_m_changedAt v_m_cells v_m_room v_m_passes v_m_passOne v_m_passOther v_m_rivers v_m_riverCell v_m_riverLevel v_m_riverWide v_m_riverSalt v_m_wide n) v_m_live v_m_changed v_m_changedAt v_m_cells v_m_room v_m_passes v_m_passOne v_m_passOther v_m_rivers v_m_riverCell v_m_riverLevel v_m_riverWide v_m_riverSalt v_m_wide v_m_riversAll v_m_row v_m_more v_m_moreSalt x1) _
    unfold f_X7_flows_b30_st
    have ec : (ce.toNatClampNeg : Int) = ce.toInt := cl_k hc.1
    refine pa_ck (fun _ => ?_)
    rw [hpp]
    refine pa_if (fun z => b_179 hm hc hri hr3 hl hr fuel _ _ _ _ _ (by decide) (by show (0 : Int) ≤ _; exact hr3.1) hS) (fun z => ?_)
    have g := ti_nle z
    have t1 := add_k (x := x1) (v := 1) (k := 1) rfl (by omega) (by omega)
    have s20 : (((20 : Int32) * v_m_live) + x1).toNatClampNeg = 20 * v_m_live.toNatClampNeg + x1.toNatClampNeg := cl_S (k := 20) rfl (by decide) hl h0 (by omega)
    obtain ⟨q0, q1⟩ := hp x1 h0 g
    rw [← s20, ← ec] at q0 q1
    refine pa_bd pa_tr (fun o3 _ => pa_if (fun _ => pa_ck (fun _ => b_86 (C := ce.toNatClampNeg) q1 q0 q1 (fun m' s' hm' => ih _ _ _ _ _ (by omega) (by omega) ?_))) (fun _ => pa_ck (fun _ => b_86 (C := ce.toNatClampNeg) q0 q0 q1 (fun m' s' hm' => ih _ _ _ _ _ (by omega) (by omega) ?_))))
    · rw [hm']
      exact hS
    · rw [hm']
      exact hS
set_option maxHeartbeats 4000000 in
theorem b_fl2 {ce ri pp : Int32} {v_m_live : Int32} {v_m_changed : Int32} {v_m_changedAt : Int32} {v_m_cells : Nat → Int32} {v_m_room : Nat → Int32} {v_m_passes : Nat → Int32} {v_m_passOne : Nat → Int32} {v_m_passOther : Nat → Int32} {v_m_rivers : Nat → Int32} {v_m_riverCell : Nat → Int32} {v_m_riverLevel : Nat → Int32} {v_m_riverWide : Nat → Int32} {v_m_riverSalt : Nat → Int32} {v_m_wide : Nat → Int32} (hm : v_m_cells v_m_live.toNatClampNeg = ce) (hc : 0 ≤ ce.toInt ∧ ce.toInt ≤ 12) (hri : v_m_rivers v_m_live.toNatClampNeg = ri) (hr3 : 0 ≤ ri.toInt ∧ ri.toInt ≤ 3) (hl : 0 ≤ v_m_live.toInt ∧ v_m_live.toInt ≤ 1) (hr : ∀ x : Int32, 0 ≤ x.toInt → x.toInt < ri.toInt → 0 ≤ (v_m_riverCell (3 * v_m_live.toNatClampNeg + x.toNatClampNeg)).toInt ∧ (v_m_riverCell (3 * v_m_live.toNatClampNeg + x.toNatClampNeg)).toInt < ce.toInt) (hpp : v_m_passes v_m_live.toNatClampNeg = pp) (hp20 : 0 ≤ pp.toInt ∧ pp.toInt ≤ 20) (hp : ∀ x : Int32, 0 ≤ x.toInt → x.toInt < pp.toInt → (0 ≤ (v_m_passOne (20 * v_m_live.toNatClampNeg + x.toNatClampNeg)).toInt ∧ (v_m_passOne (20 * v_m_live.toNatClampNeg + x.toNatClampNeg)).toInt < ce.toInt) ∧ 0 ≤ (v_m_passOther (20 * v_m_live.toNatClampNeg + x.toNatClampNeg)).toInt ∧ (v_m_passOther (20 * v_m_live.toNatClampNeg + x.toNatClampNeg)).toInt < ce.toInt) : ∀ (n : Nat) (v_m_riversAll : Int64) (v_m_row : Nat → Int64) (v_m_more : Nat → Int64) (v_m_moreSalt : Nat → Int64) (x1 : Int32), 0 ≤ x1.toInt → x1.toInt ≤ 12 → (∀ j : Nat, (j : Int) < x1.toInt → v_m_more j = 0) → pa (f_X7_flows_b2 v_m_live v_m_changed v_m_changedAt v_m_cells v_m_room v_m_passes v_m_passOne v_m_passOther v_m_rivers v_m_riverCell v_m_riverLevel v_m_riverWide v_m_riverSalt v_m_wide n v_m_riversAll v_m_row v_m_more v_m_moreSalt x1) (fun o => S64 o.2.1 ce.toNatClampNeg + v_m_riversAll = S64 v_m_row ce.toNatClampNeg + o.1) := by
  intro n
  induction n with
  | zero => intro v_m_riversAll v_m_row v_m_more v_m_moreSalt x1 _ _ _; exact pa_none
  | succ n ih =>
    intro v_m_riversAll v_m_row v_m_more v_m_moreSalt x1 h0 h1 hI
    show pa (f_X7_flows_b2_st (f_X7_flows_b2 v_m_live v_m_changed v_m_changedAt v_m_cells v_m_room v_m_passes v_m_passOne v_m_passOther v_m_rivers v_m_riverCell v_m_riverLevel v_m_riverWide v_m_riverSalt v_m_wide n) v_m_live v_m_changed v_m_changedAt v_m_cells v_m_room v_m_passes v_m_passOne v_m_passOther v_m_rivers v_m_riverCell v_m_riverLevel v_m_riverWide v_m_riverSalt v_m_wide v_m_riversAll v_m_row v_m_more v_m_moreSalt x1) _
    unfold f_X7_flows_b2_st
    have ec : (ce.toNatClampNeg : Int) = ce.toInt := cl_k hc.1
    refine pa_if (fun z => ?_) (fun z => ?_)
    · have g := k_le (k := 12) rfl z
      refine b_30 hm hc hri hr3 hl hr hpp hp20 hp fuel _ _ _ _ _ (by decide) (by show (0 : Int) ≤ _; exact hp20.1) ?_
      rw [S64_0 _ (fun j hj => hI j (by omega)), Int64.zero_add]
    · have g := k_nle (k := 12) rfl z
      have t1 := add_k (x := x1) (v := 1) (k := 1) rfl (by omega) (by omega)
      have ex : (x1.toNatClampNeg : Int) = x1.toInt := cl_k h0
      refine pa_ck (fun _ => pa_nm (fun a3 e3 => pa_ck (fun _ => pa_nm (fun a5 _ => ih _ _ _ _ _ (by omega) (by omega) (fun j hj => ?_)))))
      rw [e3]
      by_cases q : j = x1.toNatClampNeg
      · rw [q, upL_at]
      · rw [upL_ne q]
        exact hI j (by omega)
theorem b_flows {ce ri pp : Int32} {v_m_live : Int32} {v_m_changed : Int32} {v_m_changedAt : Int32} {v_m_cells : Nat → Int32} {v_m_room : Nat → Int32} {v_m_passes : Nat → Int32} {v_m_passOne : Nat → Int32} {v_m_passOther : Nat → Int32} {v_m_rivers : Nat → Int32} {v_m_riverCell : Nat → Int32} {v_m_riverLevel : Nat → Int32} {v_m_riverWide : Nat → Int32} {v_m_riverSalt : Nat → Int32} {v_m_wide : Nat → Int32} {v_m_riversAll : Int64} {v_m_row : Nat → Int64} {v_m_more : Nat → Int64} {v_m_moreSalt : Nat → Int64} (hm : v_m_cells v_m_live.toNatClampNeg = ce) (hc : 0 ≤ ce.toInt ∧ ce.toInt ≤ 12) (hri : v_m_rivers v_m_live.toNatClampNeg = ri) (hr3 : 0 ≤ ri.toInt ∧ ri.toInt ≤ 3) (hl : 0 ≤ v_m_live.toInt ∧ v_m_live.toInt ≤ 1) (hr : ∀ x : Int32, 0 ≤ x.toInt → x.toInt < ri.toInt → 0 ≤ (v_m_riverCell (3 * v_m_live.toNatClampNeg + x.toNatClampNeg)).toInt ∧ (v_m_riverCell (3 * v_m_live.toNatClampNeg + x.toNatClampNeg)).toInt < ce.toInt) (hpp : v_m_passes v_m_live.toNatClampNeg = pp) (hp20 : 0 ≤ pp.toInt ∧ pp.toInt ≤ 20) (hp : ∀ x : Int32, 0 ≤ x.toInt → x.toInt < pp.toInt → (0 ≤ (v_m_passOne (20 * v_m_live.toNatClampNeg + x.toNatClampNeg)).toInt ∧ (v_m_passOne (20 * v_m_live.toNatClampNeg + x.toNatClampNeg)).toInt < ce.toInt) ∧ 0 ≤ (v_m_passOther (20 * v_m_live.toNatClampNeg + x.toNatClampNeg)).toInt ∧ (v_m_passOther (20 * v_m_live.toNatClampNeg + x.toNatClampNeg)).toInt < ce.toInt) : pa (f_X7_flows v_m_live v_m_changed v_m_changedAt v_m_cells v_m_room v_m_passes v_m_passOne v_m_passOther v_m_rivers v_m_riverCell v_m_riverLevel v_m_riverWide v_m_riverSalt v_m_wide v_m_riversAll v_m_row v_m_more v_m_moreSalt) (fun o => S64 o.2.1 ce.toNatClampNeg + v_m_riversAll = S64 v_m_row ce.toNatClampNeg + o.1) := by
  unfold f_X7_flows
  exact b_fl2 hm hc hri hr3 hl hr hpp hp20 hp fuel _ _ _ _ _ (by decide) (by decide) (fun j hj => absurd hj (by show ¬ (j : Int) < 0; omega))
set_option maxHeartbeats 4000000 in
theorem b_goes {T : Int32} {v_m_live : Int32} {v_m_changed : Int32} {v_m_changedAt : Int32} {v_m_pumpCell : Int32} {v_m_pumpMuch : Int32} {v_m_pumpFrom : Int32} {v_m_pumpTo : Int32} {v_m_cells : Nat → Int32} {v_m_room : Nat → Int32} {v_m_passes : Nat → Int32} {v_m_passOne : Nat → Int32} {v_m_passOther : Nat → Int32} {v_m_rivers : Nat → Int32} {v_m_riverCell : Nat → Int32} {v_m_riverLevel : Nat → Int32} {v_m_riverWide : Nat → Int32} {v_m_riverSalt : Nat → Int32} {v_m_rains : Nat → Int32} {v_m_villages : Nat → Int32} {v_m_home : Nat → Int32} {v_m_need : Nat → Int32} {v_m_lawFrom : Nat → Int32} {v_m_lawTo : Nat → Int32} {v_m_code : Nat → Int32} {v_m_codeInt : Nat → Int32} {v_m_wants : Nat → Int32} {v_m_isOff : Nat → Int32} {v_m_wide : Nat → Int32} {v_m_rainNow : Nat → Int32} {v_m_isBroken : Int32} {v_m_rowDay : Int32} {v_m_takenAll : Int64} {v_m_riversAll : Int64} {v_m_variables : Nat → Int32} {v_m_pile : Nat → Int32} {v_m_row : Nat → Int64} {v_m_taken : Nat → Int64} {v_m_isDry : Nat → Int32} {v_m_wouldLack : Nat → Int32} {v_m_more : Nat → Int64} {v_m_moreSalt : Nat → Int64} (y : DY v_m_live v_m_cells v_m_room v_m_passes v_m_passOne v_m_passOther v_m_rivers v_m_riverCell v_m_riverLevel v_m_riverWide v_m_rains v_m_villages v_m_home v_m_lawFrom v_m_lawTo v_m_code v_m_codeInt) (hpc : v_m_pumpCell.toInt < 0) (hT : pa (f_X7_rainOf v_m_live v_m_rains v_m_rainNow v_m_rowDay) (fun o => o = T)) : pa (f_X7_goesBy v_m_live v_m_changed v_m_changedAt v_m_pumpCell v_m_pumpMuch v_m_pumpFrom v_m_pumpTo v_m_cells v_m_room v_m_passes v_m_passOne v_m_passOther v_m_rivers v_m_riverCell v_m_riverLevel v_m_riverWide v_m_riverSalt v_m_rains v_m_villages v_m_home v_m_need v_m_lawFrom v_m_lawTo v_m_code v_m_codeInt v_m_wants v_m_isOff v_m_wide v_m_rainNow v_m_isBroken v_m_rowDay v_m_takenAll v_m_riversAll v_m_variables v_m_pile v_m_row v_m_taken v_m_isDry v_m_wouldLack v_m_more v_m_moreSalt) (fun o => S64 o.2.2.2.2.2.2.1 (v_m_cells v_m_live.toNatClampNeg).toNatClampNeg + v_m_riversAll + S64 o.2.2.2.2.2.2.2.1 (v_m_villages v_m_live.toNatClampNeg).toNatClampNeg = S64 v_m_row (v_m_cells v_m_live.toNatClampNeg).toNatClampNeg + (v_m_cells v_m_live.toNatClampNeg).toInt64 * T.toInt64 + o.2.2.2.1 ∧ o.2.2.1 = v_m_takenAll + S64 o.2.2.2.2.2.2.2.1 (v_m_villages v_m_live.toNatClampNeg).toNatClampNeg) := by
  have hl : 0 ≤ v_m_live.toInt ∧ v_m_live.toInt ≤ 1 := y.1.1
  have hc : 0 ≤ (v_m_cells v_m_live.toNatClampNeg).toInt ∧ (v_m_cells v_m_live.toNatClampNeg).toInt ≤ 12 := y.1.2.1
  have hv6 : 0 ≤ (v_m_villages v_m_live.toNatClampNeg).toInt ∧ (v_m_villages v_m_live.toNatClampNeg).toInt ≤ 6 := y.2.2.2.1
  have hp20 : 0 ≤ (v_m_passes v_m_live.toNatClampNeg).toInt ∧ (v_m_passes v_m_live.toNatClampNeg).toInt ≤ 20 := y.2.1.1
  have hr3 : 0 ≤ (v_m_rivers v_m_live.toNatClampNeg).toInt ∧ (v_m_rivers v_m_live.toNatClampNeg).toInt ≤ 3 := y.2.1.2.1
  have hnC : nC v_m_live v_m_cells = (v_m_cells v_m_live.toNatClampNeg).toInt := rfl
  have ec : ((v_m_cells v_m_live.toNatClampNeg).toNatClampNeg : Int) = (v_m_cells v_m_live.toNatClampNeg).toInt := cl_k hc.1
  unfold f_X7_goesBy
  refine pa_bd (b_sees rfl hc hT) (fun r1 h1 => ?_)
  refine pa_bd8 (b_takes (C := (v_m_cells v_m_live.toNatClampNeg).toNatClampNeg) rfl hv6 hl (by omega) hpc (fun x x0 x1 => ?_)) (fun p0 p1 p2 p3 p4 p5 p6 p7 hp => ?_)
  · have k := y.2.2.2.2 x x0 x1
    have k1 := k.1
    have k2 := k.2.1
    unfold hA at k1 k2
    rw [cl_S (k := 6) rfl (by decide) hl x0 (by omega)] at k1 k2
    rw [hnC] at k2
    exact ⟨k1, by omega⟩
  obtain ⟨h2, h3⟩ := hp
  have h2 : S64 p4 (v_m_cells v_m_live.toNatClampNeg).toNatClampNeg + S64 p5 (v_m_villages v_m_live.toNatClampNeg).toNatClampNeg = S64 r1 (v_m_cells v_m_live.toNatClampNeg).toNatClampNeg := h2
  have h3 : p1 = v_m_takenAll + S64 p5 (v_m_villages v_m_live.toNatClampNeg).toNatClampNeg := h3
  refine pa_bd4 (b_flows rfl hc rfl hr3 hl (fun x x0 x1 => ?_) rfl hp20 (fun x x0 x1 => ?_)) (fun u0 u1 u2 u3 hu => pa_some ⟨?_, h3⟩)
  · have k := y.2.1.2.2.2.1 x x0 x1
    have k1 := k.1
    have k2 := k.2.1
    unfold rA at k1 k2
    rw [cl_S (k := 3) rfl (by decide) hl x0 (by omega)] at k1 k2
    rw [hnC] at k2
    exact ⟨k1, k2⟩
  · have k := y.2.1.2.2.1 x x0 x1
    have k1 := k.1
    have k2 := k.2.1
    have k3 := k.2.2.1
    have k4 := k.2.2.2.1
    unfold pA at k1 k2 k3 k4
    rw [cl_S (k := 20) rfl (by decide) hl x0 (by omega)] at k1 k2 k3 k4
    rw [hnC] at k2 k4
    exact ⟨⟨k1, k2⟩, k3, k4⟩
  have hu : S64 u1 (v_m_cells v_m_live.toNatClampNeg).toNatClampNeg + v_m_riversAll = S64 p4 (v_m_cells v_m_live.toNatClampNeg).toNatClampNeg + u0 := hu
  show S64 u1 (v_m_cells v_m_live.toNatClampNeg).toNatClampNeg + v_m_riversAll + S64 p5 (v_m_villages v_m_live.toNatClampNeg).toNatClampNeg = S64 v_m_row (v_m_cells v_m_live.toNatClampNeg).toNatClampNeg + (v_m_cells v_m_live.toNatClampNeg).toInt64 * T.toInt64 + u0
  rw [hu, ← h1, ← h2]
  ac_rfl
set_option maxHeartbeats 4000000 in
theorem b_p74  {v_m_live : Int32} {v_m_rain : Nat → Int32}  : ∀ (n : Nat) (v_m_changed : Int32) (v_m_pumpCell : Int32) (v_m_takenAll : Int64) (v_m_riversAll : Int64) (v_m_wants : Nat → Int32) (v_m_isOff : Nat → Int32) (v_m_wide : Nat → Int32) (v_m_rainNow : Nat → Int32) (x1 : Int32), pa (f_X7_plain_b74 v_m_live v_m_rain n v_m_changed v_m_pumpCell v_m_takenAll v_m_riversAll v_m_wants v_m_isOff v_m_wide v_m_rainNow x1) (fun o => o.2.2.1 = 0 ∧ o.2.2.2.1 = 0) := by
  intro n
  induction n with
  | zero => intro v_m_changed v_m_pumpCell v_m_takenAll v_m_riversAll v_m_wants v_m_isOff v_m_wide v_m_rainNow x1 ; exact pa_none
  | succ n ih =>
    intro v_m_changed v_m_pumpCell v_m_takenAll v_m_riversAll v_m_wants v_m_isOff v_m_wide v_m_rainNow x1 
    show pa (f_X7_plain_b74_st (f_X7_plain_b74 v_m_live v_m_rain n) v_m_live v_m_rain v_m_changed v_m_pumpCell v_m_takenAll v_m_riversAll v_m_wants v_m_isOff v_m_wide v_m_rainNow x1) _
    unfold f_X7_plain_b74_st
    exact pa_if (fun _ => pa_some ⟨rfl, rfl⟩) (fun _ => pa_ck (fun _ => pa_ck (fun _ => pa_nm (fun _ _ => ih _ _ _ _ _ _ _ _ _))))
set_option maxHeartbeats 4000000 in
theorem b_p40  {v_m_live : Int32} {v_m_passWide : Nat → Int32} {v_m_rain : Nat → Int32}  : ∀ (n : Nat) (v_m_changed : Int32) (v_m_pumpCell : Int32) (v_m_takenAll : Int64) (v_m_riversAll : Int64) (v_m_wants : Nat → Int32) (v_m_isOff : Nat → Int32) (v_m_wide : Nat → Int32) (v_m_rainNow : Nat → Int32) (x1 : Int32), pa (f_X7_plain_b40 v_m_live v_m_passWide v_m_rain n v_m_changed v_m_pumpCell v_m_takenAll v_m_riversAll v_m_wants v_m_isOff v_m_wide v_m_rainNow x1) (fun o => o.2.2.1 = 0 ∧ o.2.2.2.1 = 0) := by
  intro n
  induction n with
  | zero => intro v_m_changed v_m_pumpCell v_m_takenAll v_m_riversAll v_m_wants v_m_isOff v_m_wide v_m_rainNow x1 ; exact pa_none
  | succ n ih =>
    intro v_m_changed v_m_pumpCell v_m_takenAll v_m_riversAll v_m_wants v_m_isOff v_m_wide v_m_rainNow x1 
    show pa (f_X7_plain_b40_st (f_X7_plain_b40 v_m_live v_m_passWide v_m_rain n) v_m_live v_m_passWide v_m_rain v_m_changed v_m_pumpCell v_m_takenAll v_m_riversAll v_m_wants v_m_isOff v_m_wide v_m_rainNow x1) _
    unfold f_X7_plain_b40_st
    exact pa_if (fun _ => b_p74 fuel _ _ _ _ _ _ _ _ _) (fun _ => pa_ck (fun _ => pa_ck (fun _ => pa_nm (fun _ _ => ih _ _ _ _ _ _ _ _ _))))
set_option maxHeartbeats 4000000 in
theorem b_p12  {v_m_live : Int32} {v_m_passWide : Nat → Int32} {v_m_rain : Nat → Int32}  : ∀ (n : Nat) (v_m_changed : Int32) (v_m_pumpCell : Int32) (v_m_takenAll : Int64) (v_m_riversAll : Int64) (v_m_wants : Nat → Int32) (v_m_isOff : Nat → Int32) (v_m_wide : Nat → Int32) (v_m_rainNow : Nat → Int32) (x1 : Int32), pa (f_X7_plain_b12 v_m_live v_m_passWide v_m_rain n v_m_changed v_m_pumpCell v_m_takenAll v_m_riversAll v_m_wants v_m_isOff v_m_wide v_m_rainNow x1) (fun o => o.2.2.1 = 0 ∧ o.2.2.2.1 = 0) := by
  intro n
  induction n with
  | zero => intro v_m_changed v_m_pumpCell v_m_takenAll v_m_riversAll v_m_wants v_m_isOff v_m_wide v_m_rainNow x1 ; exact pa_none
  | succ n ih =>
    intro v_m_changed v_m_pumpCell v_m_takenAll v_m_riversAll v_m_wants v_m_isOff v_m_wide v_m_rainNow x1 
    show pa (f_X7_plain_b12_st (f_X7_plain_b12 v_m_live v_m_passWide v_m_rain n) v_m_live v_m_passWide v_m_rain v_m_changed v_m_pumpCell v_m_takenAll v_m_riversAll v_m_wants v_m_isOff v_m_wide v_m_rainNow x1) _
    unfold f_X7_plain_b12_st
    exact pa_if (fun _ => b_p40 fuel _ _ _ _ _ _ _ _ _) (fun _ => pa_ck (fun _ => pa_nm (fun _ _ => pa_ck (fun _ => pa_nm (fun _ _ => ih _ _ _ _ _ _ _ _ _)))))
set_option maxHeartbeats 4000000 in
theorem b_gf6  {v_m_day : Int32} {v_m_now : Nat → Int64}  : ∀ (n : Nat) (v_m_rowDay : Int32) (v_m_changed : Int32) (v_m_pumpCell : Int32) (v_m_takenAll : Int64) (v_m_riversAll : Int64) (v_m_row : Nat → Int64) (v_m_wants : Nat → Int32) (v_m_isOff : Nat → Int32) (v_m_wide : Nat → Int32) (v_m_rainNow : Nat → Int32) (x1 : Int32), v_m_takenAll = 0 → v_m_riversAll = 0 → pa (f_X7_goesFrom_b6 v_m_day v_m_now n v_m_rowDay v_m_changed v_m_pumpCell v_m_takenAll v_m_riversAll v_m_row v_m_wants v_m_isOff v_m_wide v_m_rainNow x1) (fun o => o.2.2.2.1 = 0 ∧ o.2.2.2.2.1 = 0) := by
  intro n
  induction n with
  | zero => intro v_m_rowDay v_m_changed v_m_pumpCell v_m_takenAll v_m_riversAll v_m_row v_m_wants v_m_isOff v_m_wide v_m_rainNow x1 _ _; exact pa_none
  | succ n ih =>
    intro v_m_rowDay v_m_changed v_m_pumpCell v_m_takenAll v_m_riversAll v_m_row v_m_wants v_m_isOff v_m_wide v_m_rainNow x1 ht hr
    show pa (f_X7_goesFrom_b6_st (f_X7_goesFrom_b6 v_m_day v_m_now n) v_m_day v_m_now v_m_rowDay v_m_changed v_m_pumpCell v_m_takenAll v_m_riversAll v_m_row v_m_wants v_m_isOff v_m_wide v_m_rainNow x1) _
    unfold f_X7_goesFrom_b6_st
    exact pa_if (fun _ => pa_some ⟨ht, hr⟩) (fun _ => pa_ck (fun _ => pa_ck (fun _ => pa_nm (fun _ _ => ih _ _ _ _ _ _ _ _ _ _ _ ht hr))))
theorem b_from {v_m_live : Int32} {v_m_day : Int32} {v_m_passWide : Nat → Int32} {v_m_rain : Nat → Int32} {v_m_now : Nat → Int64} {v_m_rowDay : Int32} {v_m_changed : Int32} {v_m_pumpCell : Int32} {v_m_takenAll : Int64} {v_m_riversAll : Int64} {v_m_row : Nat → Int64} {v_m_wants : Nat → Int32} {v_m_isOff : Nat → Int32} {v_m_wide : Nat → Int32} {v_m_rainNow : Nat → Int32} : pa (f_X7_goesFrom v_m_live v_m_day v_m_passWide v_m_rain v_m_now v_m_rowDay v_m_changed v_m_pumpCell v_m_takenAll v_m_riversAll v_m_row v_m_wants v_m_isOff v_m_wide v_m_rainNow) (fun o => o.2.2.2.1 = 0 ∧ o.2.2.2.2.1 = 0) := by
  unfold f_X7_goesFrom f_X7_plain
  refine pa_bd8 (b_p12 fuel _ _ _ _ _ _ _ _ _) (fun p0 p1 p2 p3 p4 p5 p6 p7 hp => ?_)
  exact b_gf6 fuel _ _ _ _ _ _ _ _ _ _ _ hp.1 hp.2
set_option maxHeartbeats 4000000 in
theorem b_aw7 {ce : Int32} {v_m_live : Int32} {v_m_cells : Nat → Int32} {v_m_row : Nat → Int64} (hm : v_m_cells v_m_live.toNatClampNeg = ce) (hc : 0 ≤ ce.toInt ∧ ce.toInt ≤ 12) : ∀ (n : Nat) (x1 : Int64) (x3 : Int32), 0 ≤ x3.toInt → x3.toInt ≤ ce.toInt → x1 = S64 v_m_row x3.toNatClampNeg → pa (f_X7_allWater_b4 v_m_live v_m_cells v_m_row n x1 x3) (fun o => o = S64 v_m_row ce.toNatClampNeg) := by
  intro n
  induction n with
  | zero => intro x1 x3 _ _ _; exact pa_none
  | succ n ih =>
    intro x1 x3 h0 h1 hS
    show pa (f_X7_allWater_b4_st (f_X7_allWater_b4 v_m_live v_m_cells v_m_row n) v_m_live v_m_cells v_m_row x1 x3) _
    unfold f_X7_allWater_b4_st
    refine pa_bd m_cn64 (fun o1 ho => ?_)
    rw [hm] at ho
    rw [ho]
    refine pa_if (fun z => pa_some ?_) (fun z => ?_)
    · have g := ti_le z
      have e : x3 = ce := Int32.toInt_inj.mp (by omega)
      rw [← e]
      exact hS
    · have g := ti_nle z
      have t1 := add_k (x := x3) (v := 1) (k := 1) rfl (by omega) (by omega)
      refine pa_ck (fun _ => ih _ _ (by omega) (by omega) ?_)
      rw [cl_suc h0 (by omega), hS]
      rfl
theorem b_aw {ce : Int32} {v_m_live : Int32} {v_m_cells : Nat → Int32} {v_m_row : Nat → Int64} (hm : v_m_cells v_m_live.toNatClampNeg = ce) (hc : 0 ≤ ce.toInt ∧ ce.toInt ≤ 12) : pa (f_X7_allWater v_m_live v_m_cells v_m_row) (fun o => o = S64 v_m_row ce.toNatClampNeg) := by
  unfold f_X7_allWater
  exact b_aw7 hm hc fuel _ _ (by decide) (by show (0 : Int) ≤ _; exact hc.1) rfl
set_option maxHeartbeats 4000000 in
theorem c_aw  {v_d_water : Nat → Int32}  : ∀ (n : Nat) (x1 : Int32) (x2 : Int32) (x3 : Int32), 0 ≤ x3.toInt → x3.toInt ≤ x1.toInt → x1.toInt ≤ 12 → x2 = S32 v_d_water x3.toNatClampNeg → pa (f_X1_allWater_b4 v_d_water n x1 x2 x3) (fun o => o = S32 v_d_water x1.toNatClampNeg) := by
  intro n
  induction n with
  | zero => intro x1 x2 x3 _ _ _ _; exact pa_none
  | succ n ih =>
    intro x1 x2 x3 h0 h1 h2 hS
    show pa (f_X1_allWater_b4_st (f_X1_allWater_b4 v_d_water n) v_d_water x1 x2 x3) _
    unfold f_X1_allWater_b4_st
    refine pa_if (fun z => pa_some ?_) (fun z => ?_)
    · have g := ti_le z
      have e : x3 = x1 := Int32.toInt_inj.mp (by omega)
      rw [← e]
      exact hS
    · have g := ti_nle z
      have t1 := add_k (x := x3) (v := 1) (k := 1) rfl (by omega) (by omega)
      refine pa_ck (fun _ => ih _ _ _ (by omega) (by omega) h2 ?_)
      rw [cl_suc h0 (by omega), hS]
      rfl
theorem c_allw {v_d_water : Nat → Int32} {q1 : Int32} (h : 0 ≤ q1.toInt ∧ q1.toInt ≤ 12) : pa (f_X1_allWater v_d_water q1) (fun o => o = S32 v_d_water q1.toNatClampNeg) := by
  unfold f_X1_allWater
  exact c_aw fuel _ _ _ (by decide) (by show (0 : Int) ≤ _; exact h.1) h.2 rfl
set_option maxHeartbeats 4000000 in
theorem c_b77 {β : Type} {g : Option β} {R : Int32 × Int32 × (Nat → Int32) × (Nat → Int32) × (Nat → Int32) × (Nat → Int32) × Int32 × Int32 × (Nat → Int32) × (Nat → Int32) × (Nat → Int32) × (Nat → Int64) × (Nat → Int32) × Int32 × (Nat → Int32) × (Nat → Int64) × (Nat → Int32) × (Nat → Int32) × (Nat → Int32) × (Nat → Int32) × (Nat → Int32) → β → Prop} {X : Int32} {k32 : Int32 → (Nat → Int32) → (Nat → Int32) → (Nat → Int32) → (Nat → Int32) → Int32 → Int32 → (Nat → Int32) → (Nat → Int32) → (Nat → Int32) → (Nat → Int64) → (Nat → Int32) → Int32 → (Nat → Int32) → (Nat → Int64) → (Nat → Int32) → (Nat → Int32) → (Nat → Int32) → (Nat → Int32) → (Nat → Int32) → Int32 → Int32 → Int32 → Int32 → Int32 → Option (Int32 × Int32 × (Nat → Int32) × (Nat → Int32) × (Nat → Int32) × (Nat → Int32) × Int32 × Int32 × (Nat → Int32) × (Nat → Int32) × (Nat → Int32) × (Nat → Int64) × (Nat → Int32) × Int32 × (Nat → Int32) × (Nat → Int64) × (Nat → Int32) × (Nat → Int32) × (Nat → Int32) × (Nat → Int32) × (Nat → Int32))} {v_g_cells : Int32} {v_g_passes : Int32} {v_g_rivers : Int32} {v_g_villages : Int32} {v_g_rains : Int32} {v_g_room : Nat → Int32} {v_g_passFrom : Nat → Int32} {v_g_passTo : Nat → Int32} {v_g_riverCell : Nat → Int32} {v_g_riverLevel : Nat → Int32} {v_g_riverSalt : Nat → Int32} {v_g_villageCell : Nat → Int32} {v_g_need : Nat → Int32} {v_g_lawEnd : Nat → Int32} {v_g_code : Nat → Int32} {v_p_pumpTakes : Int32} {v_p_pumpFrom : Int32} {v_p_pumpTo : Int32} {v_n_water : Nat → Int32} (hv6 : 0 ≤ v_g_villages.toInt ∧ v_g_villages.toInt ≤ 6) : ∀ (n : Nat) (v_p_pumpCell : Int32) (v_p_wanting : Nat → Int32) (v_p_passWidth : Nat → Int32) (v_p_riverWidth : Nat → Int32) (v_p_rain : Nat → Int32) (v_c_pumped : Int32) (v_c_today : Int32) (v_c_lacked : Nat → Int32) (v_c_level : Nat → Int32) (v_c_water : Nat → Int32) (v_c_salt : Nat → Int64) (v_c_stack : Nat → Int32) (v_d_day : Int32) (v_d_water : Nat → Int32) (v_d_salt : Nat → Int64) (v_d_seen : Nat → Int32) (v_d_took : Nat → Int32) (v_d_dryDays : Nat → Int32) (v_d_firstDry : Nat → Int32) (v_d_total : Nat → Int32) (x1 : Int32) (x2 : Int32) (x3 : Int32) (x4 : Int32) (x5 : Int32) (x6 : Int32), 0 ≤ x6.toInt → x6.toInt ≤ v_g_villages.toInt → x4 = X + S32 v_d_took x6.toNatClampNeg → pj (k32 v_p_pumpCell v_p_wanting v_p_passWidth v_p_riverWidth v_p_rain v_c_pumped v_c_today v_c_lacked v_c_level v_c_water v_c_salt v_c_stack v_d_day v_d_water v_d_salt v_d_seen v_d_took v_d_dryDays v_d_firstDry v_d_total x1 x2 x3 (X + S32 v_d_took v_g_villages.toNatClampNeg) (x5 + (1 : Int32))) g R → pj (f_X6_balance_b77 k32 v_g_cells v_g_passes v_g_rivers v_g_villages v_g_rains v_g_room v_g_passFrom v_g_passTo v_g_riverCell v_g_riverLevel v_g_riverSalt v_g_villageCell v_g_need v_g_lawEnd v_g_code v_p_pumpTakes v_p_pumpFrom v_p_pumpTo v_n_water n v_p_pumpCell v_p_wanting v_p_passWidth v_p_riverWidth v_p_rain v_c_pumped v_c_today v_c_lacked v_c_level v_c_water v_c_salt v_c_stack v_d_day v_d_water v_d_salt v_d_seen v_d_took v_d_dryDays v_d_firstDry v_d_total x1 x2 x3 x4 x5 x6) g R := by
  intro n
  induction n with
  | zero => intro v_p_pumpCell v_p_wanting v_p_passWidth v_p_riverWidth v_p_rain v_c_pumped v_c_today v_c_lacked v_c_level v_c_water v_c_salt v_c_stack v_d_day v_d_water v_d_salt v_d_seen v_d_took v_d_dryDays v_d_firstDry v_d_total x1 x2 x3 x4 x5 x6 _ _ _ _; exact pj_nl
  | succ n ih =>
    intro v_p_pumpCell v_p_wanting v_p_passWidth v_p_riverWidth v_p_rain v_c_pumped v_c_today v_c_lacked v_c_level v_c_water v_c_salt v_c_stack v_d_day v_d_water v_d_salt v_d_seen v_d_took v_d_dryDays v_d_firstDry v_d_total x1 x2 x3 x4 x5 x6 h0 h1 hX hk
    show pj (f_X6_balance_b77_st (f_X6_balance_b77 k32 v_g_cells v_g_passes v_g_rivers v_g_villages v_g_rains v_g_room v_g_passFrom v_g_passTo v_g_riverCell v_g_riverLevel v_g_riverSalt v_g_villageCell v_g_need v_g_lawEnd v_g_code v_p_pumpTakes v_p_pumpFrom v_p_pumpTo v_n_water n) k32 v_g_cells v_g_passes v_g_rivers v_g_villages v_g_rains v_g_room v_g_passFrom v_g_passTo v_g_riverCell v_g_riverLevel v_g_riverSalt v_g_villageCell v_g_need v_g_lawEnd v_g_code v_p_pumpTakes v_p_pumpFrom v_p_pumpTo v_n_water v_p_pumpCell v_p_wanting v_p_passWidth v_p_riverWidth v_p_rain v_c_pumped v_c_today v_c_lacked v_c_level v_c_water v_c_salt v_c_stack v_d_day v_d_water v_d_salt v_d_seen v_d_took v_d_dryDays v_d_firstDry v_d_total x1 x2 x3 x4 x5 x6) g R
    unfold f_X6_balance_b77_st
    refine pj_ifl (fun z => ?_) (fun z => ?_)
    · have g := ti_le z
      have e : x6 = v_g_villages := Int32.toInt_inj.mp (by omega)
      rw [hX, e]
      exact hk
    · have g := ti_nle z
      have t1 := add_k (x := x6) (v := 1) (k := 1) rfl (by omega) (by omega)
      refine pj_ckl (fun _ => ih _ _ _ _ _ _ _ _ _ _ _ _ _ _ _ _ _ _ _ _ _ _ _ _ _ _ (by omega) (by omega) ?_ hk)
      rw [cl_suc h0 (by omega), hX]
      show _ = X + (S32 v_d_took x6.toNatClampNeg + v_d_took x6.toNatClampNeg)
      ac_rfl
set_option maxHeartbeats 8000000 in
theorem l_bal {v_g_cells : Int32} {v_g_passes : Int32} {v_g_rivers : Int32} {v_g_villages : Int32} {v_g_rains : Int32} {v_g_room : Nat → Int32} {v_g_passFrom : Nat → Int32} {v_g_passTo : Nat → Int32} {v_g_riverCell : Nat → Int32} {v_g_riverLevel : Nat → Int32} {v_g_riverSalt : Nat → Int32} {v_g_villageCell : Nat → Int32} {v_g_need : Nat → Int32} {v_g_lawEnd : Nat → Int32} {v_g_code : Nat → Int32} {v_p_pumpTakes : Int32} {v_p_pumpFrom : Int32} {v_p_pumpTo : Int32} {v_n_water : Nat → Int32} {v_m_live : Int32} {v_m_changedAt : Int32} {v_m_pumpMuch : Int32} {v_m_pumpFrom : Int32} {v_m_pumpTo : Int32} {v_m_cells : Nat → Int32} {v_m_room : Nat → Int32} {v_m_passes : Nat → Int32} {v_m_passOne : Nat → Int32} {v_m_passOther : Nat → Int32} {v_m_rivers : Nat → Int32} {v_m_riverCell : Nat → Int32} {v_m_riverLevel : Nat → Int32} {v_m_riverWide : Nat → Int32} {v_m_riverSalt : Nat → Int32} {v_m_rains : Nat → Int32} {v_m_villages : Nat → Int32} {v_m_home : Nat → Int32} {v_m_need : Nat → Int32} {v_m_lawFrom : Nat → Int32} {v_m_lawTo : Nat → Int32} {v_m_code : Nat → Int32} {v_m_codeInt : Nat → Int32} {B : Int} (hB : B ≤ 1980000) (y : DY v_m_live v_m_cells v_m_room v_m_passes v_m_passOne v_m_passOther v_m_rivers v_m_riverCell v_m_riverLevel v_m_riverWide v_m_rains v_m_villages v_m_home v_m_lawFrom v_m_lawTo v_m_code v_m_codeInt) (hne : NE v_m_live v_m_villages v_m_need) (G : GL v_m_live v_g_cells v_g_passes v_g_rivers v_g_villages v_g_rains v_g_room v_g_passFrom v_g_passTo v_g_riverCell v_g_riverLevel v_g_riverSalt v_g_villageCell v_g_need v_g_lawEnd v_g_code v_m_cells v_m_room v_m_passes v_m_passOne v_m_passOther v_m_rivers v_m_riverCell v_m_riverLevel v_m_riverSalt v_m_rains v_m_villages v_m_home v_m_need v_m_lawFrom v_m_lawTo v_m_code v_m_codeInt) : ∀ (n m : Nat) (v_p_pumpCell : Int32) (v_p_wanting : Nat → Int32) (v_p_passWidth : Nat → Int32) (v_p_riverWidth : Nat → Int32) (v_p_rain : Nat → Int32) (v_c_pumped : Int32) (v_c_today : Int32) (v_c_lacked : Nat → Int32) (v_c_level : Nat → Int32) (v_c_water : Nat → Int32) (v_c_salt : Nat → Int64) (v_c_stack : Nat → Int32) (v_d_day : Int32) (v_d_water : Nat → Int32) (v_d_salt : Nat → Int64) (v_d_seen : Nat → Int32) (v_d_took : Nat → Int32) (v_d_dryDays : Nat → Int32) (v_d_firstDry : Nat → Int32) (v_d_total : Nat → Int32) (xn : Int32) (xq : Int32) (xr : Int32) (xk : Int32) (xi : Int32) (v_m_isBroken : Int32) (v_m_rowDay : Int32) (v_m_changed : Int32) (v_m_pumpCell : Int32) (v_m_takenAll : Int64) (v_m_riversAll : Int64) (v_m_variables : Nat → Int32) (v_m_pile : Nat → Int32) (v_m_row : Nat → Int64) (v_m_wants : Nat → Int32) (v_m_isOff : Nat → Int32) (v_m_wide : Nat → Int32) (v_m_rainNow : Nat → Int32) (v_m_taken : Nat → Int64) (v_m_isDry : Nat → Int32) (v_m_wouldLack : Nat → Int32) (v_m_more : Nat → Int64) (v_m_moreSalt : Nat → Int64) (xw : Int64) (xz : Int64), 0 ≤ xi.toInt → xi.toInt ≤ xn.toInt → xn.toInt ≤ 400 → v_m_pumpCell.toInt < 0 → (∀ y : Int32, 0 ≤ y.toInt → y.toInt < v_g_villages.toInt → ¬ OF v_m_changed v_m_changedAt v_m_isOff y) → xr = xz.toInt32 → xk = v_m_takenAll.toInt32 → xw.toInt32 = S32 v_n_water v_g_cells.toNatClampNeg → S64 v_m_row v_g_cells.toNatClampNeg + v_m_takenAll = xw + xz + v_m_riversAll → PN v_m_live v_m_cells v_m_passes v_m_rains v_m_wants v_m_wide v_m_rainNow v_m_pumpCell v_m_pumpMuch → PLN v_m_live v_m_changed v_m_changedAt v_g_villages.toInt v_g_passes.toInt v_g_rivers.toInt v_g_rains.toInt v_m_pumpCell v_m_pumpMuch v_m_pumpFrom v_m_pumpTo v_p_pumpCell v_p_pumpTakes v_p_pumpFrom v_p_pumpTo v_p_wanting v_p_passWidth v_p_riverWidth v_p_rain v_m_wants v_m_isOff v_m_wide v_m_rainNow v_m_riverWide → DD v_m_live v_g_cells.toInt v_g_villages.toInt (B + xi.toInt) v_m_cells v_m_room v_d_day v_m_rowDay v_d_water v_d_salt v_d_seen v_d_took v_d_dryDays v_d_firstDry v_d_total v_m_row → pj (f_X6_balance_b32 v_g_cells v_g_passes v_g_rivers v_g_villages v_g_rains v_g_room v_g_passFrom v_g_passTo v_g_riverCell v_g_riverLevel v_g_riverSalt v_g_villageCell v_g_need v_g_lawEnd v_g_code v_p_pumpTakes v_p_pumpFrom v_p_pumpTo v_n_water n v_p_pumpCell v_p_wanting v_p_passWidth v_p_riverWidth v_p_rain v_c_pumped v_c_today v_c_lacked v_c_level v_c_water v_c_salt v_c_stack v_d_day v_d_water v_d_salt v_d_seen v_d_took v_d_dryDays v_d_firstDry v_d_total xn xq xr xk xi) (f_X7_balance_b35 v_m_live v_m_changedAt v_m_pumpMuch v_m_pumpFrom v_m_pumpTo v_m_cells v_m_room v_m_passes v_m_passOne v_m_passOther v_m_rivers v_m_riverCell v_m_riverLevel v_m_riverWide v_m_riverSalt v_m_rains v_m_villages v_m_home v_m_need v_m_lawFrom v_m_lawTo v_m_code v_m_codeInt m v_m_isBroken v_m_rowDay v_m_changed v_m_pumpCell v_m_takenAll v_m_riversAll v_m_variables v_m_pile v_m_row v_m_wants v_m_isOff v_m_wide v_m_rainNow v_m_taken v_m_isDry v_m_wouldLack v_m_more v_m_moreSalt xn xq xw xz xi) (fun a b => a.1 = b.1) := by
  intro n
  induction n with
  | zero => intro m v_p_pumpCell v_p_wanting v_p_passWidth v_p_riverWidth v_p_rain v_c_pumped v_c_today v_c_lacked v_c_level v_c_water v_c_salt v_c_stack v_d_day v_d_water v_d_salt v_d_seen v_d_took v_d_dryDays v_d_firstDry v_d_total xn xq xr xk xi v_m_isBroken v_m_rowDay v_m_changed v_m_pumpCell v_m_takenAll v_m_riversAll v_m_variables v_m_pile v_m_row v_m_wants v_m_isOff v_m_wide v_m_rainNow v_m_taken v_m_isDry v_m_wouldLack v_m_more v_m_moreSalt xw xz _ _ _ _ _ _ _ _ _ _ _ _; exact pj_nl
  | succ n ih =>
    intro m v_p_pumpCell v_p_wanting v_p_passWidth v_p_riverWidth v_p_rain v_c_pumped v_c_today v_c_lacked v_c_level v_c_water v_c_salt v_c_stack v_d_day v_d_water v_d_salt v_d_seen v_d_took v_d_dryDays v_d_firstDry v_d_total xn xq xr xk xi v_m_isBroken v_m_rowDay v_m_changed v_m_pumpCell v_m_takenAll v_m_riversAll v_m_variables v_m_pile v_m_row v_m_wants v_m_isOff v_m_wide v_m_rainNow v_m_taken v_m_isDry v_m_wouldLack v_m_more v_m_moreSalt xw xz hx0 hx1 hxn hpc hof er ek ew eS p P hD
    cases m with
    | zero => exact pj_nr
    | succ m =>
    show pj (f_X6_balance_b32_st (f_X6_balance_b32 v_g_cells v_g_passes v_g_rivers v_g_villages v_g_rains v_g_room v_g_passFrom v_g_passTo v_g_riverCell v_g_riverLevel v_g_riverSalt v_g_villageCell v_g_need v_g_lawEnd v_g_code v_p_pumpTakes v_p_pumpFrom v_p_pumpTo v_n_water n) v_g_cells v_g_passes v_g_rivers v_g_villages v_g_rains v_g_room v_g_passFrom v_g_passTo v_g_riverCell v_g_riverLevel v_g_riverSalt v_g_villageCell v_g_need v_g_lawEnd v_g_code v_p_pumpTakes v_p_pumpFrom v_p_pumpTo v_n_water v_p_pumpCell v_p_wanting v_p_passWidth v_p_riverWidth v_p_rain v_c_pumped v_c_today v_c_lacked v_c_level v_c_water v_c_salt v_c_stack v_d_day v_d_water v_d_salt v_d_seen v_d_took v_d_dryDays v_d_firstDry v_d_total xn xq xr xk xi) (f_X7_balance_b35_st (f_X7_balance_b35 v_m_live v_m_changedAt v_m_pumpMuch v_m_pumpFrom v_m_pumpTo v_m_cells v_m_room v_m_passes v_m_passOne v_m_passOther v_m_rivers v_m_riverCell v_m_riverLevel v_m_riverWide v_m_riverSalt v_m_rains v_m_villages v_m_home v_m_need v_m_lawFrom v_m_lawTo v_m_code v_m_codeInt m) v_m_live v_m_changedAt v_m_pumpMuch v_m_pumpFrom v_m_pumpTo v_m_cells v_m_room v_m_passes v_m_passOne v_m_passOther v_m_rivers v_m_riverCell v_m_riverLevel v_m_riverWide v_m_riverSalt v_m_rains v_m_villages v_m_home v_m_need v_m_lawFrom v_m_lawTo v_m_code v_m_codeInt v_m_isBroken v_m_rowDay v_m_changed v_m_pumpCell v_m_takenAll v_m_riversAll v_m_variables v_m_pile v_m_row v_m_wants v_m_isOff v_m_wide v_m_rainNow v_m_taken v_m_isDry v_m_wouldLack v_m_more v_m_moreSalt xn xq xw xz xi) _
    unfold f_X6_balance_b32_st f_X7_balance_b35_st
    have hv6 := y.2.2.2.1
    rw [G.2.2.2.1] at hv6
    have hv6 : 0 ≤ v_g_villages.toInt ∧ v_g_villages.toInt ≤ 6 := hv6
    have hc12 := y.1.2.1
    rw [G.1] at hc12
    have hc12 : 0 ≤ v_g_cells.toInt ∧ v_g_cells.toInt ≤ 12 := hc12
    have hra := y.2.2.1
    rw [G.2.2.2.2.1] at hra
    have hra : 0 ≤ v_g_rains.toInt ∧ v_g_rains.toInt ≤ 14 := hra
    have ec : (v_g_cells.toNatClampNeg : Int) = v_g_cells.toInt := cl_k hc12.1
    have hw32 : (S64 v_m_row v_g_cells.toNatClampNeg).toInt32 = S32 v_d_water v_g_cells.toNatClampNeg := S64_32 _ (fun j hj => by rw [(hD.2.2.1 j (by omega)).1, l_32])
    refine pj_ifl (fun z => pj_ifr (fun _ => ?_) (fun k => absurd z k)) (fun z => pj_ifr (fun k => absurd k z) (fun _ => ?_))
    · refine pj_bl (c_allw hc12) (fun o2 h2 => pj_bl (c_allw hc12) (fun o3 h3 => ?_))
      have eS2 := congrArg Int64.toInt32 eS
      rw [Int64.toInt32_add, Int64.toInt32_add, Int64.toInt32_add, hw32, ← h2, ew, ← h3, ← ek, ← er] at eS2
      unfold f_X7_balance_b110
      refine pj_ifl (fun q => pj_ifr (fun _ => pj_br (m_whole _) (fun o ho => pj_ss (er.trans ho.symm))) (fun k => absurd q k)) (fun q => pj_ifr (fun k => absurd k q) (fun _ => ?_))
      refine pj_ifl (fun q => pj_ifr (fun _ => pj_br (m_whole _) (fun o ho => pj_ss (ek.trans ho.symm))) (fun k => absurd q k)) (fun q => pj_ifr (fun k => absurd k q) (fun _ => ?_))
      refine pj_ifl (fun q => pj_ifr (fun _ => pj_br (m_whole _) (fun o ho => pj_ss ?_)) (fun k => absurd q k)) (fun q => pj_ifr (fun k => absurd k q) (fun _ => ?_))
      · show o2 - o3 - xr + xk = o
        rw [ho, Int32.sub_eq_add_neg, Int32.sub_eq_add_neg]
        have e1 : o2 + -o3 + -xr + xk = o2 + xk + -o3 + -xr := by ac_rfl
        rw [e1, eS2]
        have e2 : o3 + xr + v_m_riversAll.toInt32 + -o3 + -xr = v_m_riversAll.toInt32 + (o3 + -o3) + (xr + -xr) := by ac_rfl
        rw [e2, Int32.add_right_neg, Int32.add_right_neg, Int32.add_zero, Int32.add_zero]
      · refine pj_br (b_aw G.1 hc12) (fun o5 h5 => pj_br (m_whole _) (fun o ho => pj_ss ?_))
        show o2 - o3 = o
        rw [ho, Int64.toInt32_sub, h5, hw32, ← h2, ew, ← h3]
    · have g := ti_nle z
      have t1 := add_k (x := xi) (v := 1) (k := 1) rfl (by omega) (by omega)
      obtain ⟨ed, hrd, hDA⟩ := id hD
      have hd0 : 0 ≤ v_m_rowDay.toInt := hrd.1
      have jr : pj (f_X0_rainOf v_g_rains v_p_rain v_d_day) (f_X7_rainOf v_m_live v_m_rains v_m_rainNow v_m_rowDay) (fun a b => a = b) := by
        rw [ed]
        exact j_rain G.2.2.2.2.1 hra.1 hd0 P.2.2.2.1 (fun q => md_k hd0 q)
      refine pj_bbe jr (fun a b eb hrn => ?_)
      have hT : pa (f_X7_rainOf v_m_live v_m_rains v_m_rainNow v_m_rowDay) (fun o => o = a) := fun o e => by
        rw [eb] at e
        rw [hrn]
        exact (Option.some.inj e).symm
      refine pj_br (m_cn64 (live := v_m_live) (cells := v_m_cells)) (fun o7 h7 => ?_)
      rw [G.1] at h7
      refine pj_b15_12 (pj_and_r (j_dd y hne G p P hD (by omega)) (b_goes y hpc hT)) (fun a0 a1 a2 a3 a4 a5 a6 a7 a8 a9 a10 a11 a12 a13 a14 b0 b1 b2 b3 b4 b5 b6 b7 b8 b9 b10 b11 hab => ?_)
      obtain ⟨⟨hD2, hF⟩, hb1, hb2⟩ := hab
      have hb1 : S64 b6 (v_m_cells v_m_live.toNatClampNeg).toNatClampNeg + v_m_riversAll + S64 b7 (v_m_villages v_m_live.toNatClampNeg).toNatClampNeg = S64 v_m_row (v_m_cells v_m_live.toNatClampNeg).toNatClampNeg + (v_m_cells v_m_live.toNatClampNeg).toInt64 * a.toInt64 + b3 := hb1
      have hb2 : b2 = v_m_takenAll + S64 b7 (v_m_villages v_m_live.toNatClampNeg).toNatClampNeg := hb2
      rw [G.1, G.2.2.2.1] at hb1
      rw [G.2.2.2.1] at hb2
      have hF3 : ∀ y : Int32, 0 ≤ y.toInt → y.toInt < v_g_villages.toInt → b7 y.toNatClampNeg = (a11 y.toNatClampNeg).toInt64 := fun y y0 y1 => (hF y y0 y1).2.2
      have hk32 : (S64 b7 v_g_villages.toNatClampNeg).toInt32 = S32 a11 v_g_villages.toNatClampNeg := S64_32 _ (fun j hj => by
        have ev : (v_g_villages.toNatClampNeg : Int) = v_g_villages.toInt := cl_k hv6.1
        have o6 := of_n (c := j) (by omega)
        have k := hF3 (Int32.ofNat j) (by omega) (by omega)
        rw [o6.2] at k
        rw [k, l_32])
      refine c_b77 (X := xk) hv6 fuel _ _ _ _ _ _ _ _ _ _ _ _ _ _ _ _ _ _ _ _ _ _ _ _ _ _ (by decide) (by show (0 : Int) ≤ _; exact hv6.1) (Int32.add_zero _).symm (ih m _ _ _ _ _ _ _ _ _ _ _ _ _ _ _ _ _ _ _ _ _ _ _ _ _ _ _ _ _ _ _ _ _ _ _ _ _ _ _ _ _ _ _ _ _ (by omega) (by omega) hxn hpc hof ?_ ?_ ew ?_ p P (by rw [t1, ← Int.add_assoc]; exact hD2))
      · rw [Int64.toInt32_add, Int64.toInt32_mul, l_32, l_32, ← er, h7, hrn]
      · rw [hb2, Int64.toInt32_add, ← ek, hk32]
      · rw [hb2, h7]
        have e1 : S64 b6 v_g_cells.toNatClampNeg + (v_m_takenAll + S64 b7 v_g_villages.toNatClampNeg) + v_m_riversAll = S64 b6 v_g_cells.toNatClampNeg + v_m_riversAll + S64 b7 v_g_villages.toNatClampNeg + v_m_takenAll := by ac_rfl
        rw [hb1] at e1
        have e2 : S64 v_m_row v_g_cells.toNatClampNeg + v_g_cells.toInt64 * a.toInt64 + b3 + v_m_takenAll = (S64 v_m_row v_g_cells.toNatClampNeg + v_m_takenAll) + v_g_cells.toInt64 * a.toInt64 + b3 := by ac_rfl
        rw [e2, eS] at e1
        have e3 : xw + xz + v_m_riversAll + v_g_cells.toInt64 * a.toInt64 + b3 = xw + (xz + v_g_cells.toInt64 * a.toInt64) + b3 + v_m_riversAll := by ac_rfl
        rw [e3] at e1
        have e4 := canc e1
        rw [← hrn, Int64.mul_comm a.toInt64]
        exact e4
set_option maxHeartbeats 8000000 in
theorem q_balance {v_g_cells : Int32} {v_g_passes : Int32} {v_g_rivers : Int32} {v_g_villages : Int32} {v_g_rains : Int32} {v_g_room : Nat → Int32} {v_g_passFrom : Nat → Int32} {v_g_passTo : Nat → Int32} {v_g_passWidth : Nat → Int32} {v_g_riverCell : Nat → Int32} {v_g_riverLevel : Nat → Int32} {v_g_riverWidth : Nat → Int32} {v_g_riverSalt : Nat → Int32} {v_g_villageCell : Nat → Int32} {v_g_need : Nat → Int32} {v_g_lawEnd : Nat → Int32} {v_g_code : Nat → Int32} {v_g_rain : Nat → Int32} {v_p_pumpTakes : Int32} {v_p_pumpFrom : Int32} {v_p_pumpTo : Int32} {v_n_day : Int32} {v_n_water : Nat → Int32} {v_n_salt : Nat → Int64} {v_n_seen : Nat → Int32} {v_n_took : Nat → Int32} {v_n_dryDays : Nat → Int32} {v_n_firstDry : Nat → Int32} {v_n_total : Nat → Int32} {v_p_pumpCell : Int32} {v_p_wanting : Nat → Int32} {v_p_passWidth : Nat → Int32} {v_p_riverWidth : Nat → Int32} {v_p_rain : Nat → Int32} {v_c_pumped : Int32} {v_c_today : Int32} {v_c_lacked : Nat → Int32} {v_c_level : Nat → Int32} {v_c_water : Nat → Int32} {v_c_salt : Nat → Int64} {v_c_stack : Nat → Int32} {v_d_day : Int32} {v_d_water : Nat → Int32} {v_d_salt : Nat → Int64} {v_d_seen : Nat → Int32} {v_d_took : Nat → Int32} {v_d_dryDays : Nat → Int32} {v_d_firstDry : Nat → Int32} {v_d_total : Nat → Int32} {q1 : Int32} {q2 : Int32} {v_m_live : Int32} {v_m_day : Int32} {v_m_changedAt : Int32} {v_m_pumpMuch : Int32} {v_m_pumpFrom : Int32} {v_m_pumpTo : Int32} {v_m_cells : Nat → Int32} {v_m_room : Nat → Int32} {v_m_passes : Nat → Int32} {v_m_passOne : Nat → Int32} {v_m_passOther : Nat → Int32} {v_m_passWide : Nat → Int32} {v_m_rivers : Nat → Int32} {v_m_riverCell : Nat → Int32} {v_m_riverLevel : Nat → Int32} {v_m_riverWide : Nat → Int32} {v_m_riverSalt : Nat → Int32} {v_m_rains : Nat → Int32} {v_m_rain : Nat → Int32} {v_m_villages : Nat → Int32} {v_m_home : Nat → Int32} {v_m_need : Nat → Int32} {v_m_lawFrom : Nat → Int32} {v_m_lawTo : Nat → Int32} {v_m_code : Nat → Int32} {v_m_codeInt : Nat → Int32} {v_m_now : Nat → Int64} {v_m_isBroken : Int32} {v_m_rowDay : Int32} {v_m_changed : Int32} {v_m_pumpCell : Int32} {v_m_takenAll : Int64} {v_m_riversAll : Int64} {v_m_variables : Nat → Int32} {v_m_pile : Nat → Int32} {v_m_row : Nat → Int64} {v_m_wants : Nat → Int32} {v_m_isOff : Nat → Int32} {v_m_wide : Nat → Int32} {v_m_rainNow : Nat → Int32} {v_m_taken : Nat → Int64} {v_m_isDry : Nat → Int32} {v_m_wouldLack : Nat → Int32} {v_m_more : Nat → Int64} {v_m_moreSalt : Nat → Int64} {B : Int} (hB : B ≤ 1980000) (y : DY v_m_live v_m_cells v_m_room v_m_passes v_m_passOne v_m_passOther v_m_rivers v_m_riverCell v_m_riverLevel v_m_riverWide v_m_rains v_m_villages v_m_home v_m_lawFrom v_m_lawTo v_m_code v_m_codeInt) (hne : NE v_m_live v_m_villages v_m_need) (G : GL v_m_live v_g_cells v_g_passes v_g_rivers v_g_villages v_g_rains v_g_room v_g_passFrom v_g_passTo v_g_riverCell v_g_riverLevel v_g_riverSalt v_g_villageCell v_g_need v_g_lawEnd v_g_code v_m_cells v_m_room v_m_passes v_m_passOne v_m_passOther v_m_rivers v_m_riverCell v_m_riverLevel v_m_riverSalt v_m_rains v_m_villages v_m_home v_m_need v_m_lawFrom v_m_lawTo v_m_code v_m_codeInt) (a1 : AL v_g_passWidth v_m_passWide (20 * v_m_live.toNatClampNeg) v_g_passes.toInt) (a2 : AL v_g_riverWidth v_m_riverWide (3 * v_m_live.toNatClampNeg) v_g_rivers.toInt) (a3 : AL v_g_rain v_m_rain (14 * v_m_live.toNatClampNeg) v_g_rains.toInt) (gx : GX v_m_live v_m_passes v_m_passWide v_m_rains v_m_rain) (h : DD v_m_live v_g_cells.toInt v_g_villages.toInt B v_m_cells v_m_room v_n_day v_m_day v_n_water v_n_salt v_n_seen v_n_took v_n_dryDays v_n_firstDry v_n_total v_m_now) : pj (f_X6_balance v_g_cells v_g_passes v_g_rivers v_g_villages v_g_rains v_g_room v_g_passFrom v_g_passTo v_g_passWidth v_g_riverCell v_g_riverLevel v_g_riverWidth v_g_riverSalt v_g_villageCell v_g_need v_g_lawEnd v_g_code v_g_rain v_p_pumpTakes v_p_pumpFrom v_p_pumpTo v_n_day v_n_water v_n_salt v_n_seen v_n_took v_n_dryDays v_n_firstDry v_n_total v_p_pumpCell v_p_wanting v_p_passWidth v_p_riverWidth v_p_rain v_c_pumped v_c_today v_c_lacked v_c_level v_c_water v_c_salt v_c_stack v_d_day v_d_water v_d_salt v_d_seen v_d_took v_d_dryDays v_d_firstDry v_d_total q1 q2) (f_X7_balance v_m_live v_m_day v_m_changedAt v_m_pumpMuch v_m_pumpFrom v_m_pumpTo v_m_cells v_m_room v_m_passes v_m_passOne v_m_passOther v_m_passWide v_m_rivers v_m_riverCell v_m_riverLevel v_m_riverWide v_m_riverSalt v_m_rains v_m_rain v_m_villages v_m_home v_m_need v_m_lawFrom v_m_lawTo v_m_code v_m_codeInt v_m_now v_m_isBroken v_m_rowDay v_m_changed v_m_pumpCell v_m_takenAll v_m_riversAll v_m_variables v_m_pile v_m_row v_m_wants v_m_isOff v_m_wide v_m_rainNow v_m_taken v_m_isDry v_m_wouldLack v_m_more v_m_moreSalt q1 q2) (fun a b => a.1 = b.1) := by
  unfold f_X6_balance f_X7_balance
  have hc12 := y.1.2.1
  rw [G.1] at hc12
  have hc12 : 0 ≤ v_g_cells.toInt ∧ v_g_cells.toInt ≤ 12 := hc12
  have hv6 := y.2.2.2.1
  rw [G.2.2.2.1] at hv6
  have hv6 : 0 ≤ v_g_villages.toInt ∧ v_g_villages.toInt ≤ 6 := hv6
  have ec : (v_g_cells.toNatClampNeg : Int) = v_g_cells.toInt := cl_k hc12.1
  have e0 : (0 : Int32).toInt = 0 := rfl
  have e3 : (3 : Int32).toInt = 3 := rfl
  refine pj_G (j_isD q1) (pj_ss rfl) (fun e1 e2 => ?_)
  refine pj_br (m_in q2 0 3) (fun o ho => ?_)
  rcases ho with ⟨rfl, o1, o2⟩ | ⟨rfl, o1⟩
  · refine pj_ifl (fun k => ?_) (fun _ => pj_ifl (fun _ => pj_ifr (fun k => absurd k (by decide)) (fun _ => ?_)) (fun k => ?_))
    · have := lt_k (k := 0) rfl k
      omega
    · refine pj_b13_10 (pj_and_r (j_try (v_m_changedAt := v_m_changedAt) (v_m_pumpMuch := v_m_pumpMuch) (v_m_pumpFrom := v_m_pumpFrom) (v_m_pumpTo := v_m_pumpTo) (v_p_pumpTakes := v_p_pumpTakes) (v_p_pumpFrom := v_p_pumpFrom) (v_p_pumpTo := v_p_pumpTo) y G a1 a2 a3 gx h) (pa_and (m_gof y.1.1) b_from)) (fun s0 s1 s2 s3 s4 s5 s6 s7 s8 s9 s10 s11 s12 r0 r1 r2 r3 r4 r5 r6 r7 r8 r9 hT => ?_)
      obtain ⟨hT, hg, hf1, hf2⟩ := hT
      obtain ⟨tP, tp, tD, t2, t3, t4, t5⟩ := hT
      have t3' : r2 = -1 := t3
      have hg5 : ∀ j, j < 60 → r5 j = v_m_now j := hg.2.2.2.1
      have hf1 : r3 = 0 := hf1
      have hf2 : r4 = 0 := hf2
      refine pj_br (b_aw G.1 hc12) (fun o6 h6 => ?_)
      refine l_bal hB y hne G fuel fuel _ _ _ _ _ _ _ _ _ _ _ _ _ _ _ _ _ _ _ _ _ _ _ _ _ _ _ _ _ _ _ _ _ _ _ _ _ _ _ _ _ _ _ _ _ (by decide) (by show (0 : Int) ≤ _; omega) (by omega) (by rw [t3']; decide) (fun y y0 y1 => OF_told t2 (fun j hj => (t4 j hj).2) y0 (by omega)) rfl (by rw [hf1]; rfl) ?_ ?_ tp tP ?_
      · rw [h6, S64_eq (g := v_m_now) _ (fun j hj => hg5 j (by omega))]
        exact S64_32 _ (fun j hj => by rw [(h.2.2.1 j (by omega)).1, l_32])
      · rw [hf1, hf2, h6, Int64.add_zero, Int64.add_zero]
      · rw [show B + (0 : Int32).toInt = B from Int.add_zero B]
        exact tD
    · have := ti_nle k
      omega
  · refine pj_ifr (fun _ => ?_) (fun k => absurd rfl k)
    refine pj_ifl (fun _ => pj_ss rfl) (fun k => pj_ifl (fun l => ?_) (fun _ => pj_ss rfl))
    have g1 := nlt_k (k := 0) rfl k
    have g2 := le_k (k := 3) rfl l
    omega
