/-! hold's answer, by the slot alone -/
def HB (q r : Int32) : Prop := (0 ≤ q.toInt ∧ q.toInt ≤ 2 ∧ r = 1) ∨ ((q.toInt < 0 ∨ 2 < q.toInt) ∧ r = 0)
theorem HB_fn {q r r' : Int32} (h : HB q r) (g : HB q r') : r = r' := by
  rcases h with ⟨h1, h2, h3⟩ | ⟨h1, h2⟩ <;> rcases g with ⟨g1, g2, g3⟩ | ⟨g1, g2⟩
  · rw [h3, g3]
  · omega
  · omega
  · rw [h2, g2]
theorem in_HB (q0 : Int32) : ok (f_X7_in q0 0 2) (fun o => HB q0 o) := by
  unfold f_X7_in
  refine ok_if (fun c => ok_some (Or.inr ⟨Or.inl (lt_k (k := 0) rfl c), rfl⟩)) (fun c => ok_if (fun d => ok_some (Or.inr ⟨Or.inr (k_lt (k := 2) rfl d), rfl⟩)) (fun d => ok_some (Or.inl ⟨nlt_k (k := 0) rfl c, k_nlt (k := 2) rfl d, rfl⟩)))
theorem y_X7_hold (day : Int32) (now : Nat → Int64) (held : Nat → Int64) (hd ih : Nat → Int32) (q1 : Int32) : ok (f_X7_hold day now held hd ih q1) (fun o => HB q1 o.1) := by
  unfold f_X7_hold
  refine ok_bd (in_HB q1) (fun o1 h1 => ok_if (fun c => ok_some ?_) (fun c => ?_))
  · rcases h1 with ⟨_, _, h⟩ | h
    · rw [h] at c; exact absurd c (by decide)
    · exact Or.inr ⟨h.1, rfl⟩
  · rcases h1 with ⟨a, b, h⟩ | h
    · have iq := inb_k (x := q1) (n := 3) a (by omega)
      have e0 : (0 : Int32).toInt = 0 := rfl
      have lp : ∀ (n : Nat) (held : Nat → Int64) (hd ih : Nat → Int32) (x2 : Int32), 0 ≤ x2.toInt → x2.toInt ≤ 60 → (60 - x2.toInt).toNat < n → ok (f_X7_hold_b30 now n held hd ih q1 x2) (fun o => o.1 = 1) := by
        intro n
        induction n with
        | zero => intro held hd ih x2 _ _ h; exact absurd h (Nat.not_lt_zero _)
        | succ n ih' =>
          intro held hd ih x2 h0 h1 hn
          show ok (f_X7_hold_b30_st (f_X7_hold_b30 now n) now held hd ih q1 x2) _
          unfold f_X7_hold_b30_st
          refine ok_if (fun c => ok_some rfl) (fun c => ?_)
          have c2 := k_nle (k := 60) rfl c
          have t1 := add_k (x := x2) (v := 1) (k := 1) rfl (by omega) (by omega)
          have i2 := ix60 (x := q1) a (by omega) h0 c2
          exact ok_ck (inb_k h0 (by omega)) (ok_ck (inb_k (by omega) (by omega)) (ok_nm (fun a4 _ => ih' a4 hd ih (x2 + 1) (by omega) (by omega) (by omega))))
      refine ok_ck iq (ok_nm (fun a4 _ => ok_ck iq (ok_nm (fun a6 _ => ?_))))
      exact ok_w (lp fuel held a6 a4 0 (by omega) (by omega) (by unfold fuel; omega)) (fun o ho => Or.inl ⟨a, b, ho⟩)
    · exact absurd h.2 c
theorem sl_HB (q1 : Int32) : ok (f_X6_isSlot q1) (fun o => HB q1 o) := by
  unfold f_X6_isSlot
  refine ok_if (fun c => ok_some (Or.inr ⟨Or.inl (lt_k (k := 0) rfl c), rfl⟩)) (fun c => ok_if (fun d => ok_some (Or.inr ⟨Or.inr ?_, rfl⟩)) (fun d => ok_some (Or.inl ⟨nlt_k (k := 0) rfl c, ?_, rfl⟩)))
  · have d2 := k_le (k := 3) rfl d
    omega
  · have d2 := k_nle (k := 3) rfl d
    omega
theorem x_X6_hold (v_n_day : Int32) (v_n_water : Nat → Int32) (v_n_salt : Nat → Int64) (v_n_seen : Nat → Int32) (v_n_took : Nat → Int32) (v_n_dryDays : Nat → Int32) (v_n_firstDry : Nat → Int32) (v_n_total : Nat → Int32) (v_w_held : Nat → Int32) (v_s0_day : Int32) (v_s0_water : Nat → Int32) (v_s0_salt : Nat → Int64) (v_s0_seen : Nat → Int32) (v_s0_took : Nat → Int32) (v_s0_dryDays : Nat → Int32) (v_s0_firstDry : Nat → Int32) (v_s0_total : Nat → Int32) (v_s1_day : Int32) (v_s1_water : Nat → Int32) (v_s1_salt : Nat → Int64) (v_s1_seen : Nat → Int32) (v_s1_took : Nat → Int32) (v_s1_dryDays : Nat → Int32) (v_s1_firstDry : Nat → Int32) (v_s1_total : Nat → Int32) (v_s2_day : Int32) (v_s2_water : Nat → Int32) (v_s2_salt : Nat → Int64) (v_s2_seen : Nat → Int32) (v_s2_took : Nat → Int32) (v_s2_dryDays : Nat → Int32) (v_s2_firstDry : Nat → Int32) (v_s2_total : Nat → Int32) (q1 : Int32) : ok (f_X6_hold v_n_day v_n_water v_n_salt v_n_seen v_n_took v_n_dryDays v_n_firstDry v_n_total v_w_held v_s0_day v_s0_water v_s0_salt v_s0_seen v_s0_took v_s0_dryDays v_s0_firstDry v_s0_total v_s1_day v_s1_water v_s1_salt v_s1_seen v_s1_took v_s1_dryDays v_s1_firstDry v_s1_total v_s2_day v_s2_water v_s2_salt v_s2_seen v_s2_took v_s2_dryDays v_s2_firstDry v_s2_total q1) (fun o => HB q1 o.1) := by
  unfold f_X6_hold
  refine ok_bd (sl_HB q1) (fun o1 h1 => ok_if (fun c => ok_some ?_) (fun c => ?_))
  · rcases h1 with ⟨_, _, h⟩ | h
    · rw [h] at c; exact absurd c (by decide)
    · exact Or.inr ⟨h.1, rfl⟩
  · rcases h1 with ⟨a, b, h⟩ | h
    · have iq := inb_k (x := q1) (n := 3) a (by omega)
      refine ok_ck iq (ok_if (fun _ => ok_bd8 (s_X1_become _ _ _ _ _ _ _ _ _ _ _ _ _ _ _ _) (fun u0 u1 u2 u3 u4 u5 u6 u7 _ => ok_ck iq (ok_nm (fun _ _ => ok_some (Or.inl ⟨a, b, rfl⟩))))) (fun n0 => ok_if (fun _ => ok_bd8 (s_X1_become _ _ _ _ _ _ _ _ _ _ _ _ _ _ _ _) (fun u0 u1 u2 u3 u4 u5 u6 u7 _ => ok_ck iq (ok_nm (fun _ _ => ok_some (Or.inl ⟨a, b, rfl⟩))))) (fun n1 => ok_if (fun _ => ok_bd8 (s_X1_become _ _ _ _ _ _ _ _ _ _ _ _ _ _ _ _) (fun u0 u1 u2 u3 u4 u5 u6 u7 _ => ok_ck iq (ok_nm (fun _ _ => ok_some (Or.inl ⟨a, b, rfl⟩))))) (fun n2 => ?_))))
      have m0 := z_ne (k := 0) rfl n0
      have m1 := z_ne (k := 1) rfl n1
      have m2 := z_ne (k := 2) rfl n2
      omega
    · exact absurd h.2 c
