theorem bd_s {α β : Type} (a : α) (k : α → Option β) : bd (some a) k = k a := rfl
theorem un2_m {A0 A1 γ : Type} (a0 : A0) (a1 : A1) (k : A0 → A1 → Option γ) : un2 (a0, a1) k = k a0 a1 := rfl
theorem un5_m {A0 A1 A2 A3 A4 γ : Type} (a0 : A0) (a1 : A1) (a2 : A2) (a3 : A3) (a4 : A4) (k : A0 → A1 → A2 → A3 → A4 → Option γ) : un5 (a0, a1, a2, a3, a4) k = k a0 a1 a2 a3 a4 := rfl
theorem un10_m {A0 A1 A2 A3 A4 A5 A6 A7 A8 A9 γ : Type} (a0 : A0) (a1 : A1) (a2 : A2) (a3 : A3) (a4 : A4) (a5 : A5) (a6 : A6) (a7 : A7) (a8 : A8) (a9 : A9) (k : A0 → A1 → A2 → A3 → A4 → A5 → A6 → A7 → A8 → A9 → Option γ) : un10 (a0, a1, a2, a3, a4, a5, a6, a7, a8, a9) k = k a0 a1 a2 a3 a4 a5 a6 a7 a8 a9 := rfl
theorem un13_m {A0 A1 A2 A3 A4 A5 A6 A7 A8 A9 A10 A11 A12 γ : Type} (a0 : A0) (a1 : A1) (a2 : A2) (a3 : A3) (a4 : A4) (a5 : A5) (a6 : A6) (a7 : A7) (a8 : A8) (a9 : A9) (a10 : A10) (a11 : A11) (a12 : A12) (k : A0 → A1 → A2 → A3 → A4 → A5 → A6 → A7 → A8 → A9 → A10 → A11 → A12 → Option γ) : un13 (a0, a1, a2, a3, a4, a5, a6, a7, a8, a9, a10, a11, a12) k = k a0 a1 a2 a3 a4 a5 a6 a7 a8 a9 a10 a11 a12 := rfl
theorem fu_400 {N : Nat} (h : N ≤ 400) : N < fuel := by
  unfold fuel
  omega
set_option maxRecDepth 100000 in
set_option maxHeartbeats 400000 in
theorem q1_0 (a1 a2 a3 a4 a5 : Int32) : ∃ o o2, f_X6_feed (0 : Int32) (fun _ => 0) a1 a2 a3 a4 a5 = some o ∧ f_X7_feed 0 (fun _ => 0) a1 a2 a3 a4 a5 = some o2 ∧ o.1 = o2.1 := by
  have g6 : ∃ o, f_X6_feed (0 : Int32) (fun _ => 0) a1 a2 a3 a4 a5 = some o ∧ o.1 = 20 := by
    obtain ⟨t1, h1⟩ := z_a6_0 (fun _ => 0) a1
    obtain ⟨t2, h2⟩ := z_a6_4 t1 a2
    obtain ⟨t3, h3⟩ := z_a6_8 t2 a3
    obtain ⟨t4, h4⟩ := z_a6_12 t3 a4
    obtain ⟨t5, h5⟩ := z_a6_16 t4 a5
    unfold f_X6_feed
    rw [if_pos (by decide)]
    refine ⟨(20, 20, t5), ?_, rfl⟩
    rw [h1, bd_s, un2_m, h2, bd_s, un2_m, h3, bd_s, un2_m, h4, bd_s, un2_m, h5, bd_s, un2_m]
  have g7 : ∃ o, f_X7_feed 0 (fun _ => 0) a1 a2 a3 a4 a5 = some o ∧ o.1 = 20 := by
    obtain ⟨t1, h1⟩ := z_a7_0 (fun _ => 0) a1
    obtain ⟨t2, h2⟩ := z_a7_4 t1 a2
    obtain ⟨t3, h3⟩ := z_a7_8 t2 a3
    obtain ⟨t4, h4⟩ := z_a7_12 t3 a4
    obtain ⟨t5, h5⟩ := z_a7_16 t4 a5
    unfold f_X7_feed
    rw [if_pos (by decide)]
    refine ⟨(20, 20, t5), ?_, rfl⟩
    rw [h1, bd_s, un2_m, h2, bd_s, un2_m, h3, bd_s, un2_m, h4, bd_s, un2_m, h5, bd_s, un2_m]
  obtain ⟨o, ho, e1⟩ := g6
  obtain ⟨o2, ho2, e2⟩ := g7
  exact ⟨o, o2, ho, ho2, e1.trans e2.symm⟩
set_option maxRecDepth 100000 in
set_option maxHeartbeats 400000 in
theorem q1_7 (a1 : Int32) : ∃ o o2, f_X6_run (0 : Int32) (0 : Int32) (0 : Int32) (0 : Int32) (0 : Int32) (fun _ => 0) (fun _ => 0) (fun _ => 0) (fun _ => 0) (fun _ => 0) (fun _ => 0) (fun _ => 0) (fun _ => 0) (fun _ => 0) (fun _ => 0) (fun _ => 0) (fun _ => 0) (fun _ => 0) (0 : Int32) (0 : Int32) (0 : Int32) (-1 : Int32) (fun _ => 0) (fun _ => 0) (fun _ => 0) (fun _ => 0) (0 : Int32) (0 : Int32) (fun _ => 0) (fun _ => 0) (fun _ => 0) (fun _ => 0) (fun _ => 0) o6.2.1 o6.2.2.1 o6.2.2.2.1 o6.2.2.2.2.1 o6.2.2.2.2.2.1 o6.2.2.2.2.2.2.1 o6.2.2.2.2.2.2.2.1 o6.2.2.2.2.2.2.2.2.1 a1 = some o ∧ f_X7_run 0 0 0 0 0 (fun _ => 0) (fun _ => 0) (fun _ => 0) (fun _ => 0) (fun _ => 0) (fun _ => 0) (fun _ => 0) (fun _ => 0) (fun _ => 0) (fun _ => 0) (fun _ => 0) (fun _ => 0) (fun _ => 0) (fun _ => 0) (fun _ => 0) (fun _ => 0) (fun _ => 0) (fun _ => 0) (fun _ => 0) (fun _ => 0) 0 0 0 0 0 0 0 (fun _ => 0) (fun _ => 0) (fun _ => 0) (fun _ => 0) (fun _ => 0) (fun _ => 0) (fun _ => 0) (fun _ => 0) (fun _ => 0) (fun _ => 0) (fun _ => 0) (fun _ => 0) (fun _ => 0) a1 = some o2 ∧ o.1 = o2.1 := by
  by_cases h : a1 < 0
  · refine ex_of ?_
    unfold f_X6_run f_X7_run f_X7_in
    rw [if_pos h, if_pos h]; rfl
  by_cases h2 : a1 ≤ 400
  · obtain ⟨N, hN, rfl⟩ := nI_of2 (n := 400) (M := 400) rfl h h2
    have h6 : ∃ o, f_X6_run (0 : Int32) (0 : Int32) (0 : Int32) (0 : Int32) (0 : Int32) (fun _ => 0) (fun _ => 0) (fun _ => 0) (fun _ => 0) (fun _ => 0) (fun _ => 0) (fun _ => 0) (fun _ => 0) (fun _ => 0) (fun _ => 0) (fun _ => 0) (fun _ => 0) (fun _ => 0) (0 : Int32) (0 : Int32) (0 : Int32) (-1 : Int32) (fun _ => 0) (fun _ => 0) (fun _ => 0) (fun _ => 0) (0 : Int32) (0 : Int32) (fun _ => 0) (fun _ => 0) (fun _ => 0) (fun _ => 0) (fun _ => 0) o6.2.1 o6.2.2.1 o6.2.2.2.1 o6.2.2.2.2.1 o6.2.2.2.2.2.1 o6.2.2.2.2.2.2.1 o6.2.2.2.2.2.2.2.1 o6.2.2.2.2.2.2.2.2.1 (nI N) = some o ∧ o.1 = nI N := by
      unfold f_X6_run
      rw [if_neg h, if_pos h2]
      obtain ⟨⟨t1, t2, t3, t4⟩, ht⟩ := z_g1 (f := f_X4_setAsTold (fun _ => 0) (fun _ => 0) (fun _ => 0) (-1 : Int32) (fun _ => 0) (fun _ => 0) (fun _ => 0) (fun _ => 0)) (by decide +kernel)
      rw [ht, z6_day, bd_s, un5_m]
      exact zl_run60 N fuel (fu_400 hN) _ _ _ _ _ _ _ _ _ _ _ _ _ _ _ _ _ _ hN
    have h7 : ∃ o, f_X7_run 0 0 0 0 0 (fun _ => 0) (fun _ => 0) (fun _ => 0) (fun _ => 0) (fun _ => 0) (fun _ => 0) (fun _ => 0) (fun _ => 0) (fun _ => 0) (fun _ => 0) (fun _ => 0) (fun _ => 0) (fun _ => 0) (fun _ => 0) (fun _ => 0) (fun _ => 0) (fun _ => 0) (fun _ => 0) (fun _ => 0) (fun _ => 0) 0 0 0 0 0 0 0 (fun _ => 0) (fun _ => 0) (fun _ => 0) (fun _ => 0) (fun _ => 0) (fun _ => 0) (fun _ => 0) (fun _ => 0) (fun _ => 0) (fun _ => 0) (fun _ => 0) (fun _ => 0) (fun _ => 0) (nI N) = some o ∧ o.1 = nI N := by
      have hi : f_X7_in (nI N) 0 400 = some 1 := by
        unfold f_X7_in
        rw [if_neg h, if_neg (Int32.not_lt.mpr h2)]
      unfold f_X7_run
      obtain ⟨⟨t5, t6, t7, t8, t9⟩, ht⟩ := z_g10 (f := f_X7_goesFrom 0 0 (fun _ => 0) (fun _ => 0) (fun _ => 0) 0 0 0 0 0 (fun _ => 0) (fun _ => 0) (fun _ => 0) (fun _ => 0) (fun _ => 0)) (by decide +kernel)
      rw [hi, bd_s, if_neg (by decide), ht, bd_s, un10_m]
      exact zl_run70 N fuel (fu_400 hN) _ _ _ _ _ _ _ _ _ _ _ _ _ _ _ _ _ hN
    obtain ⟨o, ho, e1⟩ := h6
    obtain ⟨o2, ho2, e2⟩ := h7
    exact ⟨o, o2, ho, ho2, e1.trans e2.symm⟩
  · refine ex_of ?_
    unfold f_X6_run f_X7_run f_X7_in
    rw [if_neg h, if_neg h2, if_neg h, if_pos (Int32.not_le.mp h2)]; rfl
set_option maxRecDepth 100000 in
set_option maxHeartbeats 400000 in
theorem q1_17 (a1 : Int32) : ∃ o o2, f_X6_firstOf (0 : Int32) (0 : Int32) (0 : Int32) (0 : Int32) (0 : Int32) (fun _ => 0) (fun _ => 0) (fun _ => 0) (fun _ => 0) (fun _ => 0) (fun _ => 0) (fun _ => 0) (fun _ => 0) (fun _ => 0) (fun _ => 0) (fun _ => 0) (fun _ => 0) (fun _ => 0) (0 : Int32) (0 : Int32) (0 : Int32) o6.2.1 o6.2.2.1 o6.2.2.2.1 o6.2.2.2.2.1 o6.2.2.2.2.2.1 o6.2.2.2.2.2.2.1 o6.2.2.2.2.2.2.2.1 o6.2.2.2.2.2.2.2.2.1 (-1 : Int32) (fun _ => 0) (fun _ => 0) (fun _ => 0) (fun _ => 0) (0 : Int32) (0 : Int32) (fun _ => 0) (fun _ => 0) (fun _ => 0) (fun _ => 0) (fun _ => 0) (0 : Int32) (fun _ => 0) (fun _ => 0) (fun _ => 0) (fun _ => 0) (fun _ => 0) (fun _ => 0) (fun _ => 0) a1 = some o ∧ f_X7_firstOf 0 0 0 0 0 0 (fun _ => 0) (fun _ => 0) (fun _ => 0) (fun _ => 0) (fun _ => 0) (fun _ => 0) (fun _ => 0) (fun _ => 0) (fun _ => 0) (fun _ => 0) (fun _ => 0) (fun _ => 0) (fun _ => 0) (fun _ => 0) (fun _ => 0) (fun _ => 0) (fun _ => 0) (fun _ => 0) (fun _ => 0) (fun _ => 0) (fun _ => 0) 0 0 0 0 0 0 (fun _ => 0) (fun _ => 0) (fun _ => 0) (fun _ => 0) (fun _ => 0) (fun _ => 0) (fun _ => 0) (fun _ => 0) (fun _ => 0) (fun _ => 0) (fun _ => 0) (fun _ => 0) a1 = some o2 ∧ o.1 = o2.1 := by
  rcases z_days a1 with ⟨h6, h7⟩ | ⟨h6, h7, N, hN, rfl⟩
  · refine ex_of ?_
    unfold f_X6_firstOf f_X7_firstOf
    rw [h6, h7]; rfl
  have g6 : ∃ o, f_X6_firstOf (0 : Int32) (0 : Int32) (0 : Int32) (0 : Int32) (0 : Int32) (fun _ => 0) (fun _ => 0) (fun _ => 0) (fun _ => 0) (fun _ => 0) (fun _ => 0) (fun _ => 0) (fun _ => 0) (fun _ => 0) (fun _ => 0) (fun _ => 0) (fun _ => 0) (fun _ => 0) (0 : Int32) (0 : Int32) (0 : Int32) o6.2.1 o6.2.2.1 o6.2.2.2.1 o6.2.2.2.2.1 o6.2.2.2.2.2.1 o6.2.2.2.2.2.2.1 o6.2.2.2.2.2.2.2.1 o6.2.2.2.2.2.2.2.2.1 (-1 : Int32) (fun _ => 0) (fun _ => 0) (fun _ => 0) (fun _ => 0) (0 : Int32) (0 : Int32) (fun _ => 0) (fun _ => 0) (fun _ => 0) (fun _ => 0) (fun _ => 0) (0 : Int32) (fun _ => 0) (fun _ => 0) (fun _ => 0) (fun _ => 0) (fun _ => 0) (fun _ => 0) (fun _ => 0) (nI N) = some o ∧ o.1 = -2 := by
    unfold f_X6_firstOf
    obtain ⟨⟨t1, t2, t3, t4, t5, t6, t7, t8, t9, t10, t11, t12⟩, ht⟩ := z_g1 (f := f_X6_tryAsTold (fun _ => 0) (fun _ => 0) (fun _ => 0) o6.2.1 o6.2.2.1 o6.2.2.2.1 o6.2.2.2.2.1 o6.2.2.2.2.2.1 o6.2.2.2.2.2.2.1 o6.2.2.2.2.2.2.2.1 o6.2.2.2.2.2.2.2.2.1 (-1 : Int32) (fun _ => 0) (fun _ => 0) (fun _ => 0) (fun _ => 0) (0 : Int32) (fun _ => 0) (fun _ => 0) (fun _ => 0) (fun _ => 0) (fun _ => 0) (fun _ => 0) (fun _ => 0)) (by decide +kernel)
    rw [h6, bd_s, if_neg (by decide), ht, bd_s, un13_m]
    exact zl_first60 N fuel (fu_400 hN) _ _ _ _ _ _ _ _ _ _ _ _ _ _ _ _ _ _ _ hN
  have g7 : ∃ o, f_X7_firstOf 0 0 0 0 0 0 (fun _ => 0) (fun _ => 0) (fun _ => 0) (fun _ => 0) (fun _ => 0) (fun _ => 0) (fun _ => 0) (fun _ => 0) (fun _ => 0) (fun _ => 0) (fun _ => 0) (fun _ => 0) (fun _ => 0) (fun _ => 0) (fun _ => 0) (fun _ => 0) (fun _ => 0) (fun _ => 0) (fun _ => 0) (fun _ => 0) (fun _ => 0) 0 0 0 0 0 0 (fun _ => 0) (fun _ => 0) (fun _ => 0) (fun _ => 0) (fun _ => 0) (fun _ => 0) (fun _ => 0) (fun _ => 0) (fun _ => 0) (fun _ => 0) (fun _ => 0) (fun _ => 0) (nI N) = some o ∧ o.1 = -2 := by
    unfold f_X7_firstOf
    obtain ⟨⟨t5, t6, t7, t8, t9⟩, ht⟩ := z_g10 (f := f_X7_goesFrom 0 0 (fun _ => 0) (fun _ => 0) (fun _ => 0) 0 0 0 0 0 (fun _ => 0) (fun _ => 0) (fun _ => 0) (fun _ => 0) (fun _ => 0)) (by decide +kernel)
    rw [h7, bd_s, if_neg (by decide), ht, bd_s, un10_m]
    exact zl_first70 N fuel (fu_400 hN) _ _ _ _ _ _ _ _ _ _ _ _ _ _ _ _ hN
  obtain ⟨o, ho, e1⟩ := g6
  obtain ⟨o2, ho2, e2⟩ := g7
  exact ⟨o, o2, ho, ho2, e1.trans e2.symm⟩
set_option maxRecDepth 100000 in
set_option maxHeartbeats 400000 in
theorem q1_20 (a1 a2 : Int32) : ∃ o o2, f_X6_balance (0 : Int32) (0 : Int32) (0 : Int32) (0 : Int32) (0 : Int32) (fun _ => 0) (fun _ => 0) (fun _ => 0) (fun _ => 0) (fun _ => 0) (fun _ => 0) (fun _ => 0) (fun _ => 0) (fun _ => 0) (fun _ => 0) (fun _ => 0) (fun _ => 0) (fun _ => 0) (0 : Int32) (0 : Int32) (0 : Int32) o6.2.1 o6.2.2.1 o6.2.2.2.1 o6.2.2.2.2.1 o6.2.2.2.2.2.1 o6.2.2.2.2.2.2.1 o6.2.2.2.2.2.2.2.1 o6.2.2.2.2.2.2.2.2.1 (-1 : Int32) (fun _ => 0) (fun _ => 0) (fun _ => 0) (fun _ => 0) (0 : Int32) (0 : Int32) (fun _ => 0) (fun _ => 0) (fun _ => 0) (fun _ => 0) (fun _ => 0) (0 : Int32) (fun _ => 0) (fun _ => 0) (fun _ => 0) (fun _ => 0) (fun _ => 0) (fun _ => 0) (fun _ => 0) a1 a2 = some o ∧ f_X7_balance 0 0 0 0 0 0 (fun _ => 0) (fun _ => 0) (fun _ => 0) (fun _ => 0) (fun _ => 0) (fun _ => 0) (fun _ => 0) (fun _ => 0) (fun _ => 0) (fun _ => 0) (fun _ => 0) (fun _ => 0) (fun _ => 0) (fun _ => 0) (fun _ => 0) (fun _ => 0) (fun _ => 0) (fun _ => 0) (fun _ => 0) (fun _ => 0) (fun _ => 0) 0 0 0 0 0 0 (fun _ => 0) (fun _ => 0) (fun _ => 0) (fun _ => 0) (fun _ => 0) (fun _ => 0) (fun _ => 0) (fun _ => 0) (fun _ => 0) (fun _ => 0) (fun _ => 0) (fun _ => 0) a1 a2 = some o2 ∧ o.1 = o2.1 := by
  rcases z_days a1 with ⟨h6, h7⟩ | ⟨h6, h7, N, hN, rfl⟩
  · refine ex_of ?_
    unfold f_X6_balance f_X7_balance
    rw [h6, h7]; rfl
  by_cases w0 : a2 < 0
  · refine ex_of ?_
    have k8 : f_X7_in a2 0 3 = some 0 := by unfold f_X7_in; rw [if_pos w0]
    unfold f_X6_balance f_X7_balance
    rw [h6, h7, k8, if_pos w0]; rfl
  by_cases w1 : a2 ≤ 3
  · have g6 : ∃ o, f_X6_balance (0 : Int32) (0 : Int32) (0 : Int32) (0 : Int32) (0 : Int32) (fun _ => 0) (fun _ => 0) (fun _ => 0) (fun _ => 0) (fun _ => 0) (fun _ => 0) (fun _ => 0) (fun _ => 0) (fun _ => 0) (fun _ => 0) (fun _ => 0) (fun _ => 0) (fun _ => 0) (0 : Int32) (0 : Int32) (0 : Int32) o6.2.1 o6.2.2.1 o6.2.2.2.1 o6.2.2.2.2.1 o6.2.2.2.2.2.1 o6.2.2.2.2.2.2.1 o6.2.2.2.2.2.2.2.1 o6.2.2.2.2.2.2.2.2.1 (-1 : Int32) (fun _ => 0) (fun _ => 0) (fun _ => 0) (fun _ => 0) (0 : Int32) (0 : Int32) (fun _ => 0) (fun _ => 0) (fun _ => 0) (fun _ => 0) (fun _ => 0) (0 : Int32) (fun _ => 0) (fun _ => 0) (fun _ => 0) (fun _ => 0) (fun _ => 0) (fun _ => 0) (fun _ => 0) (nI N) a2 = some o ∧ o.1 = 0 := by
      unfold f_X6_balance
      obtain ⟨⟨t1, t2, t3, t4, t5, t6, t7, t8, t9, t10, t11, t12⟩, ht⟩ := z_g1 (f := f_X6_tryAsTold (fun _ => 0) (fun _ => 0) (fun _ => 0) o6.2.1 o6.2.2.1 o6.2.2.2.1 o6.2.2.2.2.1 o6.2.2.2.2.2.1 o6.2.2.2.2.2.2.1 o6.2.2.2.2.2.2.2.1 o6.2.2.2.2.2.2.2.2.1 (-1 : Int32) (fun _ => 0) (fun _ => 0) (fun _ => 0) (fun _ => 0) (0 : Int32) (fun _ => 0) (fun _ => 0) (fun _ => 0) (fun _ => 0) (fun _ => 0) (fun _ => 0) (fun _ => 0)) (by decide +kernel)
      rw [h6, bd_s, if_neg (by decide), if_neg w0, if_pos w1, ht, bd_s, un13_m]
      exact zl_bal60 N fuel (fu_400 hN) _ _ _ _ _ _ _ _ _ _ _ _ _ _ _ _ _ _ _ _ hN
    have g7 : ∃ o, f_X7_balance 0 0 0 0 0 0 (fun _ => 0) (fun _ => 0) (fun _ => 0) (fun _ => 0) (fun _ => 0) (fun _ => 0) (fun _ => 0) (fun _ => 0) (fun _ => 0) (fun _ => 0) (fun _ => 0) (fun _ => 0) (fun _ => 0) (fun _ => 0) (fun _ => 0) (fun _ => 0) (fun _ => 0) (fun _ => 0) (fun _ => 0) (fun _ => 0) (fun _ => 0) 0 0 0 0 0 0 (fun _ => 0) (fun _ => 0) (fun _ => 0) (fun _ => 0) (fun _ => 0) (fun _ => 0) (fun _ => 0) (fun _ => 0) (fun _ => 0) (fun _ => 0) (fun _ => 0) (fun _ => 0) (nI N) a2 = some o ∧ o.1 = 0 := by
      have hi : f_X7_in a2 0 3 = some 1 := by
        unfold f_X7_in
        rw [if_neg w0, if_neg (Int32.not_lt.mpr w1)]
      unfold f_X7_balance
      obtain ⟨⟨t5, t6, t7, t8, t9⟩, ht⟩ := z_g10 (f := f_X7_goesFrom 0 0 (fun _ => 0) (fun _ => 0) (fun _ => 0) 0 0 0 0 0 (fun _ => 0) (fun _ => 0) (fun _ => 0) (fun _ => 0) (fun _ => 0)) (by decide +kernel)
      rw [h7, bd_s, if_neg (by decide), hi, bd_s, if_neg (by decide), ht, bd_s, un10_m, z_allW7, bd_s]
      exact zl_bal70 N fuel (fu_400 hN) _ _ _ _ _ _ _ _ _ _ _ _ _ _ _ hN
    obtain ⟨o, ho, e1⟩ := g6
    obtain ⟨o2, ho2, e2⟩ := g7
    exact ⟨o, o2, ho, ho2, e1.trans e2.symm⟩
  · refine ex_of ?_
    have k8 : f_X7_in a2 0 3 = some 0 := by unfold f_X7_in; rw [if_neg w0, if_pos (Int32.not_le.mp w1)]
    unfold f_X6_balance f_X7_balance
    rw [h6, h7, k8, if_neg w0, if_neg w1]; rfl
