set_option maxRecDepth 100000 in
set_option maxHeartbeats 4000000 in
theorem q1_0 (a1 a2 a3 a4 a5 : Int32) : ∃ o o2, f_X6_feed (0 : Int32) (fun _ => 0) a1 a2 a3 a4 a5 = some o ∧ f_X7_feed 0 (fun _ => 0) a1 a2 a3 a4 a5 = some o2 ∧ o.1 = o2.1 := by
  have g6 : ∃ o, f_X6_feed (0 : Int32) (fun _ => 0) a1 a2 a3 a4 a5 = some o ∧ o.1 = 20 := by
    obtain ⟨t1, h1⟩ := z_a6_0 (fun _ => 0) a1
    obtain ⟨t2, h2⟩ := z_a6_4 t1 a2
    obtain ⟨t3, h3⟩ := z_a6_8 t2 a3
    obtain ⟨t4, h4⟩ := z_a6_12 t3 a4
    obtain ⟨t5, h5⟩ := z_a6_16 t4 a5
    unfold f_X6_feed
    rw [if_pos (by decide)]
    refine ⟨(20, 20, t5), ?_, rfl⟩
    rw [h1]
    dsimp only [bd, un2]
    rw [h2]
    dsimp only [bd, un2]
    rw [h3]
    dsimp only [bd, un2]
    rw [h4]
    dsimp only [bd, un2]
    rw [h5]
    dsimp only [bd, un2]
  have g7 : ∃ o, f_X7_feed 0 (fun _ => 0) a1 a2 a3 a4 a5 = some o ∧ o.1 = 20 := by
    obtain ⟨t1, h1⟩ := z_a7_0 (fun _ => 0) a1
    obtain ⟨t2, h2⟩ := z_a7_4 t1 a2
    obtain ⟨t3, h3⟩ := z_a7_8 t2 a3
    obtain ⟨t4, h4⟩ := z_a7_12 t3 a4
    obtain ⟨t5, h5⟩ := z_a7_16 t4 a5
    unfold f_X7_feed
    rw [if_pos (by decide)]
    refine ⟨(20, 20, t5), ?_, rfl⟩
    rw [h1]
    dsimp only [bd, un2]
    rw [h2]
    dsimp only [bd, un2]
    rw [h3]
    dsimp only [bd, un2]
    rw [h4]
    dsimp only [bd, un2]
    rw [h5]
    dsimp only [bd, un2]
  obtain ⟨o, ho, e1⟩ := g6
  obtain ⟨o2, ho2, e2⟩ := g7
  exact ⟨o, o2, ho, ho2, e1.trans e2.symm⟩
set_option maxRecDepth 100000 in
set_option maxHeartbeats 4000000 in
theorem q1_7 (a1 : Int32) : ∃ o o2, f_X6_run (0 : Int32) (0 : Int32) (0 : Int32) (0 : Int32) (0 : Int32) (fun _ => 0) (fun _ => 0) (fun _ => 0) (fun _ => 0) (fun _ => 0) (fun _ => 0) (fun _ => 0) (fun _ => 0) (fun _ => 0) (fun _ => 0) (fun _ => 0) (fun _ => 0) (fun _ => 0) (0 : Int32) (0 : Int32) (0 : Int32) (-1 : Int32) (fun _ => 0) (fun _ => 0) (fun _ => 0) (fun _ => 0) (0 : Int32) (0 : Int32) (fun _ => 0) (fun _ => 0) (fun _ => 0) (fun _ => 0) (fun _ => 0) o6.2.1 o6.2.2.1 o6.2.2.2.1 o6.2.2.2.2.1 o6.2.2.2.2.2.1 o6.2.2.2.2.2.2.1 o6.2.2.2.2.2.2.2.1 o6.2.2.2.2.2.2.2.2.1 a1 = some o ∧ f_X7_run 0 0 0 0 0 (fun _ => 0) (fun _ => 0) (fun _ => 0) (fun _ => 0) (fun _ => 0) (fun _ => 0) (fun _ => 0) (fun _ => 0) (fun _ => 0) (fun _ => 0) (fun _ => 0) (fun _ => 0) (fun _ => 0) (fun _ => 0) (fun _ => 0) (fun _ => 0) (fun _ => 0) (fun _ => 0) (fun _ => 0) (fun _ => 0) 0 0 0 0 0 0 0 (fun _ => 0) (fun _ => 0) (fun _ => 0) (fun _ => 0) (fun _ => 0) (fun _ => 0) (fun _ => 0) (fun _ => 0) (fun _ => 0) (fun _ => 0) (fun _ => 0) (fun _ => 0) (fun _ => 0) a1 = some o2 ∧ o.1 = o2.1 := by
  by_cases h : a1 < 0
  · refine ex_of ?_
    unfold f_X6_run f_X7_run f_X7_in
    rw [if_pos h, if_pos h]; rfl
  by_cases h2 : a1 ≤ 400
  · obtain ⟨N, hN, rfl⟩ := nI_of2 (n := 400) (M := 400) rfl h h2
    have h6 : ∃ o, f_X6_run (0 : Int32) (0 : Int32) (0 : Int32) (0 : Int32) (0 : Int32) (fun _ => 0) (fun _ => 0) (fun _ => 0) (fun _ => 0) (fun _ => 0) (fun _ => 0) (fun _ => 0) (fun _ => 0) (fun _ => 0) (fun _ => 0) (fun _ => 0) (fun _ => 0) (fun _ => 0) (0 : Int32) (0 : Int32) (0 : Int32) (-1 : Int32) (fun _ => 0) (fun _ => 0) (fun _ => 0) (fun _ => 0) (0 : Int32) (0 : Int32) (fun _ => 0) (fun _ => 0) (fun _ => 0) (fun _ => 0) (fun _ => 0) o6.2.1 o6.2.2.1 o6.2.2.2.1 o6.2.2.2.2.1 o6.2.2.2.2.2.1 o6.2.2.2.2.2.2.1 o6.2.2.2.2.2.2.2.1 o6.2.2.2.2.2.2.2.2.1 (nI N) = some o ∧ o.1 = nI N := by
      unfold f_X6_run
      rw [if_neg h, if_pos h2]
      obtain ⟨⟨t1, t2, t3, t4⟩, ht⟩ := z_g1 (f := f_X4_setAsTold (fun _ => 0) (fun _ => 0) (fun _ => 0) (-1 : Int32) (fun _ => 0) (fun _ => 0) (fun _ => 0) (fun _ => 0)) (by decide +kernel)
      rw [ht, z6_day]
      dsimp only [bd, un5]
      exact zl_run6 N fuel (Nat.lt_of_le_of_lt hN (by decide)) _ _ _ _ _ _ _ _ _ _ _ _ _ _ _ _ _ _ 0 N (Nat.zero_add N) hN
    have h7 : ∃ o, f_X7_run 0 0 0 0 0 (fun _ => 0) (fun _ => 0) (fun _ => 0) (fun _ => 0) (fun _ => 0) (fun _ => 0) (fun _ => 0) (fun _ => 0) (fun _ => 0) (fun _ => 0) (fun _ => 0) (fun _ => 0) (fun _ => 0) (fun _ => 0) (fun _ => 0) (fun _ => 0) (fun _ => 0) (fun _ => 0) (fun _ => 0) (fun _ => 0) 0 0 0 0 0 0 0 (fun _ => 0) (fun _ => 0) (fun _ => 0) (fun _ => 0) (fun _ => 0) (fun _ => 0) (fun _ => 0) (fun _ => 0) (fun _ => 0) (fun _ => 0) (fun _ => 0) (fun _ => 0) (fun _ => 0) (nI N) = some o ∧ o.1 = nI N := by
      have hi : f_X7_in (nI N) 0 400 = some 1 := by
        unfold f_X7_in
        rw [if_neg h, if_neg (Int32.not_lt.mpr h2)]
      unfold f_X7_run
      rw [hi]
      obtain ⟨⟨t5, t6, t7, t8, t9⟩, ht⟩ := z_g10 (f := f_X7_goesFrom 0 0 (fun _ => 0) (fun _ => 0) (fun _ => 0) 0 0 0 0 0 (fun _ => 0) (fun _ => 0) (fun _ => 0) (fun _ => 0) (fun _ => 0)) (by decide +kernel)
      dsimp only [bd]
      rw [if_neg (by decide), ht]
      dsimp only [bd, un10]
      exact zl_run7 N fuel (Nat.lt_of_le_of_lt hN (by decide)) _ _ _ _ _ _ _ _ _ _ _ _ _ _ _ _ _ 0 N (Nat.zero_add N) hN
    obtain ⟨o, ho, e1⟩ := h6
    obtain ⟨o2, ho2, e2⟩ := h7
    exact ⟨o, o2, ho, ho2, e1.trans e2.symm⟩
  · refine ex_of ?_
    unfold f_X6_run f_X7_run f_X7_in
    rw [if_neg h, if_neg h2, if_neg h, if_pos (Int32.not_le.mp h2)]; rfl
set_option maxRecDepth 100000 in
set_option maxHeartbeats 4000000 in
theorem q1_17 (a1 : Int32) : ∃ o o2, f_X6_firstOf (0 : Int32) (0 : Int32) (0 : Int32) (0 : Int32) (0 : Int32) (fun _ => 0) (fun _ => 0) (fun _ => 0) (fun _ => 0) (fun _ => 0) (fun _ => 0) (fun _ => 0) (fun _ => 0) (fun _ => 0) (fun _ => 0) (fun _ => 0) (fun _ => 0) (fun _ => 0) (0 : Int32) (0 : Int32) (0 : Int32) o6.2.1 o6.2.2.1 o6.2.2.2.1 o6.2.2.2.2.1 o6.2.2.2.2.2.1 o6.2.2.2.2.2.2.1 o6.2.2.2.2.2.2.2.1 o6.2.2.2.2.2.2.2.2.1 (-1 : Int32) (fun _ => 0) (fun _ => 0) (fun _ => 0) (fun _ => 0) (0 : Int32) (0 : Int32) (fun _ => 0) (fun _ => 0) (fun _ => 0) (fun _ => 0) (fun _ => 0) (0 : Int32) (fun _ => 0) (fun _ => 0) (fun _ => 0) (fun _ => 0) (fun _ => 0) (fun _ => 0) (fun _ => 0) a1 = some o ∧ f_X7_firstOf 0 0 0 0 0 0 (fun _ => 0) (fun _ => 0) (fun _ => 0) (fun _ => 0) (fun _ => 0) (fun _ => 0) (fun _ => 0) (fun _ => 0) (fun _ => 0) (fun _ => 0) (fun _ => 0) (fun _ => 0) (fun _ => 0) (fun _ => 0) (fun _ => 0) (fun _ => 0) (fun _ => 0) (fun _ => 0) (fun _ => 0) (fun _ => 0) (fun _ => 0) 0 0 0 0 0 0 (fun _ => 0) (fun _ => 0) (fun _ => 0) (fun _ => 0) (fun _ => 0) (fun _ => 0) (fun _ => 0) (fun _ => 0) (fun _ => 0) (fun _ => 0) (fun _ => 0) (fun _ => 0) a1 = some o2 ∧ o.1 = o2.1 := by
  rcases z_days a1 with ⟨h6, h7⟩ | ⟨h6, h7, N, hN, rfl⟩
  · refine ex_of ?_
    unfold f_X6_firstOf f_X7_firstOf
    rw [h6, h7]; rfl
  have g6 : ∃ o, f_X6_firstOf (0 : Int32) (0 : Int32) (0 : Int32) (0 : Int32) (0 : Int32) (fun _ => 0) (fun _ => 0) (fun _ => 0) (fun _ => 0) (fun _ => 0) (fun _ => 0) (fun _ => 0) (fun _ => 0) (fun _ => 0) (fun _ => 0) (fun _ => 0) (fun _ => 0) (fun _ => 0) (0 : Int32) (0 : Int32) (0 : Int32) o6.2.1 o6.2.2.1 o6.2.2.2.1 o6.2.2.2.2.1 o6.2.2.2.2.2.1 o6.2.2.2.2.2.2.1 o6.2.2.2.2.2.2.2.1 o6.2.2.2.2.2.2.2.2.1 (-1 : Int32) (fun _ => 0) (fun _ => 0) (fun _ => 0) (fun _ => 0) (0 : Int32) (0 : Int32) (fun _ => 0) (fun _ => 0) (fun _ => 0) (fun _ => 0) (fun _ => 0) (0 : Int32) (fun _ => 0) (fun _ => 0) (fun _ => 0) (fun _ => 0) (fun _ => 0) (fun _ => 0) (fun _ => 0) (nI N) = some o ∧ o.1 = -2 := by
    unfold f_X6_firstOf
    rw [h6]
    obtain ⟨⟨t1, t2, t3, t4, t5, t6, t7, t8, t9, t10, t11, t12⟩, ht⟩ := z_g1 (f := f_X6_tryAsTold (fun _ => 0) (fun _ => 0) (fun _ => 0) o6.2.1 o6.2.2.1 o6.2.2.2.1 o6.2.2.2.2.1 o6.2.2.2.2.2.1 o6.2.2.2.2.2.2.1 o6.2.2.2.2.2.2.2.1 o6.2.2.2.2.2.2.2.2.1 (-1 : Int32) (fun _ => 0) (fun _ => 0) (fun _ => 0) (fun _ => 0) (0 : Int32) (fun _ => 0) (fun _ => 0) (fun _ => 0) (fun _ => 0) (fun _ => 0) (fun _ => 0) (fun _ => 0)) (by decide +kernel)
    dsimp only [bd]
    rw [if_neg (by decide), ht]
    dsimp only [bd, un13]
    exact zl_first6 N fuel (Nat.lt_of_le_of_lt hN (by decide)) _ _ _ _ _ _ _ _ _ _ _ _ _ _ _ _ _ _ _ 0 N (Nat.zero_add N) hN
  have g7 : ∃ o, f_X7_firstOf 0 0 0 0 0 0 (fun _ => 0) (fun _ => 0) (fun _ => 0) (fun _ => 0) (fun _ => 0) (fun _ => 0) (fun _ => 0) (fun _ => 0) (fun _ => 0) (fun _ => 0) (fun _ => 0) (fun _ => 0) (fun _ => 0) (fun _ => 0) (fun _ => 0) (fun _ => 0) (fun _ => 0) (fun _ => 0) (fun _ => 0) (fun _ => 0) (fun _ => 0) 0 0 0 0 0 0 (fun _ => 0) (fun _ => 0) (fun _ => 0) (fun _ => 0) (fun _ => 0) (fun _ => 0) (fun _ => 0) (fun _ => 0) (fun _ => 0) (fun _ => 0) (fun _ => 0) (fun _ => 0) (nI N) = some o ∧ o.1 = -2 := by
    unfold f_X7_firstOf
    rw [h7]
    obtain ⟨⟨t5, t6, t7, t8, t9⟩, ht⟩ := z_g10 (f := f_X7_goesFrom 0 0 (fun _ => 0) (fun _ => 0) (fun _ => 0) 0 0 0 0 0 (fun _ => 0) (fun _ => 0) (fun _ => 0) (fun _ => 0) (fun _ => 0)) (by decide +kernel)
    dsimp only [bd]
    rw [if_neg (by decide), ht]
    dsimp only [bd, un10]
    exact zl_first7 N fuel (Nat.lt_of_le_of_lt hN (by decide)) _ _ _ _ _ _ _ _ _ _ _ _ _ _ _ _ 0 N (Nat.zero_add N) hN
  obtain ⟨o, ho, e1⟩ := g6
  obtain ⟨o2, ho2, e2⟩ := g7
  exact ⟨o, o2, ho, ho2, e1.trans e2.symm⟩
set_option maxRecDepth 100000 in
set_option maxHeartbeats 4000000 in
theorem q1_20 (a1 a2 : Int32) : ∃ o o2, f_X6_balance (0 : Int32) (0 : Int32) (0 : Int32) (0 : Int32) (0 : Int32) (fun _ => 0) (fun _ => 0) (fun _ => 0) (fun _ => 0) (fun _ => 0) (fun _ => 0) (fun _ => 0) (fun _ => 0) (fun _ => 0) (fun _ => 0) (fun _ => 0) (fun _ => 0) (fun _ => 0) (0 : Int32) (0 : Int32) (0 : Int32) o6.2.1 o6.2.2.1 o6.2.2.2.1 o6.2.2.2.2.1 o6.2.2.2.2.2.1 o6.2.2.2.2.2.2.1 o6.2.2.2.2.2.2.2.1 o6.2.2.2.2.2.2.2.2.1 (-1 : Int32) (fun _ => 0) (fun _ => 0) (fun _ => 0) (fun _ => 0) (0 : Int32) (0 : Int32) (fun _ => 0) (fun _ => 0) (fun _ => 0) (fun _ => 0) (fun _ => 0) (0 : Int32) (fun _ => 0) (fun _ => 0) (fun _ => 0) (fun _ => 0) (fun _ => 0) (fun _ => 0) (fun _ => 0) a1 a2 = some o ∧ f_X7_balance 0 0 0 0 0 0 (fun _ => 0) (fun _ => 0) (fun _ => 0) (fun _ => 0) (fun _ => 0) (fun _ => 0) (fun _ => 0) (fun _ => 0) (fun _ => 0) (fun _ => 0) (fun _ => 0) (fun _ => 0) (fun _ => 0) (fun _ => 0) (fun _ => 0) (fun _ => 0) (fun _ => 0) (fun _ => 0) (fun _ => 0) (fun _ => 0) (fun _ => 0) 0 0 0 0 0 0 (fun _ => 0) (fun _ => 0) (fun _ => 0) (fun _ => 0) (fun _ => 0) (fun _ => 0) (fun _ => 0) (fun _ => 0) (fun _ => 0) (fun _ => 0) (fun _ => 0) (fun _ => 0) a1 a2 = some o2 ∧ o.1 = o2.1 := by
  rcases z_days a1 with ⟨h6, h7⟩ | ⟨h6, h7, N, hN, rfl⟩
  · refine ex_of ?_
    unfold f_X6_balance f_X7_balance
    rw [h6, h7]; rfl
  by_cases w0 : a2 < 0
  · refine ex_of ?_
    have k8 : f_X7_in a2 0 3 = some 0 := by unfold f_X7_in; rw [if_pos w0]
    unfold f_X6_balance f_X7_balance
    rw [h6, h7, k8, if_pos w0]; rfl
  by_cases w1 : a2 ≤ 3
  · have g6 : ∃ o, f_X6_balance (0 : Int32) (0 : Int32) (0 : Int32) (0 : Int32) (0 : Int32) (fun _ => 0) (fun _ => 0) (fun _ => 0) (fun _ => 0) (fun _ => 0) (fun _ => 0) (fun _ => 0) (fun _ => 0) (fun _ => 0) (fun _ => 0) (fun _ => 0) (fun _ => 0) (fun _ => 0) (0 : Int32) (0 : Int32) (0 : Int32) o6.2.1 o6.2.2.1 o6.2.2.2.1 o6.2.2.2.2.1 o6.2.2.2.2.2.1 o6.2.2.2.2.2.2.1 o6.2.2.2.2.2.2.2.1 o6.2.2.2.2.2.2.2.2.1 (-1 : Int32) (fun _ => 0) (fun _ => 0) (fun _ => 0) (fun _ => 0) (0 : Int32) (0 : Int32) (fun _ => 0) (fun _ => 0) (fun _ => 0) (fun _ => 0) (fun _ => 0) (0 : Int32) (fun _ => 0) (fun _ => 0) (fun _ => 0) (fun _ => 0) (fun _ => 0) (fun _ => 0) (fun _ => 0) (nI N) a2 = some o ∧ o.1 = 0 := by
      unfold f_X6_balance
      rw [h6]
      obtain ⟨⟨t1, t2, t3, t4, t5, t6, t7, t8, t9, t10, t11, t12⟩, ht⟩ := z_g1 (f := f_X6_tryAsTold (fun _ => 0) (fun _ => 0) (fun _ => 0) o6.2.1 o6.2.2.1 o6.2.2.2.1 o6.2.2.2.2.1 o6.2.2.2.2.2.1 o6.2.2.2.2.2.2.1 o6.2.2.2.2.2.2.2.1 o6.2.2.2.2.2.2.2.2.1 (-1 : Int32) (fun _ => 0) (fun _ => 0) (fun _ => 0) (fun _ => 0) (0 : Int32) (fun _ => 0) (fun _ => 0) (fun _ => 0) (fun _ => 0) (fun _ => 0) (fun _ => 0) (fun _ => 0)) (by decide +kernel)
      dsimp only [bd]
      rw [if_neg (by decide), if_neg w0, if_pos w1, ht]
      dsimp only [bd, un13]
      exact zl_bal6 N fuel (Nat.lt_of_le_of_lt hN (by decide)) _ _ _ _ _ _ _ _ _ _ _ _ _ _ _ _ _ _ _ _ 0 N (Nat.zero_add N) hN
    have g7 : ∃ o, f_X7_balance 0 0 0 0 0 0 (fun _ => 0) (fun _ => 0) (fun _ => 0) (fun _ => 0) (fun _ => 0) (fun _ => 0) (fun _ => 0) (fun _ => 0) (fun _ => 0) (fun _ => 0) (fun _ => 0) (fun _ => 0) (fun _ => 0) (fun _ => 0) (fun _ => 0) (fun _ => 0) (fun _ => 0) (fun _ => 0) (fun _ => 0) (fun _ => 0) (fun _ => 0) 0 0 0 0 0 0 (fun _ => 0) (fun _ => 0) (fun _ => 0) (fun _ => 0) (fun _ => 0) (fun _ => 0) (fun _ => 0) (fun _ => 0) (fun _ => 0) (fun _ => 0) (fun _ => 0) (fun _ => 0) (nI N) a2 = some o ∧ o.1 = 0 := by
      have hi : f_X7_in a2 0 3 = some 1 := by
        unfold f_X7_in
        rw [if_neg w0, if_neg (Int32.not_lt.mpr w1)]
      unfold f_X7_balance
      rw [h7, hi]
      obtain ⟨⟨t5, t6, t7, t8, t9⟩, ht⟩ := z_g10 (f := f_X7_goesFrom 0 0 (fun _ => 0) (fun _ => 0) (fun _ => 0) 0 0 0 0 0 (fun _ => 0) (fun _ => 0) (fun _ => 0) (fun _ => 0) (fun _ => 0)) (by decide +kernel)
      dsimp only [bd]
      rw [if_neg (by decide), if_neg (by decide), ht]
      dsimp only [bd, un10]
      rw [z_allW7]
      dsimp only [bd]
      exact zl_bal7 N fuel (Nat.lt_of_le_of_lt hN (by decide)) _ _ _ _ _ _ _ _ _ _ _ _ _ _ _ 0 N (Nat.zero_add N) hN
    obtain ⟨o, ho, e1⟩ := g6
    obtain ⟨o2, ho2, e2⟩ := g7
    exact ⟨o, o2, ho, ho2, e1.trans e2.symm⟩
  · refine ex_of ?_
    have k8 : f_X7_in a2 0 3 = some 0 := by unfold f_X7_in; rw [if_neg w0, if_pos (Int32.not_le.mp w1)]
    unfold f_X6_balance f_X7_balance
    rw [h6, h7, k8, if_neg w0, if_neg w1]; rfl
