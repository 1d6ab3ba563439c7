/-! the class's tokens -/
def bK (o : Int32) (p : Bool) : Prop := (o = 0 → p = false) ∧ (¬ o = 0 → p = true)
theorem bK_1 {p : Bool} (h : p = true) : bK 1 p := ⟨fun z => absurd z (by decide), fun _ => h⟩
theorem bK_0 {p : Bool} (h : p = false) : bK 0 p := ⟨fun _ => h, fun z => absurd rfl z⟩
theorem bK_L {q : Int32} {o : Int32} (h : (q.toInt < 97 ∧ o = 0) ∨ (122 < q.toInt ∧ o = 0) ∨ (97 ≤ q.toInt ∧ q.toInt ≤ 122 ∧ o = 1)) : bK o (lx_L q.toInt) := by
  rcases h with ⟨a, rfl⟩ | ⟨a, rfl⟩ | ⟨a, c, rfl⟩
  · exact bK_0 (decide_eq_false (by omega))
  · exact bK_0 (decide_eq_false (by omega))
  · exact bK_1 (decide_eq_true ⟨a, c⟩)
theorem bK_D {q : Int32} {o : Int32} (h : (q.toInt < 48 ∧ o = 0) ∨ (57 < q.toInt ∧ o = 0) ∨ (48 ≤ q.toInt ∧ q.toInt ≤ 57 ∧ o = 1)) : bK o (lx_D q.toInt) := by
  rcases h with ⟨a, rfl⟩ | ⟨a, rfl⟩ | ⟨a, c, rfl⟩
  · exact bK_0 (decide_eq_false (by omega))
  · exact bK_0 (decide_eq_false (by omega))
  · exact bK_1 (decide_eq_true ⟨a, c⟩)
theorem l_X5_isLetter (q : Int32) : pa (f_X5_isLetter q) (fun o => bK o (lx_L q.toInt)) := by
  unfold f_X5_isLetter
  exact pa_if (fun c => pa_some (bK_L (Or.inl ⟨lt_k (k := 97) rfl c, rfl⟩))) (fun c => pa_if (fun d => pa_some (bK_L (Or.inr (Or.inl ⟨k_lt (k := 122) rfl d, rfl⟩)))) (fun d => pa_some (bK_L (Or.inr (Or.inr ⟨nlt_k (k := 97) rfl c, k_nlt (k := 122) rfl d, rfl⟩)))))
theorem l_X5_isDigit (q : Int32) : pa (f_X5_isDigit q) (fun o => bK o (lx_D q.toInt)) := by
  unfold f_X5_isDigit
  exact pa_if (fun c => pa_some (bK_D (Or.inl ⟨lt_k (k := 48) rfl c, rfl⟩))) (fun c => pa_if (fun d => pa_some (bK_D (Or.inr (Or.inl ⟨k_lt (k := 57) rfl d, rfl⟩)))) (fun d => pa_some (bK_D (Or.inr (Or.inr ⟨nlt_k (k := 48) rfl c, k_nlt (k := 57) rfl d, rfl⟩)))))
theorem l_X5_isBlank (q : Int32) : pa (f_X5_isBlank q) (fun o => bK o (lx_K q.toInt)) := by
  unfold f_X5_isBlank
  refine pa_if (fun c => pa_some (bK_1 (decide_eq_true (Or.inl (z_eq (k := 9) rfl c))))) (fun c1 => ?_)
  refine pa_if (fun c => pa_some (bK_1 (decide_eq_true (Or.inr (Or.inl (z_eq (k := 10) rfl c)))))) (fun c2 => ?_)
  refine pa_if (fun c => pa_some (bK_1 (decide_eq_true (Or.inr (Or.inr (Or.inl (z_eq (k := 13) rfl c))))))) (fun c3 => ?_)
  refine pa_if (fun c => pa_some (bK_1 (decide_eq_true (Or.inr (Or.inr (Or.inr (z_eq (k := 32) rfl c))))))) (fun c4 => ?_)
  have d1 := z_ne (k := 9) rfl c1
  have d2 := z_ne (k := 10) rfl c2
  have d3 := z_ne (k := 13) rfl c3
  have d4 := z_ne (k := 32) rfl c4
  exact pa_some (bK_0 (decide_eq_false (by omega)))
theorem l_sg : ∀ k : Fin 128, (match f_X5_isSign (Int32.ofNat k.val) with | some o => decide ((o = 0 ∧ ¬ (k.val = 59 ∨ k.val = 61 ∨ k.val = 43 ∨ k.val = 45 ∨ k.val = 42 ∨ k.val = 47 ∨ k.val = 40 ∨ k.val = 41)) ∨ (o = 1 ∧ (k.val = 59 ∨ k.val = 61 ∨ k.val = 43 ∨ k.val = 45 ∨ k.val = 42 ∨ k.val = 47 ∨ k.val = 40 ∨ k.val = 41))) | none => false) = true := by decide +kernel
theorem l_X5_isSign (q0 : Int32) (u : rg q0 (-128) 127) : pa (f_X5_isSign q0) (fun o => (o = 0 → ¬ SG q0.toInt) ∧ (¬ o = 0 → SG q0.toInt)) := by
  by_cases h : q0.toInt ≤ 0
  · unfold f_X5_isSign
    rw [if_pos (Int32.le_iff_toInt_le.mpr h)]
    exact pa_some ⟨fun _ => by unfold SG; omega, fun z => absurd rfl z⟩
  · have hu := u.2
    obtain ⟨m, hm⟩ : ∃ m : Nat, (m : Int) = q0.toInt := ⟨q0.toInt.toNat, by omega⟩
    have e : q0 = Int32.ofNat m := by
      apply Int32.toInt_inj.mp
      rw [Int32.toInt_ofNat_of_lt (by omega)]
      exact hm.symm
    have k := l_sg ⟨m, by omega⟩
    rw [show (⟨m, by omega⟩ : Fin 128).val = m from rfl, ← e] at k
    rw [← hm]
    cases hf : f_X5_isSign q0 with
    | none => exact pa_none
    | some o =>
      rw [hf] at k
      refine pa_some ?_
      unfold SG
      rcases of_decide_eq_true k with ⟨rfl, g⟩ | ⟨rfl, g⟩
      · exact ⟨fun _ => by omega, fun z => absurd rfl z⟩
      · exact ⟨fun z => absurd z (by decide), fun _ => by omega⟩
theorem l_pack : ∀ j : Fin 11, f_X5_pack (j.val + 1) = some (Int64.ofInt (NL 32 (lx_w j.val))) := by decide +kernel
theorem l_p32 : ∀ j : Fin 11, (Int64.ofInt (NL 32 (lx_w j.val))).toInt = NL 32 (lx_w j.val) := by decide +kernel
theorem l_key {v : Int64} {l : List Int} (hl : LD l) (hv : v.toInt = NL 32 l) (j : Fin 11) : pa (f_X5_pack (j.val + 1)) (fun c => v = c ↔ l = lx_w j.val) := by
  rw [l_pack j]
  refine pa_some ⟨fun e => ?_, fun e => ?_⟩
  · exact RL_inj (b := 32) (by decide) l (lx_w j.val) hl (lx_w_LD j) (by rw [← hv, e, l_p32 j])
  · exact Int64.toInt_inj.mp (by rw [hv, l_p32 j, e])
theorem l_X5_wordOrName {v : Int64} {l : List Int} (hl : LD l) (hv : v.toInt = NL 32 l) : pa (f_X5_wordOrName v) (fun o => WK l 5 o) := by
  unfold f_X5_wordOrName
  refine pa_bd (l_key hl hv 0) (fun o0 h0 => pa_if (fun c => pa_some (Or.inl ⟨0, by decide, h0.mp ((lg_cmp_eq _ _).mp c), by decide⟩)) (fun c0 => ?_))
  have n0 : ¬ l = lx_w 0 := fun q => c0 ((lg_cmp_eq _ _).mpr (h0.mpr q))
  refine pa_bd (l_key hl hv 1) (fun o1 h1 => pa_if (fun c => pa_some (Or.inl ⟨1, by decide, h1.mp ((lg_cmp_eq _ _).mp c), by decide⟩)) (fun c1 => ?_))
  have n1 : ¬ l = lx_w 1 := fun q => c1 ((lg_cmp_eq _ _).mpr (h1.mpr q))
  refine pa_bd (l_key hl hv 2) (fun o2 h2 => pa_if (fun c => pa_some (Or.inl ⟨2, by decide, h2.mp ((lg_cmp_eq _ _).mp c), by decide⟩)) (fun c2 => ?_))
  have n2 : ¬ l = lx_w 2 := fun q => c2 ((lg_cmp_eq _ _).mpr (h2.mpr q))
  refine pa_bd (l_key hl hv 3) (fun o3 h3 => pa_if (fun c => pa_some (Or.inl ⟨3, by decide, h3.mp ((lg_cmp_eq _ _).mp c), by decide⟩)) (fun c3 => ?_))
  have n3 : ¬ l = lx_w 3 := fun q => c3 ((lg_cmp_eq _ _).mpr (h3.mpr q))
  refine pa_bd (l_key hl hv 4) (fun o4 h4 => pa_if (fun c => pa_some (Or.inl ⟨4, by decide, h4.mp ((lg_cmp_eq _ _).mp c), by decide⟩)) (fun c4 => ?_))
  have n4 : ¬ l = lx_w 4 := fun q => c4 ((lg_cmp_eq _ _).mpr (h4.mpr q))
  refine pa_bd (l_key hl hv 5) (fun o5 h5 => pa_if (fun c => pa_some (Or.inl ⟨5, by decide, h5.mp ((lg_cmp_eq _ _).mp c), by decide⟩)) (fun c5 => ?_))
  have n5 : ¬ l = lx_w 5 := fun q => c5 ((lg_cmp_eq _ _).mpr (h5.mpr q))
  refine pa_bd (l_key hl hv 6) (fun o6 h6 => pa_if (fun c => pa_some (Or.inl ⟨6, by decide, h6.mp ((lg_cmp_eq _ _).mp c), by decide⟩)) (fun c6 => ?_))
  have n6 : ¬ l = lx_w 6 := fun q => c6 ((lg_cmp_eq _ _).mpr (h6.mpr q))
  refine pa_bd (l_key hl hv 7) (fun o7 h7 => pa_if (fun c => pa_some (Or.inl ⟨7, by decide, h7.mp ((lg_cmp_eq _ _).mp c), by decide⟩)) (fun c7 => ?_))
  have n7 : ¬ l = lx_w 7 := fun q => c7 ((lg_cmp_eq _ _).mpr (h7.mpr q))
  refine pa_bd (l_key hl hv 8) (fun o8 h8 => pa_if (fun c => pa_some (Or.inl ⟨8, by decide, h8.mp ((lg_cmp_eq _ _).mp c), by decide⟩)) (fun c8 => ?_))
  have n8 : ¬ l = lx_w 8 := fun q => c8 ((lg_cmp_eq _ _).mpr (h8.mpr q))
  refine pa_bd (l_key hl hv 9) (fun o9 h9 => pa_if (fun c => pa_some (Or.inl ⟨9, by decide, h9.mp ((lg_cmp_eq _ _).mp c), by decide⟩)) (fun c9 => ?_))
  have n9 : ¬ l = lx_w 9 := fun q => c9 ((lg_cmp_eq _ _).mpr (h9.mpr q))
  refine pa_bd (l_key hl hv 10) (fun o10 h10 => pa_if (fun c => pa_some (Or.inl ⟨10, by decide, h10.mp ((lg_cmp_eq _ _).mp c), by decide⟩)) (fun c10 => ?_))
  have n10 : ¬ l = lx_w 10 := fun q => c10 ((lg_cmp_eq _ _).mpr (h10.mpr q))
  refine pa_some (Or.inr ⟨fun j hj => ?_, by decide⟩)
  match j, hj with
  | 0, _ => exact n0
  | 1, _ => exact n1
  | 2, _ => exact n2
  | 3, _ => exact n3
  | 4, _ => exact n4
  | 5, _ => exact n5
  | 6, _ => exact n6
  | 7, _ => exact n7
  | 8, _ => exact n8
  | 9, _ => exact n9
  | 10, _ => exact n10
  | j + 11, h => exact absurd h (by omega)
theorem l_193 (K : Nat → Int32) (V : Nat → Int64) (x1 x5 : Int32) (x6 : Int64) : pa (f_X5_scanToken_b193 K V x1 x5 x6) (fun o => o = (x5, K, vp_updL V x1.toNatClampNeg x6)) := by
  unfold f_X5_scanToken_b193
  exact pa_ck (fun _ => pa_nx (pa_some rfl))
/-- what the class leaves behind a token at i: where it ends, its kind and its value -/
def TO5 (b : Nat → Int) (N i : Nat) (K : Nat → Int32) (V : Nat → Int64) (x1 : Int32) (o : Int32 × (Nat → Int32) × (Nat → Int64)) : Prop := o.1.toInt = lx_en b N i ∧ ∃ k v, o.2.1 = upd K x1.toNatClampNeg k ∧ o.2.2 = vp_updL V x1.toNatClampNeg v ∧ CK5 b N i k v
theorem l_let {B : Nat → Int32} {b : Nat → Int} {N i : Nat} {K : Nat → Int32} {V : Nat → Int64} {x1 x3 x4 : Int32} (hb : ∀ j, b j = (B j).toInt) (hN : N ≤ 2000) (h3 : x3.toInt = N) (h4 : x4.toInt = i) (hi : i < N) (hL : lx_L (b i) = true) : ∀ (n : Nat) (k : Nat) (x5 : Int32) (x6 : Int64), x5.toInt = i + k → i + k ≤ N → (∀ j, j < k → lx_L (b (i + j)) = true) → (k ≤ 8 → x6.toInt = NL 32 (lx_le b i k)) → pa (f_X5_scanToken_b25 B n K V x1 x3 x4 x5 x6) (TO5 b N i K V x1) := by
  intro n
  induction n with
  | zero => intro k x5 x6 _ _ _ _; exact pa_none
  | succ n ih =>
    intro k x5 x6 h5 hk hl h6
    have ex : (i + k < N → lx_L (b (i + k)) = false) → pa (f_X5_scanToken_b66 K V x1 x4 x5 x6) (TO5 b N i K V x1) := by
      intro hs
      have e := lx_stop k hk hl hs
      have ee : lx_en b N i = i + k := by unfold lx_en; rw [if_pos hL, e]
      have el : lx_rn lx_L b N i - i = k := by omega
      have t : (x5 - x4).toInt = k := by rw [Jvm.Kit.i32_sub (by omega) (by omega)]; omega
      unfold f_X5_scanToken_b66
      refine pa_if (fun c => ?_) (fun c => ?_)
      · have c2 := le_k (k := 8) rfl c
        have q6 := h6 (by omega)
        refine pa_bd (l_X5_wordOrName (lx_le_LD k hl) q6) (fun o ho => pa_ck (fun _ => pa_nx (pa_w (l_193 _ _ _ _ _) ?_)))
        rintro _ rfl
        refine ⟨by show x5.toInt = _; rw [ee]; omega, o, x6, rfl, rfl, ?_⟩
        refine ⟨fun _ => ⟨fun _ => ?_, fun z => by omega⟩, fun z => absurd z (by rw [hL]; decide), fun z => absurd z (by rw [hL]; decide)⟩
        rw [el]
        exact ⟨q6, ho⟩
      · have c2 := nle_k (k := 8) rfl c
        refine pa_ck (fun _ => pa_nx (pa_w (l_193 _ _ _ _ _) ?_))
        rintro _ rfl
        refine ⟨by show x5.toInt = _; rw [ee]; omega, 4, x6, rfl, rfl, ?_⟩
        exact ⟨fun _ => ⟨fun z => by omega, fun _ => by decide⟩, fun z => absurd z (by rw [hL]; decide), fun z => absurd z (by rw [hL]; decide)⟩
    show pa (f_X5_scanToken_b25_st (f_X5_scanToken_b25 B n) B K V x1 x3 x4 x5 x6) _
    unfold f_X5_scanToken_b25_st
    refine pa_if (fun c => ?_) (fun c => ?_)
    · have c2 := ti_le c
      exact ex (fun z => by omega)
    · have c2 := ti_nle c
      refine pa_ck (fun _ => pa_bd (l_X5_isLetter _) (fun o ho => ?_))
      have ec : (x5.toNatClampNeg : Int) = x5.toInt := cl_k (by omega)
      have en : x5.toNatClampNeg = i + k := by omega
      rw [en] at ho ⊢
      rw [← hb] at ho
      refine pa_if (fun d => ex (fun _ => ho.1 d)) (fun d => pa_ck (fun _ => pa_nx ?_))
      have hd := ho.2 d
      have hr := of_decide_eq_true hd
      have t5 := add_k (x := x5) (v := 1) (k := 1) rfl (by omega) (by omega)
      refine ih (k + 1) (x5 + 1) _ (by omega) (by omega) (fun j hj => ?_) (fun h8 => ?_)
      · by_cases q : j = k
        · rw [q]; exact hd
        · exact hl j (by omega)
      · have q6 := h6 (by omega)
        have r0 := RL_0 (b := 32) (by decide) _ (lx_le_LD k hl)
        have r1 := RL_le (b := 32) (by decide) (by decide) _ (lx_le_LD k hl) (by rw [lx_le_len]; omega)
        rw [lx_le_len] at r1
        have r2 : (32 : Int) ^ k ≤ 34359738368 := (show ∀ q : Fin 8, (32 : Int) ^ q.val ≤ 34359738368 by decide) ⟨k, by omega⟩
        have hbb := hb (i + k)
        have a1 : ((B (i + k) - 97) : Int32).toInt = (B (i + k)).toInt - 97 := sub_k (k := 97) rfl (by omega) (by omega)
        have a2 : ((B (i + k) - 97 + 1) : Int32).toInt = (B (i + k)).toInt - 97 + 1 := by rw [add_k (k := 1) rfl (by omega) (by omega), a1]
        have m1 : (x6 * 32).toInt = x6.toInt * 32 := by
          have e32 : (32 : Int64).toInt = 32 := rfl
          rw [Jvm.Kit.i64_mul (by rw [e32]; omega) (by rw [e32]; omega), e32]
        rw [Jvm.Kit.i64_add (by rw [m1, Int32.toInt_toInt64]; omega) (by rw [m1, Int32.toInt_toInt64]; omega), m1, Int32.toInt_toInt64, a2, q6]
        show NL 32 (lx_le b i k) * 32 + _ = NL 32 (lx_le b i k) * 32 + (b (i + k) - 96)
        omega
theorem l_dig {B : Nat → Int32} {b : Nat → Int} {N i : Nat} {K : Nat → Int32} {V : Nat → Int64} {x1 x3 x4 : Int32} (hb : ∀ j, b j = (B j).toInt) (hN : N ≤ 2000) (h3 : x3.toInt = N) (h4 : x4.toInt = i) (hi : i < N) (hL : lx_L (b i) = false) (hD : lx_D (b i) = true) : ∀ (n : Nat) (k : Nat) (x5 : Int32) (x6 : Int64), x5.toInt = i + k → i + k ≤ N → (∀ j, j < k → lx_D (b (i + j)) = true) → (k ≤ 4 → x6.toInt = lx_dv b i k) → pa (f_X5_scanToken_b104 B n K V x1 x3 x4 x5 x6) (TO5 b N i K V x1) := by
  intro n
  induction n with
  | zero => intro k x5 x6 _ _ _ _; exact pa_none
  | succ n ih =>
    intro k x5 x6 h5 hk hl h6
    have ex : (i + k < N → lx_D (b (i + k)) = false) → pa (f_X5_scanToken_b143 K V x1 x4 x5 x6) (TO5 b N i K V x1) := by
      intro hs
      have e := lx_stop k hk hl hs
      have ee : lx_en b N i = i + k := by unfold lx_en; rw [if_neg (by rw [hL]; decide), if_pos hD, e]
      have t : (x5 - x4).toInt = k := by rw [Jvm.Kit.i32_sub (by omega) (by omega)]; omega
      have el : lx_rn lx_D b N i - i = k := by omega
      unfold f_X5_scanToken_b143
      refine pa_if (fun c => ?_) (fun c => ?_)
      · have c2 := le_k (k := 4) rfl c
        have q6 := h6 (by omega)
        refine pa_ck (fun _ => pa_nx (pa_w (l_193 _ _ _ _ _) ?_))
        rintro _ rfl
        refine ⟨by show x5.toInt = _; rw [ee]; omega, 2, x6, rfl, rfl, ?_⟩
        refine ⟨fun z => absurd z (by rw [hL]; decide), fun _ _ => ⟨fun _ => ?_, fun z => by omega⟩, fun _ z => absurd z (by rw [hD]; decide)⟩
        rw [el]
        exact ⟨q6, by decide⟩
      · have c2 := nle_k (k := 4) rfl c
        refine pa_ck (fun _ => pa_nx (pa_w (l_193 _ _ _ _ _) ?_))
        rintro _ rfl
        refine ⟨by show x5.toInt = _; rw [ee]; omega, 4, x6, rfl, rfl, ?_⟩
        exact ⟨fun z => absurd z (by rw [hL]; decide), fun _ _ => ⟨fun z => by omega, fun _ => by decide⟩, fun _ z => absurd z (by rw [hD]; decide)⟩
    show pa (f_X5_scanToken_b104_st (f_X5_scanToken_b104 B n) B K V x1 x3 x4 x5 x6) _
    unfold f_X5_scanToken_b104_st
    refine pa_if (fun c => ?_) (fun c => ?_)
    · have c2 := ti_le c
      exact ex (fun z => by omega)
    · have c2 := ti_nle c
      refine pa_ck (fun _ => pa_bd (l_X5_isDigit _) (fun o ho => ?_))
      have ec : (x5.toNatClampNeg : Int) = x5.toInt := cl_k (by omega)
      have en : x5.toNatClampNeg = i + k := by omega
      rw [en] at ho ⊢
      rw [← hb] at ho
      refine pa_if (fun d => ex (fun _ => ho.1 d)) (fun d => pa_ck (fun _ => pa_nx ?_))
      have hd := ho.2 d
      have hr := of_decide_eq_true hd
      have t5 := add_k (x := x5) (v := 1) (k := 1) rfl (by omega) (by omega)
      refine ih (k + 1) (x5 + 1) _ (by omega) (by omega) (fun j hj => ?_) (fun h8 => ?_)
      · by_cases q : j = k
        · rw [q]; exact hd
        · exact hl j (by omega)
      · have q6 := h6 (by omega)
        have r := lx_dv_rg k (by omega) hl
        have hbb := hb (i + k)
        have a1 : ((B (i + k) - 48) : Int32).toInt = (B (i + k)).toInt - 48 := sub_k (k := 48) rfl (by omega) (by omega)
        have m1 : (x6 * 10).toInt = x6.toInt * 10 := by
          have e10 : (10 : Int64).toInt = 10 := rfl
          rw [Jvm.Kit.i64_mul (by rw [e10]; omega) (by rw [e10]; omega), e10]
        rw [Jvm.Kit.i64_add (by rw [m1, Int32.toInt_toInt64]; omega) (by rw [m1, Int32.toInt_toInt64]; omega), m1, Int32.toInt_toInt64, a1, q6]
        show lx_dv b i k * 10 + _ = lx_dv b i k * 10 + (b (i + k) - 48)
        omega
theorem l_X5_scanToken {B : Nat → Int32} {b : Nat → Int} {N i : Nat} {S K : Nat → Int32} {V : Nat → Int64} {x1 x3 : Int32} (hb : ∀ j, b j = (B j).toInt) (hbr : ∀ j, j < N → rg (B j) (-128) 127) (hN : N ≤ 2000) (h3 : x3.toInt = N) (hs : (S x1.toNatClampNeg).toInt = i) (hi : i < N) : pa (f_X5_scanToken S B K V x1 x3) (TO5 b N i K V x1) := by
  unfold f_X5_scanToken
  have ec : ((S x1.toNatClampNeg).toNatClampNeg : Int) = (S x1.toNatClampNeg).toInt := cl_k (by omega)
  have en : (S x1.toNatClampNeg).toNatClampNeg = i := by omega
  have t5 := add_k (x := S x1.toNatClampNeg) (v := 1) (k := 1) rfl (by omega) (by omega)
  have z0 : (0 : Int64).toInt = 0 := rfl
  refine pa_ck (fun _ => pa_ck (fun _ => pa_bd (l_X5_isLetter _) (fun o ho => ?_)))
  rw [en] at ho ⊢
  rw [← hb] at ho
  refine pa_if (fun c => ?_) (fun c => ?_)
  · have hL := ho.1 c
    refine pa_ck (fun _ => pa_bd (l_X5_isDigit _) (fun o2 ho2 => ?_))
    rw [← hb] at ho2
    refine pa_if (fun c2 => ?_) (fun c2 => ?_)
    · have hD := ho2.1 c2
      have ee : lx_en b N i = i + 1 := by unfold lx_en; rw [if_neg (by rw [hL]; decide), if_neg (by rw [hD]; decide)]
      refine pa_ck (fun _ => pa_bd (l_X5_isSign _ (hbr i hi)) (fun o3 ho3 => ?_))
      rw [← hb] at ho3
      refine pa_if (fun c3 => pa_ck (fun _ => pa_nx (pa_w (l_193 _ _ _ _ _) ?_))) (fun c3 => pa_ck (fun _ => pa_ck (fun _ => pa_nx (pa_w (l_193 _ _ _ _ _) ?_))))
      · rintro _ rfl
        refine ⟨by show (S x1.toNatClampNeg + 1).toInt = _; rw [ee]; omega, 4, 0, rfl, rfl, ?_⟩
        exact ⟨fun z => absurd z (by rw [hL]; decide), fun _ z => absurd z (by rw [hD]; decide), fun _ _ => Or.inr ⟨ho3.1 c3, by decide⟩⟩
      · rintro _ rfl
        refine ⟨by show (S x1.toNatClampNeg + 1).toInt = _; rw [ee]; omega, B i, 0, rfl, rfl, ?_⟩
        exact ⟨fun z => absurd z (by rw [hL]; decide), fun _ z => absurd z (by rw [hD]; decide), fun _ _ => Or.inl ⟨ho3.2 c3, (hb i).symm⟩⟩
    · exact l_dig hb hN h3 hs hi hL (ho2.2 c2) fuel 0 _ 0 (by omega) (by omega) (fun j hj => absurd hj (Nat.not_lt_zero _)) (fun _ => z0)
  · exact l_let hb hN h3 hs hi (ho.2 c) fuel 0 _ 0 (by omega) (by omega) (fun j hj => absurd hj (Nat.not_lt_zero _)) (fun _ => z0)
/-- all tokens that the class writes from the j-th on, at p -/
def SC5 (b : Nat → Int) (N : Nat) (j p : Nat) (K S : Nat → Int32) (V : Nat → Int64) (o : (Nat → Int32) × (Nat → Int32) × (Nat → Int64)) : Prop :=
  (∀ i, i < j → o.1 i = K i ∧ o.2.1 i = S i ∧ o.2.2 i = V i) ∧ ∀ m, j + m ≤ 402 → (∀ i, i < m → ¬ (o.1 (j + i)).toInt = 3 ∧ ¬ (o.1 (j + i)).toInt = 4) → TC5 b N (lx_ps b N m p) (o.1 (j + m)) (o.2.1 (j + m)) (o.2.2 (j + m)) (j + m = 402)
theorem SC5_sk {b : Nat → Int} {N j p q : Nat} {K S : Nat → Int32} {V : Nat → Int64} {o : (Nat → Int32) × (Nat → Int32) × (Nat → Int64)} (h : SC5 b N j q K S V o) (e : lx_rn lx_K b N p = lx_rn lx_K b N q) : SC5 b N j p K S V o := by
  refine ⟨h.1, fun m hm hk => ?_⟩
  rw [lx_ps_sk m e]
  exact h.2 m hm hk
theorem l_33 {B : Nat → Int32} {b : Nat → Int} {N : Nat} (hb : ∀ j, b j = (B j).toInt) (hbr : ∀ j, j < N → rg (B j) (-128) 127) (hN : N ≤ 2000) {x2 : Int32} (h2 : x2.toInt = N) (k5 : (Nat → Int32) → (Nat → Int32) → (Nat → Int64) → Int32 → Int32 → Int32 → Option ((Nat → Int32) × (Nat → Int32) × (Nat → Int64))) {K S : Nat → Int32} {V : Nat → Int64} {j p : Nat} {x3 x4 : Int32} (h4 : x4.toInt = j) (hj : j ≤ 402) (h3 : x3.toInt = p) (hp : p ≤ N) (hs : lx_rn lx_K b N p = p)
    (hk : ∀ (K' S' : Nat → Int32) (V' : Nat → Int64) (y3 y4 : Int32) (q : Nat), y4.toInt = j + 1 → j + 1 ≤ 402 → y3.toInt = q → q ≤ N → pa (k5 K' S' V' x2 y3 y4) (SC5 b N (j + 1) q K' S' V')) : pa (f_X5_scan_b33 k5 B K S V x2 x3 x4) (SC5 b N j p K S V) := by
  have ec : (x4.toNatClampNeg : Int) = x4.toInt := cl_k (by omega)
  have en : x4.toNatClampNeg = j := by omega
  have p0 : lx_ps b N 0 p = p := hs
  unfold f_X5_scan_b33
  refine pa_ck (fun _ => pa_nx ?_)
  rw [en]
  have sj : (upd S j x3 j) = x3 := by unfold upd; rw [if_pos rfl]
  have ends : (N ≤ p ∨ j = 402) → pa (f_X5_scan_b54 k5 K (upd S j x3) V x4) (SC5 b N j p K S V) := by
    intro he
    unfold f_X5_scan_b54
    refine pa_ck (fun _ => pa_nx (pa_some ?_))
    rw [en]
    have kj : (upd K j 3 j) = 3 := by unfold upd; rw [if_pos rfl]
    refine ⟨fun i hi => ⟨?_, ?_, rfl⟩, fun m hm hq => ?_⟩
    · show upd K j 3 i = K i
      unfold upd; rw [if_neg (by omega)]
    · show upd S j x3 i = S i
      unfold upd; rw [if_neg (by omega)]
    · cases m with
      | succ m =>
        have := (hq 0 (by omega)).1
        exact absurd (by show (upd K j 3 (j + 0)).toInt = 3; rw [Nat.add_zero, kj]; decide) this
      | zero =>
        rw [p0]
        show TC5 b N p (upd K j 3 (j + 0)) (upd S j x3 (j + 0)) (V (j + 0)) (j + 0 = 402)
        rw [Nat.add_zero, kj, sj]
        exact ⟨h3, fun _ => by decide, fun q1 q2 => by omega⟩
  refine pa_if (fun c => ends (Or.inl (by have := ti_le c; omega))) (fun c => ?_)
  have c2 := ti_nle c
  refine pa_if (fun d => ends (Or.inr (by have := z_eq (k := 402) rfl d; omega))) (fun d => ?_)
  have d2 := z_ne (k := 402) rfl d
  refine pa_bd3 (l_X5_scanToken (S := upd S j x3) (i := p) hb hbr hN h2 (by rw [en, sj]; exact h3) (by omega)) (fun e K1 V1 ht => pa_ck (fun _ => ?_))
  obtain ⟨he, k, v, hK, hV, hc⟩ := ht
  change e.toInt = lx_en b N p at he
  change K1 = upd K x4.toNatClampNeg k at hK
  change V1 = vp_updL V x4.toNatClampNeg v at hV
  rw [en] at hK hV
  have kj : K1 j = k := by rw [hK]; unfold upd; rw [if_pos rfl]
  have vj : V1 j = v := by rw [hV]; unfold vp_updL; rw [if_pos rfl]
  have tj : TC5 b N p k x3 v (j = 402) := ⟨h3, fun q => by omega, fun _ _ => hc⟩
  have lo : ∀ i, i < j → K1 i = K i ∧ upd S j x3 i = S i ∧ V1 i = V i := by
    intro i hi
    refine ⟨?_, ?_, ?_⟩
    · rw [hK]; unfold upd; rw [if_neg (by omega)]
    · unfold upd; rw [if_neg (by omega)]
    · rw [hV]; unfold vp_updL; rw [if_neg (by omega)]
  refine pa_if (fun f => pa_some ⟨lo, fun m hm hq => ?_⟩) (fun f => ?_)
  · have f4 : (K1 j).toInt = 4 := z_eq (k := 4) rfl f
    cases m with
    | succ m => exact absurd f4 (hq 0 (by omega)).2
    | zero =>
      rw [p0]
      show TC5 b N p (K1 j) (upd S j x3 j) (V1 j) (j + 0 = 402)
      rw [kj, sj, vj]
      exact tj
  · have t4 := add_k (x := x4) (v := 1) (k := 1) rfl (by omega) (by omega)
    refine pa_w (hk K1 (upd S j x3) V1 e (x4 + 1) (lx_en b N p) (by omega) (by omega) he (lx_en_le (by omega))) (fun o ho => ⟨fun i hi => ?_, fun m hm hq => ?_⟩)
    · have a := ho.1 i (by omega)
      have c := lo i hi
      exact ⟨a.1.trans c.1, a.2.1.trans c.2.1, a.2.2.trans c.2.2⟩
    · cases m with
      | zero =>
        have a := ho.1 j (by omega)
        rw [p0]
        show TC5 b N p (o.1 j) (o.2.1 j) (o.2.2 j) (j + 0 = 402)
        rw [a.1, a.2.1, a.2.2, kj, sj, vj]
        exact tj
      | succ m =>
        have q : lx_ps b N (m + 1) p = lx_ps b N m (lx_en b N p) := by
          show lx_ps b N m (lx_en b N (lx_rn lx_K b N p)) = _
          rw [hs]
        have g := ho.2 m (by omega) (fun i hi => by rw [show j + 1 + i = j + (i + 1) from by omega]; exact hq (i + 1) (by omega))
        rw [show j + 1 + m = j + (m + 1) from by omega] at g
        rw [q]
        exact g
theorem l_13 {B : Nat → Int32} {b : Nat → Int} {N : Nat} (hb : ∀ j, b j = (B j).toInt) (hbr : ∀ j, j < N → rg (B j) (-128) 127) (hN : N ≤ 2000) {x2 : Int32} (h2 : x2.toInt = N) (k5 : (Nat → Int32) → (Nat → Int32) → (Nat → Int64) → Int32 → Int32 → Int32 → Option ((Nat → Int32) × (Nat → Int32) × (Nat → Int64))) {K S : Nat → Int32} {V : Nat → Int64} {j : Nat} {x4 : Int32} (h4 : x4.toInt = j) (hj : j ≤ 402)
    (hk : ∀ (K' S' : Nat → Int32) (V' : Nat → Int64) (y3 y4 : Int32) (q : Nat), y4.toInt = j + 1 → j + 1 ≤ 402 → y3.toInt = q → q ≤ N → pa (k5 K' S' V' x2 y3 y4) (SC5 b N (j + 1) q K' S' V')) : ∀ (n : Nat) (x3 : Int32) (p : Nat), x3.toInt = p → p ≤ N → pa (f_X5_scan_b13 k5 B n K S V x2 x3 x4) (SC5 b N j p K S V) := by
  intro n
  induction n with
  | zero => intro x3 p _ _; exact pa_none
  | succ n ih =>
    intro x3 p h3 hp
    show pa (f_X5_scan_b13_st (f_X5_scan_b13 k5 B n) k5 B K S V x2 x3 x4) _
    unfold f_X5_scan_b13_st
    refine pa_if (fun c => ?_) (fun c => ?_)
    · have c2 := ti_le c
      exact l_33 hb hbr hN h2 k5 h4 hj h3 hp (lx_no (fun z => by omega)) hk
    · have c2 := ti_nle c
      refine pa_ck (fun _ => pa_bd (l_X5_isBlank _) (fun o ho => ?_))
      have ec : (x3.toNatClampNeg : Int) = x3.toInt := cl_k (by omega)
      have en : x3.toNatClampNeg = p := by omega
      rw [en, ← hb] at ho
      refine pa_if (fun d => l_33 hb hbr hN h2 k5 h4 hj h3 hp (lx_no (fun _ => ho.1 d)) hk) (fun d => ?_)
      have t3 := add_k (x := x3) (v := 1) (k := 1) rfl (by omega) (by omega)
      exact pa_w (ih (x3 + 1) (p + 1) (by omega) (by omega)) (fun o2 h => SC5_sk h (lx_go (by omega) (ho.2 d)))
theorem l_5 {B : Nat → Int32} {b : Nat → Int} {N : Nat} (hb : ∀ j, b j = (B j).toInt) (hbr : ∀ j, j < N → rg (B j) (-128) 127) (hN : N ≤ 2000) {x2 : Int32} (h2 : x2.toInt = N) : ∀ (n : Nat) (K S : Nat → Int32) (V : Nat → Int64) (x3 x4 : Int32) (j p : Nat), x4.toInt = j → j ≤ 402 → x3.toInt = p → p ≤ N → pa (f_X5_scan_b5 B n K S V x2 x3 x4) (SC5 b N j p K S V) := by
  intro n
  induction n with
  | zero => intro K S V x3 x4 j p _ _ _ _; exact pa_none
  | succ n ih =>
    intro K S V x3 x4 j p h4 hj h3 hp
    show pa (f_X5_scan_b5_st (f_X5_scan_b5 B n) B K S V x2 x3 x4) _
    unfold f_X5_scan_b5_st
    refine pa_if (fun c => ?_) (fun c => ?_)
    · have c2 := k_le (k := 403) rfl c
      omega
    · exact l_13 hb hbr hN h2 _ h4 hj (fun K' S' V' y3 y4 q h4' hj' h3' hp' => ih K' S' V' y3 y4 (j + 1) q (by omega) hj' h3' hp') fuel x3 p h3 hp
theorem l_X5_scan {B : Nat → Int32} {b : Nat → Int} {N : Nat} (hb : ∀ j, b j = (B j).toInt) (hbr : ∀ j, j < N → rg (B j) (-128) 127) (hN : N ≤ 2000) {x2 : Int32} (h2 : x2.toInt = N) (K S : Nat → Int32) (V : Nat → Int64) : pa (f_X5_scan B K S V x2) (SC5 b N 0 0 K S V) := by
  unfold f_X5_scan
  exact l_5 hb hbr hN h2 fuel K S V 0 0 0 0 rfl (by omega) rfl (by omega)
