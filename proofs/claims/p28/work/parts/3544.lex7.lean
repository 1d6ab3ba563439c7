/-! the reference's tokens -/
theorem l_X7_isLetter (q : Int32) : pa (f_X7_isLetter q) (fun o => bK o (lx_L q.toInt)) := by
  unfold f_X7_isLetter
  exact pa_if (fun c => pa_some (bK_L (Or.inl ⟨lt_k (k := 97) rfl c, rfl⟩))) (fun c => pa_if (fun d => pa_some (bK_L (Or.inr (Or.inl ⟨k_lt (k := 122) rfl d, rfl⟩)))) (fun d => pa_some (bK_L (Or.inr (Or.inr ⟨nlt_k (k := 97) rfl c, k_nlt (k := 122) rfl d, rfl⟩)))))
theorem l_X7_isDigit (q : Int32) : pa (f_X7_isDigit q) (fun o => bK o (lx_D q.toInt)) := by
  unfold f_X7_isDigit
  exact pa_if (fun c => pa_some (bK_D (Or.inl ⟨lt_k (k := 48) rfl c, rfl⟩))) (fun c => pa_if (fun d => pa_some (bK_D (Or.inr (Or.inl ⟨k_lt (k := 57) rfl d, rfl⟩)))) (fun d => pa_some (bK_D (Or.inr (Or.inr ⟨nlt_k (k := 48) rfl c, k_nlt (k := 57) rfl d, rfl⟩)))))
/-- the text that the reference reads -/
def TX (X : Nat → Int32) (b : Nat → Int) (N : Nat) (size : Int32) : Prop := N ≤ 2000 ∧ size.toInt = N ∧ ∀ j, j < N → (X j).toInt = b j ∧ -128 ≤ b j ∧ b j ≤ 127
theorem l_X7_byteAt {X : Nat → Int32} {b : Nat → Int} {N : Nat} {size : Int32} (h : TX X b N size) {q1 : Int32} {q : Nat} (hq : q1.toInt = q) : pa (f_X7_byteAt size X q1) (fun o => (N ≤ q → o.toInt = 0) ∧ (q < N → o.toInt = b q % 256)) := by
  unfold f_X7_byteAt
  have hs := h.2.1
  refine pa_if (fun c => pa_some ⟨fun _ => rfl, fun z => ?_⟩) (fun c => pa_ck (fun _ => pa_some ⟨fun z => ?_, fun z => ?_⟩))
  · have := ti_le c
    omega
  · have := ti_nle c
    omega
  · have ec : (q1.toNatClampNeg : Int) = q1.toInt := cl_k (by omega)
    have en : q1.toNatClampNeg = q := by omega
    rw [en, Jvm.Kit.i32_mask (X q) 255 (k := 8) (by decide) (by decide), (h.2.2 q z).1]
    rfl
theorem by_L {b : Nat → Int} {N q : Nat} {o : Int32} (h : (N ≤ q → o.toInt = 0) ∧ (q < N → o.toInt = b q % 256)) (hr : q < N → -128 ≤ b q ∧ b q ≤ 127) : lx_L o.toInt = (decide (q < N) && lx_L (b q)) := by
  by_cases c : q < N
  · have e := h.2 c
    have r := hr c
    rw [decide_eq_true c, Bool.true_and, e]
    unfold lx_L
    exact decide_eq_decide.mpr (by omega)
  · have e := h.1 (by omega)
    rw [decide_eq_false c, Bool.false_and, e]
    decide
theorem by_D {b : Nat → Int} {N q : Nat} {o : Int32} (h : (N ≤ q → o.toInt = 0) ∧ (q < N → o.toInt = b q % 256)) (hr : q < N → -128 ≤ b q ∧ b q ≤ 127) : lx_D o.toInt = (decide (q < N) && lx_D (b q)) := by
  by_cases c : q < N
  · have e := h.2 c
    have r := hr c
    rw [decide_eq_true c, Bool.true_and, e]
    unfold lx_D
    exact decide_eq_decide.mpr (by omega)
  · have e := h.1 (by omega)
    rw [decide_eq_false c, Bool.false_and, e]
    decide
theorem l_X7_token (tokens : Int32) (tk tp tv : Nat → Int32) (tn : Nat → Int64) (q1 q2 q3 : Int32) (q4 : Int64) : pa (f_X7_token tokens tk tp tv tn q1 q2 q3 q4) (fun o => o = (tokens + 1, upd tk tokens.toNatClampNeg q1, upd tp tokens.toNatClampNeg q2, upd tv tokens.toNatClampNeg q3, vp_updL tn tokens.toNatClampNeg q4)) := by
  unfold f_X7_token
  exact pa_ck (fun _ => pa_nx (pa_ck (fun _ => pa_nx (pa_ck (fun _ => pa_nx (pa_ck (fun _ => pa_nx (pa_some rfl))))))))
theorem l_X7_sign (tokens : Int32) (tk tp tv : Nat → Int32) (tn : Nat → Int64) (q1 q2 q3 : Int32) : pa (f_X7_sign tokens tk tp tv tn q1 q2 q3) (fun o => ∃ k : Int32, o = (1, tokens + 1, upd tk tokens.toNatClampNeg k, upd tp tokens.toNatClampNeg q1, upd tv tokens.toNatClampNeg 0, vp_updL tn tokens.toNatClampNeg 0) ∧ SK q2.toInt k.toInt) := by
  have b85 : ∀ x4, pa (f_X7_sign_b85 tokens tk tp tv tn q1 x4) (fun o => o = (1, tokens + 1, upd tk tokens.toNatClampNeg x4, upd tp tokens.toNatClampNeg q1, upd tv tokens.toNatClampNeg 0, vp_updL tn tokens.toNatClampNeg 0)) := by
    intro x4
    unfold f_X7_sign_b85
    refine pa_bd5 (l_X7_token tokens tk tp tv tn x4 q1 0 0) (fun a b c d e hp => ?_)
    cases hp
    exact pa_some rfl
  have b75 : ∀ x4, pa (f_X7_sign_b75 tokens tk tp tv tn q1 q2 x4) (fun o => ∃ k : Int32, o = (1, tokens + 1, upd tk tokens.toNatClampNeg k, upd tp tokens.toNatClampNeg q1, upd tv tokens.toNatClampNeg 0, vp_updL tn tokens.toNatClampNeg 0) ∧ ((q2.toInt = 47 ∧ k.toInt = 15) ∨ (¬ q2.toInt = 47 ∧ k = x4))) := by
    intro x4
    unfold f_X7_sign_b75
    exact pa_if (fun c => pa_w (b85 15) (fun o ho => ⟨15, ho, Or.inl ⟨z_eq (k := 47) rfl c, rfl⟩⟩)) (fun c => pa_w (b85 x4) (fun o ho => ⟨x4, ho, Or.inr ⟨z_ne (k := 47) rfl c, rfl⟩⟩))
  have b65 : ∀ x4, pa (f_X7_sign_b65 tokens tk tp tv tn q1 q2 x4) (fun o => ∃ k : Int32, o = (1, tokens + 1, upd tk tokens.toNatClampNeg k, upd tp tokens.toNatClampNeg q1, upd tv tokens.toNatClampNeg 0, vp_updL tn tokens.toNatClampNeg 0) ∧ ((q2.toInt = 47 ∧ k.toInt = 15) ∨ (q2.toInt = 42 ∧ k.toInt = 10) ∨ (¬ q2.toInt = 47 ∧ ¬ q2.toInt = 42 ∧ k = x4))) := by
    intro x4
    unfold f_X7_sign_b65
    refine pa_if (fun c => pa_w (b75 10) ?_) (fun c => pa_w (b75 x4) ?_)
    · have c2 := z_eq (k := 42) rfl c
      rintro o ⟨k, ho, h⟩
      refine ⟨k, ho, ?_⟩
      rcases h with h | ⟨h1, rfl⟩
      · exact Or.inl h
      · exact Or.inr (Or.inl ⟨c2, rfl⟩)
    · have c2 := z_ne (k := 42) rfl c
      rintro o ⟨k, ho, h⟩
      refine ⟨k, ho, ?_⟩
      rcases h with h | ⟨h1, h2⟩
      · exact Or.inl h
      · exact Or.inr (Or.inr ⟨h1, c2, h2⟩)
  have b55 : ∀ x4, pa (f_X7_sign_b55 tokens tk tp tv tn q1 q2 x4) (fun o => ∃ k : Int32, o = (1, tokens + 1, upd tk tokens.toNatClampNeg k, upd tp tokens.toNatClampNeg q1, upd tv tokens.toNatClampNeg 0, vp_updL tn tokens.toNatClampNeg 0) ∧ ((q2.toInt = 47 ∧ k.toInt = 15) ∨ (q2.toInt = 42 ∧ k.toInt = 10) ∨ (q2.toInt = 45 ∧ k.toInt = 9) ∨ (¬ q2.toInt = 47 ∧ ¬ q2.toInt = 42 ∧ ¬ q2.toInt = 45 ∧ k = x4))) := by
    intro x4
    unfold f_X7_sign_b55
    refine pa_if (fun c => pa_w (b65 9) ?_) (fun c => pa_w (b65 x4) ?_)
    · have c2 := z_eq (k := 45) rfl c
      rintro o ⟨k, ho, h⟩
      refine ⟨k, ho, ?_⟩
      rcases h with h | h | ⟨h1, h3, rfl⟩
      · exact Or.inl h
      · exact Or.inr (Or.inl h)
      · exact Or.inr (Or.inr (Or.inl ⟨c2, rfl⟩))
    · have c2 := z_ne (k := 45) rfl c
      rintro o ⟨k, ho, h⟩
      refine ⟨k, ho, ?_⟩
      rcases h with h | h | ⟨h1, h3, h2⟩
      · exact Or.inl h
      · exact Or.inr (Or.inl h)
      · exact Or.inr (Or.inr (Or.inr ⟨h1, h3, c2, h2⟩))
  have b43 : ∀ x4, pa (f_X7_sign_b43 tokens tk tp tv tn q1 q2 x4) (fun o => ∃ k : Int32, o = (1, tokens + 1, upd tk tokens.toNatClampNeg k, upd tp tokens.toNatClampNeg q1, upd tv tokens.toNatClampNeg 0, vp_updL tn tokens.toNatClampNeg 0) ∧ ((q2.toInt = 47 ∧ k.toInt = 15) ∨ (q2.toInt = 42 ∧ k.toInt = 10) ∨ (q2.toInt = 45 ∧ k.toInt = 9) ∨ (q2.toInt = 43 ∧ k.toInt = 8) ∨ (¬ q2.toInt = 47 ∧ ¬ q2.toInt = 42 ∧ ¬ q2.toInt = 45 ∧ ¬ q2.toInt = 43 ∧ k = x4))) := by
    intro x4
    unfold f_X7_sign_b43
    refine pa_if (fun c => pa_w (b55 8) ?_) (fun c => pa_w (b55 x4) ?_)
    · have c2 := z_eq (k := 43) rfl c
      rintro o ⟨k, ho, h⟩
      refine ⟨k, ho, ?_⟩
      rcases h with h | h | h | ⟨h1, h3, h4, rfl⟩
      · exact Or.inl h
      · exact Or.inr (Or.inl h)
      · exact Or.inr (Or.inr (Or.inl h))
      · exact Or.inr (Or.inr (Or.inr (Or.inl ⟨c2, rfl⟩)))
    · have c2 := z_ne (k := 43) rfl c
      rintro o ⟨k, ho, h⟩
      refine ⟨k, ho, ?_⟩
      rcases h with h | h | h | ⟨h1, h3, h4, h2⟩
      · exact Or.inl h
      · exact Or.inr (Or.inl h)
      · exact Or.inr (Or.inr (Or.inl h))
      · exact Or.inr (Or.inr (Or.inr (Or.inr ⟨h1, h3, h4, c2, h2⟩)))
  have fin : ∀ (x4 : Int32), ((q2.toInt = 59 ∧ x4.toInt = 4) ∨ (q2.toInt = 61 ∧ x4.toInt = 5) ∨ (q2.toInt = 40 ∧ x4.toInt = 6) ∨ (q2.toInt = 41 ∧ x4.toInt = 7) ∨ (¬ q2.toInt = 59 ∧ ¬ q2.toInt = 61 ∧ ¬ q2.toInt = 40 ∧ ¬ q2.toInt = 41 ∧ x4.toInt = 3)) → pa (f_X7_sign_b43 tokens tk tp tv tn q1 q2 x4) (fun o => ∃ k : Int32, o = (1, tokens + 1, upd tk tokens.toNatClampNeg k, upd tp tokens.toNatClampNeg q1, upd tv tokens.toNatClampNeg 0, vp_updL tn tokens.toNatClampNeg 0) ∧ SK q2.toInt k.toInt) := by
    intro x4 hx
    refine pa_w (b43 x4) ?_
    rintro o ⟨k, ho, h⟩
    refine ⟨k, ho, ?_⟩
    unfold SK SG
    rcases h with h | h | h | h | ⟨h1, h2, h3, h4, rfl⟩ <;> omega
  unfold f_X7_sign
  refine pa_if (fun c => fin 4 (Or.inl ⟨z_eq (k := 59) rfl c, rfl⟩)) (fun c1 => pa_if (fun c => fin 5 (Or.inr (Or.inl ⟨z_eq (k := 61) rfl c, rfl⟩))) (fun c2 => pa_if (fun c => fin 6 (Or.inr (Or.inr (Or.inl ⟨z_eq (k := 40) rfl c, rfl⟩)))) (fun c3 => pa_if (fun c => fin 7 (Or.inr (Or.inr (Or.inr (Or.inl ⟨z_eq (k := 41) rfl c, rfl⟩))))) (fun c4 => fin 3 (Or.inr (Or.inr (Or.inr (Or.inr ⟨z_ne (k := 59) rfl c1, z_ne (k := 61) rfl c2, z_ne (k := 40) rfl c3, z_ne (k := 41) rfl c4, rfl⟩))))))))
abbrev KT : Type := Int32 → (Nat → Int32) → (Nat → Int32) → (Nat → Int32) → (Nat → Int64) → Int32 → Option (Int32 × (Nat → Int32) × (Nat → Int32) × (Nat → Int32) × (Nat → Int64))
/-- what is known of the way on behind the token at i, the j-th -/
def GO7 (b : Nat → Int) (N i : Nat) (k7 : KT) (tokens : Int32) (tk tp tv : Nat → Int32) (tn : Nat → Int64) (x1 : Int32) (Q : Int32 × (Nat → Int32) × (Nat → Int32) × (Nat → Int32) × (Nat → Int64) → Prop) : Prop :=
  ∀ (k v : Int32) (m : Int64) (y1 : Int32), CK7 b N i k v m → y1.toInt = lx_en b N i → pa (k7 (tokens + 1) (upd tk tokens.toNatClampNeg k) (upd tp tokens.toNatClampNeg x1) (upd tv tokens.toNatClampNeg v) (vp_updL tn tokens.toNatClampNeg m) y1) Q
theorem l_179 {b : Nat → Int} {N i : Nat} {k7 : KT} {size : Int32} {X : Nat → Int32} {keys : Nat → Int64} {tokens : Int32} {tk tp tv : Nat → Int32} {tn : Nat → Int64} {x1 x3 : Int32} {x4 : Int64} {x6 : Int32} {Q : Int32 × (Nat → Int32) × (Nat → Int32) × (Nat → Int32) × (Nat → Int64) → Prop} (g : GO7 b N i k7 tokens tk tp tv tn x1 Q) (hc : CK7 b N i x6 0 x4) (he : (x1 + x3).toInt = lx_en b N i) : pa (f_X7_cut_b179 k7 size X keys tokens tk tp tv tn x1 x3 x4 x6) Q := by
  unfold f_X7_cut_b179
  refine pa_bd5 (l_X7_token tokens tk tp tv tn x6 x1 0 x4) (fun a c d e f hp => ?_)
  cases hp
  exact g x6 0 x4 _ hc he
theorem l_261 {b : Nat → Int} {N i : Nat} {k7 : KT} {size : Int32} {X : Nat → Int32} {keys : Nat → Int64} {tokens : Int32} {tk tp tv : Nat → Int32} {tn : Nat → Int64} {x1 x3 : Int32} {x4 : Int32} {x6 : Int32} {Q : Int32 × (Nat → Int32) × (Nat → Int32) × (Nat → Int32) × (Nat → Int64) → Prop} (g : GO7 b N i k7 tokens tk tp tv tn x1 Q) (hc : CK7 b N i x6 x4 0) (he : (x1 + x3).toInt = lx_en b N i) : pa (f_X7_cut_b261 k7 size X keys tokens tk tp tv tn x1 x3 x4 x6) Q := by
  unfold f_X7_cut_b261
  refine pa_bd5 (l_X7_token tokens tk tp tv tn x6 x1 x4 0) (fun a c d e f hp => ?_)
  cases hp
  exact g x6 x4 0 _ hc he
/-- the keys -/
def KY (keys : Nat → Int64) : Prop := ∀ j, j < 11 → (keys j).toInt = NL 27 (lx_w j)
theorem l_146 {b : Nat → Int} {N i : Nat} {k7 : KT} {size : Int32} {X : Nat → Int32} {keys : Nat → Int64} {tokens : Int32} {tk tp tv : Nat → Int32} {tn : Nat → Int64} {x1 x3 : Int32} {x4 : Int64} {Q : Int32 × (Nat → Int32) × (Nat → Int32) × (Nat → Int32) × (Nat → Int64) → Prop} (g : GO7 b N i k7 tokens tk tp tv tn x1 Q) (ky : KY keys) {l : List Int} (hl : LD l) (h4 : x4.toInt = NL 27 l) (hc : ∀ x6 : Int32, WK l 20 x6 → CK7 b N i x6 0 x4) (he : (x1 + x3).toInt = lx_en b N i) : ∀ (n : Nat) (x6 x7 : Int32) (q : Nat), x7.toInt = q → q ≤ 11 → ((∃ j, j < q ∧ l = lx_w j ∧ x6.toInt = 20 + (j : Int)) ∨ ((∀ j, j < q → ¬ l = lx_w j) ∧ x6.toInt = 1)) → pa (f_X7_cut_b146 k7 size X keys n tokens tk tp tv tn x1 x3 x4 x6 x7) Q := by
  intro n
  induction n with
  | zero => intro x6 x7 q _ _ _; exact pa_none
  | succ n ih =>
    intro x6 x7 q h7 hq hw
    show pa (f_X7_cut_b146_st (f_X7_cut_b146 k7 size X keys n) k7 size X keys tokens tk tp tv tn x1 x3 x4 x6 x7) Q
    unfold f_X7_cut_b146_st
    refine pa_if (fun c => ?_) (fun c => pa_ck (fun _ => ?_))
    · have c2 := k_le (k := 11) rfl c
      have e : q = 11 := by omega
      rw [e] at hw
      exact l_179 g (hc x6 hw) he
    · have c2 := k_nle (k := 11) rfl c
      have ec : (x7.toNatClampNeg : Int) = x7.toInt := cl_k (by omega)
      have en : x7.toNatClampNeg = q := by omega
      have t7 := add_k (x := x7) (v := 1) (k := 1) rfl (by omega) (by omega)
      have key : keys q = x4 ↔ l = lx_w q := by
        constructor
        · intro e
          exact RL_inj (b := 27) (by decide) l (lx_w q) hl (lx_w_LD ⟨q, by omega⟩) (by rw [← h4, ← e, ky q (by omega)])
        · intro e
          exact Int64.toInt_inj.mp (by rw [ky q (by omega), h4, e])
      rw [en]
      refine pa_if (fun d => ?_) (fun d => ?_)
      · have d2 := key.mp ((lg_cmp_eq _ _).mp d)
        have t20 : ((20 : Int32) + x7).toInt = 20 + (q : Int) := by
          have e20 : (20 : Int32).toInt = 20 := rfl
          rw [Jvm.Kit.i32_add (by omega) (by omega), e20, h7]
        exact ih _ _ (q + 1) (by omega) (by omega) (Or.inl ⟨q, by omega, d2, t20⟩)
      · have d2 : ¬ l = lx_w q := fun z => d ((lg_cmp_eq _ _).mpr (key.mpr z))
        refine ih _ _ (q + 1) (by omega) (by omega) ?_
        rcases hw with ⟨j, hj, e1, e2⟩ | ⟨h1, h2⟩
        · exact Or.inl ⟨j, by omega, e1, e2⟩
        · refine Or.inr ⟨fun j hj => ?_, h2⟩
          by_cases z : j = q
          · rw [z]; exact d2
          · exact h1 j (by omega)
theorem l_85 {b : Nat → Int} {N i : Nat} {k7 : KT} {size : Int32} {X : Nat → Int32} {keys : Nat → Int64} {tokens : Int32} {tk tp tv : Nat → Int32} {tn : Nat → Int64} {x1 : Int32} {Q : Int32 × (Nat → Int32) × (Nat → Int32) × (Nat → Int32) × (Nat → Int64) → Prop} (hx : TX X b N size) (g : GO7 b N i k7 tokens tk tp tv tn x1 Q) (ky : KY keys) (h1 : x1.toInt = i) (hi : i < N) (hL : lx_L (b i) = true) : ∀ (n : Nat) (k : Nat) (x3 : Int32) (x4 : Int64), x3.toInt = k → i + k ≤ N → (∀ j, j < k → lx_L (b (i + j)) = true) → (k ≤ 8 → x4.toInt = NL 27 (lx_le b i k)) → pa (f_X7_cut_b85 k7 size X keys n tokens tk tp tv tn x1 x3 x4) Q := by
  intro n
  induction n with
  | zero => intro k x3 x4 _ _ _ _; exact pa_none
  | succ n ih =>
    intro k x3 x4 h3 hk hl h4
    have hN := hx.1
    have t13 : (x1 + x3).toInt = ((i + k : Nat) : Int) := by rw [Jvm.Kit.i32_add (by omega) (by omega)]; omega
    show pa (f_X7_cut_b85_st (f_X7_cut_b85 k7 size X keys n) k7 size X keys tokens tk tp tv tn x1 x3 x4) Q
    unfold f_X7_cut_b85_st
    refine pa_bd (l_X7_byteAt hx t13) (fun o1 ho1 => pa_bd (l_X7_isLetter o1) (fun o2 ho2 => ?_))
    rw [by_L ho1 (fun z => (hx.2.2 _ z).2)] at ho2
    refine pa_if (fun c => ?_) (fun c => ?_)
    · have hs : i + k < N → lx_L (b (i + k)) = false := by
        intro z
        have := ho2.1 c
        rw [decide_eq_true z, Bool.true_and] at this
        exact this
      have e := lx_stop k hk hl hs
      have ee : lx_en b N i = i + k := by unfold lx_en; rw [if_pos hL, e]
      have el : lx_rn lx_L b N i - i = k := by omega
      have he : (x1 + x3).toInt = lx_en b N i := by rw [ee]; exact t13
      have k0 : 0 < k := by
        rcases Nat.eq_zero_or_pos k with z | z
        · have w := hs (by omega)
          rw [z, Nat.add_zero, hL] at w
          exact absurd w (by decide)
        · exact z
      unfold f_X7_cut_b135
      refine pa_if (fun d => pa_if (fun f => ?_) (fun f => ?_)) (fun d => pa_if (fun f => ?_) (fun f => ?_))
      · have d2 := le_k (k := 8) rfl d
        have f2 := k_lt (k := 7) rfl f
        have q4 := h4 (by omega)
        refine l_179 g ?_ he
        refine ⟨fun _ => ⟨fun _ => ?_, fun z => by omega⟩, fun z => absurd z (by rw [hL]; decide), fun z => absurd z (by rw [hL]; decide)⟩
        rw [el]
        refine ⟨q4, Or.inr ⟨fun j hj z => ?_, rfl⟩⟩
        have l8 := lx_le_len (b := b) (i := i) k
        rw [z] at l8
        have l7 := lx_w_len ⟨j, hj⟩
        have : (lx_w j).length ≤ 7 := l7
        omega
      · have d2 := le_k (k := 8) rfl d
        have q4 := h4 (by omega)
        refine l_146 g ky (lx_le_LD k hl) q4 (fun x6 hw => ?_) he fuel 1 0 0 rfl (by omega) (Or.inr ⟨fun j hj => absurd hj (Nat.not_lt_zero _), rfl⟩)
        refine ⟨fun _ => ⟨fun _ => ?_, fun z => by omega⟩, fun z => absurd z (by rw [hL]; decide), fun z => absurd z (by rw [hL]; decide)⟩
        rw [el]
        exact ⟨q4, hw⟩
      · have d2 := nle_k (k := 8) rfl d
        refine l_179 g ?_ he
        exact ⟨fun _ => ⟨fun z => by omega, fun _ => rfl⟩, fun z => absurd z (by rw [hL]; decide), fun z => absurd z (by rw [hL]; decide)⟩
      · have d2 := nle_k (k := 8) rfl d
        have f2 := k_nlt (k := 7) rfl f
        omega
    · have hq := ho2.2 c
      have zN : i + k < N := by
        rcases Nat.lt_or_ge (i + k) N with z | z
        · exact z
        · rw [decide_eq_false (by omega), Bool.false_and] at hq
          exact absurd hq (by decide)
      rw [decide_eq_true zN, Bool.true_and] at hq
      have hr := of_decide_eq_true hq
      have t3 := add_k (x := x3) (v := 1) (k := 1) rfl (by omega) (by omega)
      have hl' : ∀ j, j < k + 1 → lx_L (b (i + j)) = true := by
        intro j hj
        by_cases q : j = k
        · rw [q]; exact hq
        · exact hl j (by omega)
      refine pa_if (fun d => ?_) (fun d => ?_)
      · have d2 := k_le (k := 8) rfl d
        exact ih (k + 1) _ _ (by omega) (by omega) hl' (fun z => by omega)
      · have d2 := k_nle (k := 8) rfl d
        refine pa_bd (l_X7_byteAt hx t13) (fun o6 ho6 => ?_)
        have e6 := ho6.2 zN
        have q4 := h4 (by omega)
        unfold f_X7_appends
        refine pa_bd (P := fun y => y = 27 * x4 + (o6 - 97 + 1).toInt64) (pa_if (fun f => ?_) (fun f => pa_some rfl)) (fun y hy => ih (k + 1) _ _ (by omega) (by omega) hl' (fun h8 => ?_))
        · have f2 := z_eq (k := 0) rfl f
          omega
        · rw [hy]
          have r0 := RL_0 (b := 27) (by decide) _ (lx_le_LD k hl)
          have r1 := RL_le (b := 27) (by decide) (by decide) _ (lx_le_LD k hl) (by rw [lx_le_len]; omega)
          rw [lx_le_len] at r1
          have r2 : (32 : Int) ^ k ≤ 34359738368 := (show ∀ q : Fin 8, (32 : Int) ^ q.val ≤ 34359738368 by decide) ⟨k, by omega⟩
          have a1 : ((o6 - 97) : Int32).toInt = o6.toInt - 97 := sub_k (k := 97) rfl (by omega) (by omega)
          have a2 : ((o6 - 97 + 1) : Int32).toInt = o6.toInt - 97 + 1 := by rw [add_k (k := 1) rfl (by omega) (by omega), a1]
          have m1 : (27 * x4).toInt = 27 * x4.toInt := by
            have e27 : (27 : Int64).toInt = 27 := rfl
            rw [Jvm.Kit.i64_mul (by rw [e27]; omega) (by rw [e27]; omega), e27]
          rw [Jvm.Kit.i64_add (by rw [m1, Int32.toInt_toInt64]; omega) (by rw [m1, Int32.toInt_toInt64]; omega), m1, Int32.toInt_toInt64, a2, q4]
          show 27 * NL 27 (lx_le b i k) + _ = NL 27 (lx_le b i k) * 27 + (b (i + k) - 96)
          omega
theorem l_208 {b : Nat → Int} {N i : Nat} {k7 : KT} {size : Int32} {X : Nat → Int32} {keys : Nat → Int64} {tokens : Int32} {tk tp tv : Nat → Int32} {tn : Nat → Int64} {x1 : Int32} {Q : Int32 × (Nat → Int32) × (Nat → Int32) × (Nat → Int32) × (Nat → Int64) → Prop} (hx : TX X b N size) (g : GO7 b N i k7 tokens tk tp tv tn x1 Q) (h1 : x1.toInt = i) (hi : i < N) (hL : lx_L (b i) = false) (hD : lx_D (b i) = true) : ∀ (n : Nat) (k : Nat) (x3 : Int32) (x4 : Int32), x3.toInt = k → i + k ≤ N → (∀ j, j < k → lx_D (b (i + j)) = true) → (k ≤ 4 → x4.toInt = lx_dv b i k) → pa (f_X7_cut_b208 k7 size X keys n tokens tk tp tv tn x1 x3 x4) Q := by
  intro n
  induction n with
  | zero => intro k x3 x4 _ _ _ _; exact pa_none
  | succ n ih =>
    intro k x3 x4 h3 hk hl h4
    have hN := hx.1
    have t13 : (x1 + x3).toInt = ((i + k : Nat) : Int) := by rw [Jvm.Kit.i32_add (by omega) (by omega)]; omega
    show pa (f_X7_cut_b208_st (f_X7_cut_b208 k7 size X keys n) k7 size X keys tokens tk tp tv tn x1 x3 x4) Q
    unfold f_X7_cut_b208_st
    refine pa_bd (l_X7_byteAt hx t13) (fun o1 ho1 => pa_bd (l_X7_isDigit o1) (fun o2 ho2 => ?_))
    rw [by_D ho1 (fun z => (hx.2.2 _ z).2)] at ho2
    refine pa_if (fun c => ?_) (fun c => ?_)
    · have hs : i + k < N → lx_D (b (i + k)) = false := by
        intro z
        have := ho2.1 c
        rw [decide_eq_true z, Bool.true_and] at this
        exact this
      have e := lx_stop k hk hl hs
      have ee : lx_en b N i = i + k := by unfold lx_en; rw [if_neg (by rw [hL]; decide), if_pos hD, e]
      have el : lx_rn lx_D b N i - i = k := by omega
      have he : (x1 + x3).toInt = lx_en b N i := by rw [ee]; exact t13
      refine pa_if (fun d => ?_) (fun d => ?_)
      · have d2 := le_k (k := 4) rfl d
        have q4 := h4 (by omega)
        refine l_261 g ?_ he
        refine ⟨fun z => absurd z (by rw [hL]; decide), fun _ _ => ⟨fun _ => ?_, fun z => by omega⟩, fun _ z => absurd z (by rw [hD]; decide)⟩
        rw [el]
        exact ⟨q4, rfl⟩
      · have d2 := nle_k (k := 4) rfl d
        refine l_261 g ?_ he
        exact ⟨fun z => absurd z (by rw [hL]; decide), fun _ _ => ⟨fun z => by omega, fun _ => rfl⟩, fun _ z => absurd z (by rw [hD]; decide)⟩
    · have hq := ho2.2 c
      have zN : i + k < N := by
        rcases Nat.lt_or_ge (i + k) N with z | z
        · exact z
        · rw [decide_eq_false (by omega), Bool.false_and] at hq
          exact absurd hq (by decide)
      rw [decide_eq_true zN, Bool.true_and] at hq
      have hr := of_decide_eq_true hq
      have t3 := add_k (x := x3) (v := 1) (k := 1) rfl (by omega) (by omega)
      have hl' : ∀ j, j < k + 1 → lx_D (b (i + j)) = true := by
        intro j hj
        by_cases q : j = k
        · rw [q]; exact hq
        · exact hl j (by omega)
      refine pa_if (fun d => ?_) (fun d => ?_)
      · have d2 := k_le (k := 4) rfl d
        exact ih (k + 1) _ _ (by omega) (by omega) hl' (fun z => by omega)
      · have d2 := k_nle (k := 4) rfl d
        refine pa_bd (l_X7_byteAt hx t13) (fun o6 ho6 => ih (k + 1) _ _ (by omega) (by omega) hl' (fun h8 => ?_))
        have e6 := ho6.2 zN
        have q4 := h4 (by omega)
        have r := lx_dv_rg k (by omega) hl
        have m1 : (10 * x4).toInt = 10 * x4.toInt := by
          have e10 : (10 : Int32).toInt = 10 := rfl
          rw [Jvm.Kit.i32_mul (by rw [e10]; omega) (by rw [e10]; omega), e10]
        have a1 : (10 * x4 + o6).toInt = 10 * x4.toInt + o6.toInt := by rw [Jvm.Kit.i32_add (by omega) (by omega), m1]
        rw [sub_k (k := 48) rfl (by omega) (by omega), a1, q4]
        show 10 * lx_dv b i k + _ - 48 = lx_dv b i k * 10 + (b (i + k) - 48)
        omega
/-- all tokens that the reference writes from the j-th on, at p -/
def SC7 (b : Nat → Int) (N : Nat) (j p : Nat) (tk tp tv : Nat → Int32) (tn : Nat → Int64) (o : Int32 × (Nat → Int32) × (Nat → Int32) × (Nat → Int32) × (Nat → Int64)) : Prop :=
  (∀ i, i < j → o.2.1 i = tk i ∧ o.2.2.1 i = tp i ∧ o.2.2.2.1 i = tv i ∧ o.2.2.2.2 i = tn i) ∧ ∀ m, j + m ≤ 400 → (∀ i, i < m → lx_ps b N i p < N) → TC7 b N (lx_ps b N m p) (o.2.1 (j + m)) (o.2.2.1 (j + m)) (o.2.2.2.1 (j + m)) (o.2.2.2.2 (j + m))
theorem SC7_sk {b : Nat → Int} {N j p q : Nat} {tk tp tv : Nat → Int32} {tn : Nat → Int64} {o : Int32 × (Nat → Int32) × (Nat → Int32) × (Nat → Int32) × (Nat → Int64)} (h : SC7 b N j q tk tp tv tn o) (e : lx_rn lx_K b N p = lx_rn lx_K b N q) : SC7 b N j p tk tp tv tn o := by
  refine ⟨h.1, fun m hm hk => ?_⟩
  rw [lx_ps_sk m e]
  exact h.2 m hm (fun i hi => by rw [← lx_ps_sk i e]; exact hk i hi)
theorem SC7_up {b : Nat → Int} {N j p : Nat} {tk tp tv : Nat → Int32} {tn : Nat → Int64} {o : Int32 × (Nat → Int32) × (Nat → Int32) × (Nat → Int32) × (Nat → Int64)} {k s v : Int32} {m0 : Int64} (hs : lx_rn lx_K b N p = p) (ht : TC7 b N p k s v m0) (hp : p < N) (h : SC7 b N (j + 1) (lx_en b N p) (upd tk j k) (upd tp j s) (upd tv j v) (vp_updL tn j m0) o) : SC7 b N j p tk tp tv tn o := by
  have p0 : lx_ps b N 0 p = p := hs
  refine ⟨fun i hi => ?_, fun m hm hq => ?_⟩
  · have a := h.1 i (by omega)
    unfold upd vp_updL at a
    rw [if_neg (by omega), if_neg (by omega), if_neg (by omega), if_neg (by omega)] at a
    exact a
  · cases m with
    | zero =>
      have a := h.1 j (by omega)
      unfold upd vp_updL at a
      rw [if_pos rfl, if_pos rfl, if_pos rfl, if_pos rfl] at a
      rw [p0]
      show TC7 b N p (o.2.1 j) (o.2.2.1 j) (o.2.2.2.1 j) (o.2.2.2.2 j)
      rw [a.1, a.2.1, a.2.2.1, a.2.2.2]
      exact ht
    | succ m =>
      have q : ∀ m, lx_ps b N (m + 1) p = lx_ps b N m (lx_en b N p) := by
        intro m
        show lx_ps b N m (lx_en b N (lx_rn lx_K b N p)) = _
        rw [hs]
      have g := h.2 m (by omega) (fun i hi => by rw [← q i]; exact hq (i + 1) (by omega))
      rw [show j + 1 + m = j + (m + 1) from by omega] at g
      rw [q m]
      exact g
theorem by_9 {b : Nat → Int} {q : Nat} {o v : Int32} {k : Int} (hv : v.toInt = k) (hk : 0 ≤ k ∧ k ≤ 127) (e : o.toInt = b q % 256) (hr : -128 ≤ b q ∧ b q ≤ 127) : (o = v → b q = k) ∧ (¬ o = v → ¬ b q = k) := by
  refine ⟨fun z => ?_, fun z w => z (Int32.toInt_inj.mp ?_)⟩
  · have := z_eq hv z
    omega
  · omega
theorem SK_c {c d k : Int} (e : c = d % 256) (h : -128 ≤ d ∧ d ≤ 127) (hs : SK c k) : SK d k := by
  have sg : SG d → SG c := by
    intro q
    unfold SG at q ⊢
    rcases q with q | q | q | q | q | q | q | q <;> (rw [q] at e; rw [e]; decide)
  have eq : ∀ v : Int, 0 ≤ v → v ≤ 127 → c = v → d = v := fun v h0 h1 z => by omega
  unfold SK at hs ⊢
  rcases hs with ⟨a, b⟩ | ⟨a, b⟩ | ⟨a, b⟩ | ⟨a, b⟩ | ⟨a, b⟩ | ⟨a, b⟩ | ⟨a, b⟩ | ⟨a, b⟩ | ⟨a, b⟩
  · exact Or.inl ⟨eq _ (by decide) (by decide) a, b⟩
  · exact Or.inr (Or.inl ⟨eq _ (by decide) (by decide) a, b⟩)
  · exact Or.inr (Or.inr (Or.inl ⟨eq _ (by decide) (by decide) a, b⟩))
  · exact Or.inr (Or.inr (Or.inr (Or.inl ⟨eq _ (by decide) (by decide) a, b⟩)))
  · exact Or.inr (Or.inr (Or.inr (Or.inr (Or.inl ⟨eq _ (by decide) (by decide) a, b⟩))))
  · exact Or.inr (Or.inr (Or.inr (Or.inr (Or.inr (Or.inl ⟨eq _ (by decide) (by decide) a, b⟩)))))
  · exact Or.inr (Or.inr (Or.inr (Or.inr (Or.inr (Or.inr (Or.inl ⟨eq _ (by decide) (by decide) a, b⟩))))))
  · exact Or.inr (Or.inr (Or.inr (Or.inr (Or.inr (Or.inr (Or.inr (Or.inl ⟨eq _ (by decide) (by decide) a, b⟩)))))))
  · exact Or.inr (Or.inr (Or.inr (Or.inr (Or.inr (Or.inr (Or.inr (Or.inr ⟨fun z => a (sg z), b⟩)))))))
theorem l_c7 {b : Nat → Int} {N : Nat} {size : Int32} {X : Nat → Int32} {keys : Nat → Int64} (hx : TX X b N size) (ky : KY keys) : ∀ (n : Nat) (tokens : Int32) (tk tp tv : Nat → Int32) (tn : Nat → Int64) (x1 : Int32) (j p : Nat), tokens.toInt = j → j ≤ 401 → x1.toInt = p → p ≤ N → pa (f_X7_cut_b7 size X keys n tokens tk tp tv tn x1) (SC7 b N j p tk tp tv tn) := by
  intro n
  induction n with
  | zero => intro tokens tk tp tv tn x1 j p _ _ _ _; exact pa_none
  | succ n ih =>
    intro tokens tk tp tv tn x1 j p hj hj1 h1 hp
    have hN := hx.1
    have hsz := hx.2.1
    show pa (f_X7_cut_b7_st (f_X7_cut_b7 size X keys n) size X keys tokens tk tp tv tn x1) _
    unfold f_X7_cut_b7_st
    refine pa_if (fun c => ?_) (fun c => ?_)
    · have c2 := k_lt (k := 400) rfl c
      exact pa_some ⟨fun i hi => ⟨rfl, rfl, rfl, rfl⟩, fun m hm _ => by omega⟩
    have c2 := k_nlt (k := 400) rfl c
    have ec : (tokens.toNatClampNeg : Int) = tokens.toInt := cl_k (by omega)
    have en : tokens.toNatClampNeg = j := by omega
    have tt := add_k (x := tokens) (v := 1) (k := 1) rfl (by omega) (by omega)
    have t1 := add_k (x := x1) (v := 1) (k := 1) rfl (by omega) (by omega)
    refine pa_bd (l_X7_byteAt hx h1) (fun o2 ho2 => pa_if (fun d => ?_) (fun d => ?_))
    · have d2 : p < N := by have := ti_lt d; omega
      have e2 := ho2.2 d2
      have hr := (hx.2.2 p d2).2
      have q9 := by_9 (v := 9) (k := 9) rfl (by decide) e2 hr
      have q10 := by_9 (v := 10) (k := 10) rfl (by decide) e2 hr
      have q13 := by_9 (v := 13) (k := 13) rfl (by decide) e2 hr
      have q32 := by_9 (v := 32) (k := 32) rfl (by decide) e2 hr
      have go : lx_K (b p) = true → pa (f_X7_cut_b7 size X keys n tokens tk tp tv tn (x1 + 1)) (SC7 b N j p tk tp tv tn) := fun hb => pa_w (ih tokens tk tp tv tn (x1 + 1) j (p + 1) hj hj1 (by omega) (by omega)) (fun o h => SC7_sk h (lx_go d2 hb))
      refine pa_if (fun c => go (decide_eq_true (Or.inl (q9.1 c)))) (fun n1 => ?_)
      refine pa_if (fun c => go (decide_eq_true (Or.inr (Or.inl (q10.1 c))))) (fun n2 => ?_)
      refine pa_if (fun c => go (decide_eq_true (Or.inr (Or.inr (Or.inl (q13.1 c)))))) (fun n3 => ?_)
      refine pa_if (fun c => go (decide_eq_true (Or.inr (Or.inr (Or.inr (q32.1 c)))))) (fun n4 => ?_)
      have hK : lx_K (b p) = false := decide_eq_false (by have := q9.2 n1; have := q10.2 n2; have := q13.2 n3; have := q32.2 n4; omega)
      have hs : lx_rn lx_K b N p = p := lx_no (fun _ => hK)
      have g : GO7 b N p (f_X7_cut_b7 size X keys n) tokens tk tp tv tn x1 (SC7 b N j p tk tp tv tn) := by
        intro k v m y1 hc hy
        rw [en]
        exact pa_w (ih (tokens + 1) (upd tk j k) (upd tp j x1) (upd tv j v) (vp_updL tn j m) y1 (j + 1) (lx_en b N p) (by omega) (by omega) hy (lx_en_le d2)) (fun o h => SC7_up hs ⟨h1, fun z => by omega, fun _ => hc⟩ d2 h)
      refine pa_bd (l_X7_isLetter o2) (fun o8 ho8 => ?_)
      rw [by_L ho2 (fun _ => hr), decide_eq_true d2, Bool.true_and] at ho8
      refine pa_if (fun c8 => ?_) (fun c8 => ?_)
      · have hL := ho8.1 c8
        refine pa_bd (l_X7_isDigit o2) (fun o10 ho10 => ?_)
        rw [by_D ho2 (fun _ => hr), decide_eq_true d2, Bool.true_and] at ho10
        refine pa_if (fun c10 => ?_) (fun c10 => ?_)
        · have hD := ho10.1 c10
          have ee : lx_en b N p = p + 1 := by unfold lx_en; rw [if_neg (by rw [hL]; decide), if_neg (by rw [hD]; decide)]
          refine pa_bd (l_X7_byteAt hx (q1 := x1 + 1) (q := p + 1) (by omega)) (fun o12 _ => pa_bd6 (l_X7_sign tokens tk tp tv tn x1 o2 o12) (fun a b1 c d e f hp => ?_))
          obtain ⟨k, hk, hsk⟩ := hp
          cases hk
          refine g k 0 0 (x1 + 1) ⟨fun z => absurd z (by rw [hL]; decide), fun _ z => absurd z (by rw [hD]; decide), fun _ _ => ?_⟩ (by rw [ee]; omega)
          exact SK_c e2 hr hsk
        · exact l_208 hx g h1 d2 hL (ho10.2 c10) fuel 0 0 0 rfl (by omega) (fun j hj => absurd hj (Nat.not_lt_zero _)) (fun _ => rfl)
      · exact l_85 hx g ky h1 d2 (ho8.2 c8) fuel 0 0 0 rfl (by omega) (fun j hj => absurd hj (Nat.not_lt_zero _)) (fun _ => rfl)
    · have d2 : N ≤ p := by have := ti_nlt d; omega
      have hs : lx_rn lx_K b N p = p := lx_no (fun z => by omega)
      refine pa_bd5 (l_X7_token tokens tk tp tv tn 0 size 0 0) (fun a c d e f hp => ?_)
      cases hp
      rw [en]
      refine pa_some ⟨fun i hi => ?_, fun m hm hq => ?_⟩
      · show upd tk j 0 i = tk i ∧ upd tp j size i = tp i ∧ upd tv j 0 i = tv i ∧ vp_updL tn j 0 i = tn i
        unfold upd vp_updL
        rw [if_neg (by omega), if_neg (by omega), if_neg (by omega), if_neg (by omega)]
        exact ⟨rfl, rfl, rfl, rfl⟩
      · cases m with
        | succ m =>
          have := hq 0 (by omega)
          have w : lx_ps b N 0 p = p := hs
          omega
        | zero =>
          have w : lx_ps b N 0 p = p := hs
          rw [w]
          show TC7 b N p (upd tk j 0 j) (upd tp j size j) (upd tv j 0 j) (vp_updL tn j 0 j)
          unfold upd vp_updL
          rw [if_pos rfl, if_pos rfl, if_pos rfl, if_pos rfl]
          exact ⟨by omega, fun _ => rfl, fun z => by omega⟩
theorem l_X7_cut {b : Nat → Int} {N : Nat} {size : Int32} {X : Nat → Int32} {keys : Nat → Int64} (hx : TX X b N size) (ky : KY keys) (tokens : Int32) (tk tp tv : Nat → Int32) (tn : Nat → Int64) : pa (f_X7_cut size X keys tokens tk tp tv tn) (SC7 b N 0 0 tk tp tv tn) := by
  unfold f_X7_cut
  exact l_c7 hx ky fuel 0 tk tp tv tn 0 0 0 rfl (by omega) rfl (by omega)
