/-! put, feed, back; the cutting into tokens -/
theorem s_pu3 {x1 : Int32} : ∀ (n : Nat) (k : Nat) (taped : Int32) (tape : Nat → Int32) (x2 : Int32), k ≤ 4 → x2.toInt = 8 * k - 8 → 0 ≤ taped.toInt → taped.toInt + k ≤ 2000 → k < n → ok (f_X7_put_b3 n taped tape x1 x2) (fun o => o.1.toInt = taped.toInt + k) := by
  intro n
  induction n with
  | zero => intro k taped tape x2 _ _ _ _ h; exact absurd h (Nat.not_lt_zero _)
  | succ n ih =>
    intro k taped tape x2 hk hx h0 h1 hn
    show ok (f_X7_put_b3_st (f_X7_put_b3 n) taped tape x1 x2) _
    unfold f_X7_put_b3_st
    refine ok_if (fun c => ok_some ?_) (fun c => ?_)
    · have c2 := lt_k (k := 0) rfl c
      show taped.toInt = taped.toInt + k
      omega
    · have c2 := nlt_k (k := 0) rfl c
      obtain ⟨j, rfl⟩ : ∃ j, k = j + 1 := ⟨k - 1, by omega⟩
      have em : (-8 : Int32).toInt = -8 := by decide
      have t1 := add_k (x := taped) (v := 1) (k := 1) rfl (by omega) (by omega)
      have t2 := add_k (x := x2) (v := -8) (k := -8) em (by omega) (by omega)
      refine ok_ck (inb_k h0 (by omega)) (ok_nm (fun a _ => ?_))
      exact ok_w (ih j (taped + 1) a (x2 + -8) (by omega) (by rw [t2]; omega) (by omega) (by omega) (by omega)) (fun o ho => by rw [ho]; omega)
theorem s_X7_put (taped : Int32) (tape : Nat → Int32) (q1 : Int32) (h0 : 0 ≤ taped.toInt) (h1 : taped.toInt + 4 ≤ 2000) : ok (f_X7_put taped tape q1) (fun o => o.1.toInt = taped.toInt + 4) := by
  unfold f_X7_put
  have e : (24 : Int32).toInt = 24 := rfl
  exact s_pu3 fuel 4 taped tape 24 (by omega) (by omega) h0 (by omega) (by unfold fuel; omega)
/-- what feed answers, by the length alone -/
def FD (l : Int32) (r l' : Int32) : Prop := (l.toInt + 20 ≤ 2000 ∧ r = l' ∧ l'.toInt = l.toInt + 20) ∨ (2000 < l.toInt + 20 ∧ r = -1 ∧ l' = l)
theorem FD_fn {l r l' s m' : Int32} (h : FD l r l') (g : FD l s m') : r = s ∧ l' = m' := by
  unfold FD at *
  rcases h with ⟨h1, h2, h3⟩ | ⟨h1, h2, h3⟩ <;> rcases g with ⟨g1, g2, g3⟩ | ⟨g1, g2, g3⟩
  · have e : l' = m' := Int32.toInt_inj.mp (by omega)
    exact ⟨by rw [h2, g2, e], e⟩
  · omega
  · omega
  · exact ⟨by rw [h2, g2], by rw [h3, g3]⟩
theorem FD_rg {l r l' : Int32} (h : FD l r l') (hl : rg l 0 2000) : rg l' 0 2000 := by
  have a := hl.1
  have b := hl.2
  rcases h with ⟨h1, h2, h3⟩ | ⟨h1, h2, h3⟩
  · exact ⟨by omega, by omega⟩
  · rw [h3]; exact hl
theorem s_X7_feed (taped : Int32) (tape : Nat → Int32) (q1 q2 q3 q4 q5 : Int32) (h : rg taped 0 2000) : ok (f_X7_feed taped tape q1 q2 q3 q4 q5) (fun o => FD taped o.1 o.2.1) := by
  unfold f_X7_feed
  have a := h.1
  have b := h.2
  have t := add_k (x := taped) (v := 20) (k := 20) rfl (by omega) (by omega)
  refine ok_if (fun c => ?_) (fun c => ok_some (Or.inr ⟨?_, rfl, rfl⟩))
  · have c2 := le_k (k := 2000) rfl c
    refine ok_bd2 (s_X7_put taped tape q1 (by omega) (by omega)) (fun a1 b1 h1 => ?_)
    change a1.toInt = taped.toInt + 4 at h1
    refine ok_bd2 (s_X7_put a1 b1 q2 (by omega) (by omega)) (fun a2 b2 h2 => ?_)
    change a2.toInt = a1.toInt + 4 at h2
    refine ok_bd2 (s_X7_put a2 b2 q3 (by omega) (by omega)) (fun a3 b3 h3 => ?_)
    change a3.toInt = a2.toInt + 4 at h3
    refine ok_bd2 (s_X7_put a3 b3 q4 (by omega) (by omega)) (fun a4 b4 h4 => ?_)
    change a4.toInt = a3.toInt + 4 at h4
    refine ok_bd2 (s_X7_put a4 b4 q5 (by omega) (by omega)) (fun a5 b5 h5 => ok_some (Or.inl ⟨by omega, rfl, ?_⟩))
    change a5.toInt = a4.toInt + 4 at h5
    show a5.toInt = taped.toInt + 20
    omega
  · have c2 := nle_k (k := 2000) rfl c
    omega
/-- what back answers, by the length alone -/
def BK (l q : Int32) (r l' : Int32) : Prop := (0 ≤ q.toInt ∧ q.toInt ≤ l.toInt ∧ r = l - q ∧ l' = l - q) ∨ ((q.toInt < 0 ∨ l.toInt < q.toInt) ∧ r = -1 ∧ l' = l)
theorem BK_fn {l q r l' s m' : Int32} (h : BK l q r l') (g : BK l q s m') : r = s ∧ l' = m' := by
  unfold BK at *
  rcases h with ⟨h1, h2, h3, h4⟩ | ⟨h1, h2, h3⟩ <;> rcases g with ⟨g1, g2, g3, g4⟩ | ⟨g1, g2, g3⟩
  · exact ⟨by rw [h3, g3], by rw [h4, g4]⟩
  · omega
  · omega
  · exact ⟨by rw [h2, g2], by rw [h3, g3]⟩
theorem BK_rg {l q r l' : Int32} (h : BK l q r l') (hl : rg l 0 2000) : rg l' 0 2000 := by
  have a := hl.1
  have b := hl.2
  rcases h with ⟨h1, h2, h3, h4⟩ | ⟨h1, h2, h3⟩
  · have t : (l - q).toInt = l.toInt - q.toInt := Jvm.Kit.i32_sub (by omega) (by omega)
    rw [h4]
    exact ⟨by omega, by omega⟩
  · rw [h3]; exact hl
theorem s_X7_back (taped q1 : Int32) : ok (f_X7_back taped q1) (fun o => BK taped q1 o.1 o.2) := by
  unfold f_X7_back
  refine ok_if (fun c => ok_some (Or.inr ⟨Or.inl (lt_k (k := 0) rfl c), rfl, rfl⟩)) (fun c => ok_if (fun d => ok_some (Or.inl ⟨nlt_k (k := 0) rfl c, ti_le d, rfl, rfl⟩)) (fun d => ok_some (Or.inr ⟨Or.inr (ti_nle d), rfl, rfl⟩)))
theorem s_X7_byteAt (size : Int32) (text : Nat → Int32) (q1 : Int32) (hs : size.toInt ≤ 2000) (hq : 0 ≤ q1.toInt) : ok (f_X7_byteAt size text q1) (fun o => size.toInt ≤ q1.toInt → o = 0) := by
  unfold f_X7_byteAt
  refine ok_if (fun c => ok_some (fun _ => rfl)) (fun c => ?_)
  have c2 := ti_nle c
  exact ok_ck (inb_k hq (by omega)) (ok_some (fun z => absurd z (by omega)))
theorem s_X7_isLetter (q0 : Int32) : ok (f_X7_isLetter q0) (fun o => q0 = 0 → o = 0) := by
  unfold f_X7_isLetter
  refine ok_if (fun c => ok_some (fun _ => rfl)) (fun c => ok_if (fun d => ok_some (fun _ => rfl)) (fun d => ok_some (fun z => ?_)))
  rw [z] at c
  exact absurd (by decide) c
theorem s_X7_isDigit (q0 : Int32) : ok (f_X7_isDigit q0) (fun o => q0 = 0 → o = 0) := by
  unfold f_X7_isDigit
  refine ok_if (fun c => ok_some (fun _ => rfl)) (fun c => ok_if (fun d => ok_some (fun _ => rfl)) (fun d => ok_some (fun z => ?_)))
  rw [z] at c
  exact absurd (by decide) c
theorem s_X7_appends (q0 : Int64) (q2 : Int32) : ok (f_X7_appends q0 q2) (fun _ => True) := by
  unfold f_X7_appends
  exact ok_if (fun _ => ok_some trivial) (fun _ => ok_some trivial)
theorem s_X7_token (tokens : Int32) (tk tp tv : Nat → Int32) (tn : Nat → Int64) (q1 q2 q3 : Int32) (q4 : Int64) (h0 : 0 ≤ tokens.toInt) (h1 : tokens.toInt ≤ 400) : ok (f_X7_token tokens tk tp tv tn q1 q2 q3 q4) (fun o => o.1.toInt = tokens.toInt + 1) := by
  unfold f_X7_token
  have i := inb_k (n := 403) h0 (by omega)
  have t1 := add_k (x := tokens) (v := 1) (k := 1) rfl (by omega) (by omega)
  exact ok_ck i (ok_nm (fun _ _ => ok_ck i (ok_nm (fun _ _ => ok_ck i (ok_nm (fun _ _ => ok_ck i (ok_nm (fun _ _ => ok_some t1)))))))) 
theorem s_X7_sign (tokens : Int32) (tk tp tv : Nat → Int32) (tn : Nat → Int64) (q1 q2 q3 : Int32) (h0 : 0 ≤ tokens.toInt) (h1 : tokens.toInt ≤ 400) : ok (f_X7_sign tokens tk tp tv tn q1 q2 q3) (fun o => o.1 = 1 ∧ o.2.1.toInt = tokens.toInt + 1) := by
  have b85 : ∀ x1 x4, ok (f_X7_sign_b85 tokens tk tp tv tn x1 x4) (fun o => o.1 = 1 ∧ o.2.1.toInt = tokens.toInt + 1) := by
    intro x1 x4
    unfold f_X7_sign_b85
    exact ok_bd5 (s_X7_token tokens tk tp tv tn x4 x1 0 0 h0 h1) (fun a b c d e hp => ok_some ⟨rfl, hp⟩)
  have b75 : ∀ x1 x2 x4, ok (f_X7_sign_b75 tokens tk tp tv tn x1 x2 x4) (fun o => o.1 = 1 ∧ o.2.1.toInt = tokens.toInt + 1) := by
    intro x1 x2 x4
    unfold f_X7_sign_b75
    exact ok_if (fun _ => b85 _ _) (fun _ => b85 _ _)
  have b65 : ∀ x1 x2 x4, ok (f_X7_sign_b65 tokens tk tp tv tn x1 x2 x4) (fun o => o.1 = 1 ∧ o.2.1.toInt = tokens.toInt + 1) := by
    intro x1 x2 x4
    unfold f_X7_sign_b65
    exact ok_if (fun _ => b75 _ _ _) (fun _ => b75 _ _ _)
  have b55 : ∀ x1 x2 x4, ok (f_X7_sign_b55 tokens tk tp tv tn x1 x2 x4) (fun o => o.1 = 1 ∧ o.2.1.toInt = tokens.toInt + 1) := by
    intro x1 x2 x4
    unfold f_X7_sign_b55
    exact ok_if (fun _ => b65 _ _ _) (fun _ => b65 _ _ _)
  have b43 : ∀ x1 x2 x4, ok (f_X7_sign_b43 tokens tk tp tv tn x1 x2 x4) (fun o => o.1 = 1 ∧ o.2.1.toInt = tokens.toInt + 1) := by
    intro x1 x2 x4
    unfold f_X7_sign_b43
    exact ok_if (fun _ => b55 _ _ _) (fun _ => b55 _ _ _)
  unfold f_X7_sign
  exact ok_if (fun _ => b43 _ _ _) (fun _ => ok_if (fun _ => b43 _ _ _) (fun _ => ok_if (fun _ => b43 _ _ _) (fun _ => ok_if (fun _ => b43 _ _ _) (fun _ => b43 _ _ _))))
abbrev KC : Type := Int32 → (Nat → Int32) → (Nat → Int32) → (Nat → Int32) → (Nat → Int64) → Int32 → Option (Int32 × (Nat → Int32) × (Nat → Int32) × (Nat → Int32) × (Nat → Int64))
abbrev Tru5 : Int32 × (Nat → Int32) × (Nat → Int32) × (Nat → Int32) × (Nat → Int64) → Prop := fun _ => True
theorem s_cu179 (k7 : KC) {size : Int32} {text : Nat → Int32} {keys : Nat → Int64} {tokens : Int32} {x1 : Int32} (h0 : 0 ≤ tokens.toInt) (h1 : tokens.toInt ≤ 400) (x3 : Int32) (hx : 0 ≤ (x1 + x3).toInt ∧ (x1 + x3).toInt ≤ 2000) (hk : ∀ tk' a b c d i, tk'.toInt = tokens.toInt + 1 → 0 ≤ i.toInt → i.toInt ≤ 2000 → ok (k7 tk' a b c d i) Tru5) (tk tp tv : Nat → Int32) (tn : Nat → Int64) (x4 : Int64) (x6 : Int32) : ok (f_X7_cut_b179 k7 size text keys tokens tk tp tv tn x1 x3 x4 x6) Tru5 := by
  unfold f_X7_cut_b179
  exact ok_bd5 (s_X7_token tokens tk tp tv tn x6 x1 0 x4 h0 h1) (fun a b c d e hp => hk a b c d e _ hp hx.1 hx.2)
theorem s_cu146 (k7 : KC) {size : Int32} {text : Nat → Int32} {keys : Nat → Int64} {tokens : Int32} {x1 : Int32} (h0 : 0 ≤ tokens.toInt) (h1 : tokens.toInt ≤ 400) (x3 : Int32) (hx : 0 ≤ (x1 + x3).toInt ∧ (x1 + x3).toInt ≤ 2000) (hk : ∀ tk' a b c d i, tk'.toInt = tokens.toInt + 1 → 0 ≤ i.toInt → i.toInt ≤ 2000 → ok (k7 tk' a b c d i) Tru5) (tk tp tv : Nat → Int32) (tn : Nat → Int64) (x4 : Int64) : ∀ (n : Nat) (x6 x7 : Int32), 0 ≤ x7.toInt → x7.toInt ≤ 11 → (11 - x7.toInt).toNat < n → ok (f_X7_cut_b146 k7 size text keys n tokens tk tp tv tn x1 x3 x4 x6 x7) Tru5 := by
  intro n
  induction n with
  | zero => intro x6 x7 _ _ h; exact absurd h (Nat.not_lt_zero _)
  | succ n ih =>
    intro x6 x7 h7 h8 hn
    show ok (f_X7_cut_b146_st (f_X7_cut_b146 k7 size text keys n) k7 size text keys tokens tk tp tv tn x1 x3 x4 x6 x7) _
    unfold f_X7_cut_b146_st
    refine ok_if (fun c => s_cu179 k7 h0 h1 x3 hx hk tk tp tv tn x4 x6) (fun c => ?_)
    have c2 := k_nle (k := 11) rfl c
    have t1 := add_k (x := x7) (v := 1) (k := 1) rfl (by omega) (by omega)
    exact ok_ck (inb_k h7 (by omega)) (ok_if (fun _ => ih _ _ (by omega) (by omega) (by omega)) (fun _ => ih _ _ (by omega) (by omega) (by omega)))
theorem s_cu85 (k7 : KC) {size : Int32} {text : Nat → Int32} {keys : Nat → Int64} {tokens : Int32} {x1 : Int32} (hs : size.toInt ≤ 2000) (h0 : 0 ≤ tokens.toInt) (h1 : tokens.toInt ≤ 400) (hi : 0 ≤ x1.toInt ∧ x1.toInt ≤ 2000) (hk : ∀ tk' a b c d i, tk'.toInt = tokens.toInt + 1 → 0 ≤ i.toInt → i.toInt ≤ 2000 → ok (k7 tk' a b c d i) Tru5) (tk tp tv : Nat → Int32) (tn : Nat → Int64) : ∀ (n : Nat) (x3 : Int32) (x4 : Int64), 0 ≤ x3.toInt → x1.toInt + x3.toInt ≤ 2000 → (2000 - x3.toInt).toNat < n → ok (f_X7_cut_b85 k7 size text keys n tokens tk tp tv tn x1 x3 x4) Tru5 := by
  intro n
  induction n with
  | zero => intro x3 x4 _ _ h; exact absurd h (Nat.not_lt_zero _)
  | succ n ih =>
    intro x3 x4 h3 h4 hn
    show ok (f_X7_cut_b85_st (f_X7_cut_b85 k7 size text keys n) k7 size text keys tokens tk tp tv tn x1 x3 x4) _
    unfold f_X7_cut_b85_st
    have ts : (x1 + x3).toInt = x1.toInt + x3.toInt := Jvm.Kit.i32_add (by omega) (by omega)
    have b135 : ∀ t0, ok (f_X7_cut_b135 k7 size text keys tokens tk tp tv tn x1 x3 x4 t0) Tru5 := by
      intro t0
      unfold f_X7_cut_b135
      have e0 : (0 : Int32).toInt = 0 := rfl
      exact ok_if (fun _ => s_cu179 k7 h0 h1 x3 (by omega) hk tk tp tv tn x4 t0) (fun _ => s_cu146 k7 h0 h1 x3 (by omega) hk tk tp tv tn x4 fuel t0 0 (by omega) (by omega) (by unfold fuel; omega))
    refine ok_bd (s_X7_byteAt size text (x1 + x3) hs (by omega)) (fun o1 e1 => ok_bd (s_X7_isLetter o1) (fun o2 e2 => ok_if (fun c => ok_if (fun _ => b135 _) (fun _ => b135 _)) (fun c => ?_)))
    have lt : x1.toInt + x3.toInt < size.toInt := by
      rcases Int.lt_or_le (x1.toInt + x3.toInt) size.toInt with q | q
      · exact q
      · exact absurd (e2 (e1 (by omega))) c
    have t1 := add_k (x := x3) (v := 1) (k := 1) rfl (by omega) (by omega)
    refine ok_if (fun _ => ih _ _ (by omega) (by omega) (by omega)) (fun _ => ?_)
    exact ok_bd (s_X7_byteAt size text (x1 + x3) hs (by omega)) (fun o6 _ => ok_bd (s_X7_appends x4 o6) (fun o7 _ => ih _ _ (by omega) (by omega) (by omega)))
theorem s_cu208 (k7 : KC) {size : Int32} {text : Nat → Int32} {keys : Nat → Int64} {tokens : Int32} {x1 : Int32} (hs : size.toInt ≤ 2000) (h0 : 0 ≤ tokens.toInt) (h1 : tokens.toInt ≤ 400) (hi : 0 ≤ x1.toInt ∧ x1.toInt ≤ 2000) (hk : ∀ tk' a b c d i, tk'.toInt = tokens.toInt + 1 → 0 ≤ i.toInt → i.toInt ≤ 2000 → ok (k7 tk' a b c d i) Tru5) (tk tp tv : Nat → Int32) (tn : Nat → Int64) : ∀ (n : Nat) (x3 : Int32) (x4 : Int32), 0 ≤ x3.toInt → x1.toInt + x3.toInt ≤ 2000 → (2000 - x3.toInt).toNat < n → ok (f_X7_cut_b208 k7 size text keys n tokens tk tp tv tn x1 x3 x4) Tru5 := by
  intro n
  induction n with
  | zero => intro x3 x4 _ _ h; exact absurd h (Nat.not_lt_zero _)
  | succ n ih =>
    intro x3 x4 h3 h4 hn
    show ok (f_X7_cut_b208_st (f_X7_cut_b208 k7 size text keys n) k7 size text keys tokens tk tp tv tn x1 x3 x4) _
    unfold f_X7_cut_b208_st
    have ts : (x1 + x3).toInt = x1.toInt + x3.toInt := Jvm.Kit.i32_add (by omega) (by omega)
    have b261 : ∀ t1, ok (f_X7_cut_b261 k7 size text keys tokens tk tp tv tn x1 x3 x4 t1) Tru5 := by
      intro t1
      unfold f_X7_cut_b261
      exact ok_bd5 (s_X7_token tokens tk tp tv tn t1 x1 x4 0 h0 h1) (fun a b c d e hp => hk a b c d e _ hp (by omega) (by omega))
    refine ok_bd (s_X7_byteAt size text (x1 + x3) hs (by omega)) (fun o1 e1 => ok_bd (s_X7_isDigit o1) (fun o2 e2 => ok_if (fun c => ok_if (fun _ => b261 _) (fun _ => b261 _)) (fun c => ?_)))
    have lt : x1.toInt + x3.toInt < size.toInt := by
      rcases Int.lt_or_le (x1.toInt + x3.toInt) size.toInt with q | q
      · exact q
      · exact absurd (e2 (e1 (by omega))) c
    have t1 := add_k (x := x3) (v := 1) (k := 1) rfl (by omega) (by omega)
    refine ok_if (fun _ => ih _ _ (by omega) (by omega) (by omega)) (fun _ => ?_)
    exact ok_bd (s_X7_byteAt size text (x1 + x3) hs (by omega)) (fun o6 _ => ih _ _ (by omega) (by omega) (by omega))
theorem s_cu7 {size : Int32} {text : Nat → Int32} {keys : Nat → Int64} (hs0 : 0 ≤ size.toInt) (hs : size.toInt ≤ 2000) : ∀ (n : Nat) (tokens : Int32) (tk tp tv : Nat → Int32) (tn : Nat → Int64) (x1 : Int32), 0 ≤ tokens.toInt → tokens.toInt ≤ 401 → 0 ≤ x1.toInt → x1.toInt ≤ 2000 → ((401 - tokens.toInt) * 2001 + (2000 - x1.toInt)).toNat < n → ok (f_X7_cut_b7 size text keys n tokens tk tp tv tn x1) Tru5 := by
  intro n
  induction n with
  | zero => intro tokens tk tp tv tn x1 _ _ _ _ h; exact absurd h (Nat.not_lt_zero _)
  | succ n ih =>
    intro tokens tk tp tv tn x1 h0 h1 i0 i1 hn
    show ok (f_X7_cut_b7_st (f_X7_cut_b7 size text keys n) size text keys tokens tk tp tv tn x1) _
    unfold f_X7_cut_b7_st
    refine ok_if (fun _ => ok_some trivial) (fun c => ?_)
    have c2 := k_nlt (k := 400) rfl c
    refine ok_bd (s_X7_byteAt size text x1 hs i0) (fun o2 _ => ok_if (fun d => ?_) (fun d => ?_))
    · have d2 := ti_lt d
      have t1 := add_k (x := x1) (v := 1) (k := 1) rfl (by omega) (by omega)
      have sp := ih tokens tk tp tv tn (x1 + 1) h0 h1 (by omega) (by omega) (by omega)
      have hk : ∀ tk' a b c d i, tk'.toInt = tokens.toInt + 1 → 0 ≤ i.toInt → i.toInt ≤ 2000 → ok (f_X7_cut_b7 size text keys n tk' a b c d i) Tru5 := by
        intro tk' a b c d i e1 e2 e3
        exact ih tk' a b c d i (by omega) (by omega) e2 e3 (by rw [e1]; omega)
      refine ok_if (fun _ => sp) (fun _ => ok_if (fun _ => sp) (fun _ => ok_if (fun _ => sp) (fun _ => ok_if (fun _ => sp) (fun _ => ?_))))
      have e0 : (0 : Int32).toInt = 0 := rfl
      refine ok_bd (s_X7_isLetter o2) (fun o8 _ => ok_if (fun _ => ?_) (fun _ => ?_))
      · refine ok_bd (s_X7_isDigit o2) (fun o10 _ => ok_if (fun _ => ?_) (fun _ => ?_))
        · refine ok_bd (s_X7_byteAt size text (x1 + 1) hs (by omega)) (fun o12 _ => ok_bd6 (s_X7_sign tokens tk tp tv tn x1 o2 o12 h0 c2) (fun a b c d e f hp => ?_))
          obtain ⟨p1, p2⟩ := hp
          change a = 1 at p1
          subst p1
          exact hk b c d e f (x1 + 1) p2 (by omega) (by omega)
        · exact s_cu208 _ hs h0 c2 ⟨i0, i1⟩ hk tk tp tv tn fuel 0 0 (by omega) (by omega) (by unfold fuel; omega)
      · exact s_cu85 _ hs h0 c2 ⟨i0, i1⟩ hk tk tp tv tn fuel 0 0 (by omega) (by omega) (by unfold fuel; omega)
    · exact ok_bd5 (s_X7_token tokens tk tp tv tn 0 size 0 0 h0 c2) (fun a b c d e hp => ok_some trivial)
theorem s_X7_cut (size : Int32) (text : Nat → Int32) (keys : Nat → Int64) (tokens : Int32) (tk tp tv : Nat → Int32) (tn : Nat → Int64) (hs0 : 0 ≤ size.toInt) (hs : size.toInt ≤ 2000) : ok (f_X7_cut size text keys tokens tk tp tv tn) Tru5 := by
  unfold f_X7_cut
  have e0 : (0 : Int32).toInt = 0 := rfl
  exact s_cu7 hs0 hs fuel 0 tk tp tv tn 0 (by omega) (by omega) (by omega) (by omega) (by unfold fuel; omega)
