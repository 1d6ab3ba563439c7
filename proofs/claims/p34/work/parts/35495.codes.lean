/-! the codes of a LAW on both sides -/
/-- one code on both sides; own: the village's own cell -/
def CP (own c5 c7 i7 : Int32) : Prop := (c7 = 0 ∧ c5 = i7 ∧ 0 ≤ i7.toInt ∧ i7.toInt ≤ 9999) ∨ (c7 = 2 ∧ c5 = -1) ∨ (c7 = 3 ∧ c5 = -2) ∨ (c7 = 4 ∧ c5 = -3) ∨ (c7 = 5 ∧ c5 = -4) ∨ (c7 = 1 ∧ ((i7 = 0 ∧ c5 = -20 - own) ∨ (i7 = 1 ∧ c5 = -5) ∨ (i7 = 2 ∧ c5 = -6) ∨ (i7 = 3 ∧ c5 = -7) ∨ (i7 = 4 ∧ c5 = -8) ∨ ∃ c : Int32, 0 ≤ c.toInt ∧ c.toInt < 12 ∧ i7 = 5 + c ∧ c5 = -20 - c))
/-- a sign that waits, and the class's code of it -/
def SGN (c w : Int32) : Prop := (w = 8 ∧ c = -1) ∨ (w = 9 ∧ c = -2) ∨ (w = 10 ∧ c = -3) ∨ (w = 15 ∧ c = -4)
/-- the class's code is the reference's and behind it the signs that wait above w0, the last one first -/
def CR (Z : Nat → Int32 → Int32 → Int32 → Prop) (k0 B w0 : Nat) (w cl : Int32) (code5 : Nat → Int32) (codes : Int32) (code7 ci : Nat → Int32) (waiting : Int32) (waits : Nat → Int32) (k j : Nat) : Prop :=
  k0 ≤ k ∧ codes.toInt = B + k ∧ cl.toInt = k + j ∧ waiting.toInt = w0 + j ∧ k + j ≤ 400 ∧ B ≤ 420 ∧ w0 + j ≤ 64 ∧ (w = 0 → ∀ i, i < k → Z i (code5 i) (code7 (B + i)) (ci (B + i))) ∧ ∀ i, i < j → SGN (code5 (k + i)) (waits (w0 + j - 1 - i))
/-- Z takes what CP says of the codes of this law -/
def ZZ (Z : Nat → Int32 → Int32 → Int32 → Prop) (k0 : Nat) (own : Int32) : Prop := ∀ (i : Nat) (c5 c7 i7 : Int32), k0 ≤ i → CP own c5 c7 i7 → Z i c5 c7 i7
theorem c_emit {cl q : Int32} {code : Nat → Int32} {k : Nat} (h : cl.toInt = k) (hk : k < 400) : pa (f_X5_emit cl code q) (fun o => o.1.toInt = k + 1 ∧ o.2 = upd code k q) := by
  have e : cl.toNatClampNeg = k := by have : (cl.toNatClampNeg : Int) = cl.toInt := cl_k (by omega); omega
  have t := add_k (x := cl) (v := 1) (k := 1) rfl (by omega) (by omega)
  unfold f_X5_emit
  refine pa_if (fun z => ?_) (fun _ => pa_ck (fun _ => pa_nx (pa_some ⟨by rw [t, h], by rw [e]⟩)))
  have := k_le (k := 400) rfl z
  omega
theorem m_emit {codes q1 q2 : Int32} {code ci : Nat → Int32} {m : Nat} (h : codes.toInt = m) (hk : m < 1000) : pa (f_X7_emit codes code ci q1 q2) (fun o => o.1.toInt = m + 1 ∧ o.2.1 = upd code m q1 ∧ o.2.2 = upd ci m q2) := by
  have e : codes.toNatClampNeg = m := by have : (codes.toNatClampNeg : Int) = codes.toInt := cl_k (by omega); omega
  have t := add_k (x := codes) (v := 1) (k := 1) rfl (by omega) (by omega)
  unfold f_X7_emit
  exact pa_ck (fun _ => pa_nx (pa_ck (fun _ => pa_nx (pa_some ⟨by rw [t, h], by rw [e], by rw [e]⟩))))
theorem up_no {m : Nat → Int32} {i j : Nat} {v : Int32} (h : ¬ j = i) : upd m i v j = m j := by
  unfold upd
  rw [if_neg h]
/-- both sides put out one code that is alike -/
theorem CR_put {Z : Nat → Int32 → Int32 → Int32 → Prop} {k0 B w0 : Nat} {own w w' cl cl2 codes codes2 waiting c5 c7 i7 : Int32} {code5 code7 ci waits : Nat → Int32} {k : Nat} (h : CR Z k0 B w0 w cl code5 codes code7 ci waiting waits k 0) (hk : k < 400) (e1 : cl2.toInt = k + 1) (e2 : codes2.toInt = B + k + 1) (hz : ZZ Z k0 own) (hw : w' = 0 → w = 0 ∧ CP own c5 c7 i7) : CR Z k0 B w0 w' cl2 (upd code5 k c5) codes2 (upd code7 (B + k) c7) (upd ci (B + k) i7) waiting waits (k + 1) 0 := by
  obtain ⟨hk0, h1, h2, h3, h4, h5, h6, h7, h8⟩ := h
  refine ⟨by omega, by omega, by omega, by omega, by omega, h5, h6, fun wz i hi => ?_, fun i hi => absurd hi (Nat.not_lt_zero _)⟩
  by_cases q : i = k
  · subst q
    rw [up_at, up_at, up_at]
    exact hz i _ _ _ hk0 (hw wz).2
  · rw [up_no q, up_no (by omega), up_no (by omega)]
    exact h7 (hw wz).1 i (by omega)
/-- the class alone puts out the code of the sign that has waited lowest -/
theorem CR_sign {Z : Nat → Int32 → Int32 → Int32 → Prop} {k0 B w0 : Nat} {w cl cl2 codes waiting c5 v : Int32} {code5 code7 ci waits : Nat → Int32} {k j : Nat} (h : CR Z k0 B (w0 + 1) w cl code5 codes code7 ci waiting waits k j) (hk : k + j < 400) (e1 : cl2.toInt = k + j + 1) (hw : waits w0 = v) (hs : SGN c5 v) : CR Z k0 B w0 w cl2 (upd code5 (k + j) c5) codes code7 ci waiting waits k (j + 1) := by
  obtain ⟨hk0, h1, h2, h3, h4, h5, h6, h7, h8⟩ := h
  refine ⟨hk0, h1, by omega, by omega, by omega, h5, by omega, fun wz i hi => ?_, fun i hi => ?_⟩
  · rw [up_no (by omega)]
    exact h7 wz i hi
  · by_cases q : i = j
    · subst q
      rw [up_at, show w0 + (i + 1) - 1 - i = w0 by omega, hw]
      exact hs
    · rw [up_no (by omega), show w0 + (j + 1) - 1 - i = w0 + 1 + j - 1 - i by omega]
      exact h8 i (by omega)
/-- a sign of reckoning begins to wait -/
theorem CR_wait {Z : Nat → Int32 → Int32 → Int32 → Prop} {k0 B w0 : Nat} {w cl codes waiting w2 v : Int32} {code5 code7 ci waits : Nat → Int32} {k : Nat} (h : CR Z k0 B w0 w cl code5 codes code7 ci waiting waits k 0) (hw : w0 < 64) (e : w2.toInt = w0 + 1) : CR Z k0 B (w0 + 1) w cl code5 codes code7 ci w2 (upd waits w0 v) k 0 := by
  obtain ⟨hk0, h1, h2, h3, h4, h5, h6, h7, h8⟩ := h
  exact ⟨hk0, h1, h2, by omega, h4, h5, by omega, h7, fun i hi => absurd hi (Nat.not_lt_zero _)⟩
/-- where the signs stop coming out: q = 0: all down to an OPEN; else the strong ones -/
def ST (q : Int32) (waits : Nat → Int32) (w0 : Nat) : Prop := w0 = 0 ∨ waits (w0 - 1) = 6 ∨ (¬ q = 0 ∧ (waits (w0 - 1) = 8 ∨ waits (w0 - 1) = 9))
theorem SGN_6 {c w : Int32} (h : SGN c w) : ¬ w = 6 := by
  rcases h with ⟨h, _⟩ | ⟨h, _⟩ | ⟨h, _⟩ | ⟨h, _⟩ <;> (rw [h]; decide)
theorem m_co {Z : Nat → Int32 → Int32 → Int32 → Prop} {k0 B w0 : Nat} {own w cl : Int32} {code5 waits : Nat → Int32} {q : Int32} (hz : ZZ Z k0 own) (hs : ST q waits w0) : ∀ (n : Nat) (codes waiting : Int32) (code7 ci : Nat → Int32) (k j : Nat), CR Z k0 B w0 w cl code5 codes code7 ci waiting waits k j → (¬ q = 0 → ∀ i, w0 ≤ i → i < w0 + j → ¬ waits i = 8 ∧ ¬ waits i = 9) → pa (f_X7_comesOut_b0 waits n codes waiting code7 ci q) (fun o => CR Z k0 B w0 w cl code5 o.1 o.2.2.1 o.2.2.2 o.2.1 waits (k + j) 0) := by
  intro n
  induction n with
  | zero => intro codes waiting code7 ci k j _ _; exact pa_none
  | succ n ih =>
    intro codes waiting code7 ci k j h hq
    have h0 := h
    obtain ⟨hk0, h1, h2, h3, h4, h5, h6, h7, h8⟩ := h
    show pa (f_X7_comesOut_b0_st (f_X7_comesOut_b0 waits n) waits codes waiting code7 ci q) _
    unfold f_X7_comesOut_b0_st
    cases j with
    | zero =>
      refine pa_if (fun _ => pa_some h0) (fun z => pa_ck (fun _ => pa_nx ?_))
      have z2 := nle_k (k := 0) rfl z
      have t := sub_k (x := waiting) (v := 1) (k := 1) rfl (by omega) (by omega)
      have e : (waiting - 1).toNatClampNeg = w0 - 1 := by have : ((waiting - 1).toNatClampNeg : Int) = (waiting - 1).toInt := cl_k (by omega); omega
      rw [e]
      rcases hs with y | y | ⟨y0, y⟩
      · omega
      · exact pa_if (fun _ => pa_some h0) (fun z => absurd y z)
      · refine pa_if (fun _ => pa_some h0) (fun _ => pa_if (fun z => absurd z y0) (fun _ => pa_if (fun _ => pa_some h0) (fun z8 => pa_if (fun _ => pa_some h0) (fun z9 => ?_))))
        exact (y.elim (fun w => z8 w) (fun w => z9 w)).elim
    | succ j =>
      have t := sub_k (x := waiting) (v := 1) (k := 1) rfl (by omega) (by omega)
      have e : (waiting - 1).toNatClampNeg = w0 + j := by have : ((waiting - 1).toNatClampNeg : Int) = (waiting - 1).toInt := cl_k (by omega); omega
      have sg := h8 0 (by omega)
      rw [show w0 + (j + 1) - 1 - 0 = w0 + j by omega, Nat.add_zero] at sg
      rw [e]
      have go : ∀ t1, CP own (code5 k) t1 0 → pa (f_X7_comesOut_b84 (f_X7_comesOut_b0 waits n) waits codes (waiting - 1) code7 ci q t1) (fun o => CR Z k0 B w0 w cl code5 o.1 o.2.2.1 o.2.2.2 o.2.1 waits (k + (j + 1)) 0) := by
        intro t1 hc
        unfold f_X7_comesOut_b84
        refine pa_bd3 (m_emit (m := B + k) (by omega) (by omega)) (fun a b c ho => ?_)
        obtain ⟨o1, o2, o3⟩ := ho
        change a.toInt = _ at o1
        change b = _ at o2
        change c = _ at o3
        subst o2 o3
        rw [show k + (j + 1) = (k + 1) + j by omega]
        refine ih a (waiting - 1) _ _ (k + 1) j ⟨by omega, by omega, by omega, by omega, by omega, h5, by omega, fun wz i hi => ?_, fun i hi => ?_⟩ (fun y i a1 a2 => hq y i a1 (by omega))
        · by_cases y : i = k
          · subst y
            rw [up_at, up_at]
            exact hz i _ _ _ hk0 hc
          · rw [up_no (by omega), up_no (by omega)]
            exact h7 wz i (by omega)
        · have g := h8 (i + 1) (by omega)
          rw [show k + (i + 1) = k + 1 + i by omega, show w0 + (j + 1) - 1 - (i + 1) = w0 + j - 1 - i by omega] at g
          exact g
      have go2 : pa (f_X7_comesOut_b42 (f_X7_comesOut_b0 waits n) waits codes waiting code7 ci q (waits (w0 + j))) (fun o => CR Z k0 B w0 w cl code5 o.1 o.2.2.1 o.2.2.2 o.2.1 waits (k + (j + 1)) 0) := by
        unfold f_X7_comesOut_b42
        rcases sg with ⟨w, c⟩ | ⟨w, c⟩ | ⟨w, c⟩ | ⟨w, c⟩
        · exact pa_if (fun _ => go 2 (Or.inr (Or.inl ⟨rfl, c⟩))) (fun z => absurd w z)
        · exact pa_if (fun z => absurd (w.symm.trans z) (by decide)) (fun _ => pa_if (fun _ => go 3 (Or.inr (Or.inr (Or.inl ⟨rfl, c⟩)))) (fun z => absurd w z))
        · exact pa_if (fun z => absurd (w.symm.trans z) (by decide)) (fun _ => pa_if (fun z => absurd (w.symm.trans z) (by decide)) (fun _ => pa_if (fun _ => go 4 (Or.inr (Or.inr (Or.inr (Or.inl ⟨rfl, c⟩))))) (fun z => absurd w z)))
        · exact pa_if (fun z => absurd (w.symm.trans z) (by decide)) (fun _ => pa_if (fun z => absurd (w.symm.trans z) (by decide)) (fun _ => pa_if (fun z => absurd (w.symm.trans z) (by decide)) (fun _ => go 5 (Or.inr (Or.inr (Or.inr (Or.inr (Or.inl ⟨rfl, c⟩))))))))
      refine pa_if (fun z => ?_) (fun _ => pa_ck (fun _ => pa_nx ?_))
      · have z2 := le_k (k := 0) rfl z
        omega
      refine pa_if (fun z => absurd z (SGN_6 sg)) (fun _ => pa_if (fun _ => go2) (fun z => ?_))
      have g := hq z (w0 + j) (by omega) (by omega)
      exact pa_if (fun y => absurd y g.1) (fun _ => pa_if (fun y => absurd y g.2) (fun _ => go2))
theorem m_comes {Z : Nat → Int32 → Int32 → Int32 → Prop} {k0 B w0 : Nat} {own w cl : Int32} {code5 waits : Nat → Int32} {q codes waiting : Int32} {code7 ci : Nat → Int32} {k j : Nat} (hz : ZZ Z k0 own) (hs : ST q waits w0) (h : CR Z k0 B w0 w cl code5 codes code7 ci waiting waits k j) (hq : ¬ q = 0 → ∀ i, w0 ≤ i → i < w0 + j → ¬ waits i = 8 ∧ ¬ waits i = 9) : pa (f_X7_comesOut waits codes waiting code7 ci q) (fun o => CR Z k0 B w0 w cl code5 o.1 o.2.2.1 o.2.2.2 o.2.1 waits (k + j) 0) := by
  unfold f_X7_comesOut
  exact m_co hz hs fuel codes waiting code7 ci k j h hq
/-- an OPEN begins to wait, or goes -/
theorem CR_close {Z : Nat → Int32 → Int32 → Int32 → Prop} {k0 B w0 : Nat} {w cl codes waiting w2 : Int32} {code5 code7 ci waits : Nat → Int32} {k : Nat} (h : CR Z k0 B (w0 + 1) w cl code5 codes code7 ci waiting waits k 0) (e : w2.toInt = w0) : CR Z k0 B w0 w cl code5 codes code7 ci w2 waits k 0 := by
  obtain ⟨hk0, h1, h2, h3, h4, h5, h6, h7, h8⟩ := h
  exact ⟨hk0, h1, h2, by omega, h4, h5, by omega, h7, fun i hi => absurd hi (Nat.not_lt_zero _)⟩
theorem CR_w {Z : Nat → Int32 → Int32 → Int32 → Prop} {k0 B w0 : Nat} {w w' cl codes waiting : Int32} {code5 code7 ci waits : Nat → Int32} {k j : Nat} (h : CR Z k0 B w0 w cl code5 codes code7 ci waiting waits k j) (e : w' = 0 → w = 0) : CR Z k0 B w0 w' cl code5 codes code7 ci waiting waits k j := by
  obtain ⟨hk0, h1, h2, h3, h4, h5, h6, h7, h8⟩ := h
  exact ⟨hk0, h1, h2, h3, h4, h5, h6, fun z => h7 (e z), h8⟩
