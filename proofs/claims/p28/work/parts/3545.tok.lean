/-! the tokens of both sides, one by one -/
def NE5 (K : Nat → Int32) (j : Nat) : Prop := ∀ i, i < j → ¬ (K i).toInt = 3 ∧ ¬ (K i).toInt = 4
theorem NE5_le {K : Nat → Int32} {i j : Nat} (h : NE5 K j) (hi : i ≤ j) : NE5 K i := fun k hk => h k (by omega)
theorem NE5_up {K : Nat → Int32} {j : Nat} (h : NE5 K j) (h3 : ¬ (K j).toInt = 3) (h4 : ¬ (K j).toInt = 4) : NE5 K (j + 1) := by
  intro i hi
  by_cases q : i = j
  · rw [q]; exact ⟨h3, h4⟩
  · exact h i (by omega)
def KP (a b : Int32) : Prop := (a.toInt = 1 ∧ b.toInt = 1) ∨ (a.toInt = 2 ∧ b.toInt = 2) ∨ (a.toInt = 3 ∧ b.toInt = 0) ∨ (a.toInt = 4 ∧ b.toInt = 3) ∨ (a.toInt = 59 ∧ b.toInt = 4) ∨ (a.toInt = 61 ∧ b.toInt = 5) ∨ (a.toInt = 40 ∧ b.toInt = 6) ∨ (a.toInt = 41 ∧ b.toInt = 7) ∨ (a.toInt = 43 ∧ b.toInt = 8) ∨ (a.toInt = 45 ∧ b.toInt = 9) ∨ (a.toInt = 42 ∧ b.toInt = 10) ∨ (a.toInt = 47 ∧ b.toInt = 15) ∨ (5 ≤ a.toInt ∧ a.toInt ≤ 15 ∧ b.toInt = a.toInt + 15)
def TKR (K S : Nat → Int32) (V : Nat → Int64) (kd pl vl : Nat → Int32) (tn : Nat → Int64) : Prop :=
  (∀ j, j ≤ 400 → NE5 K j → KP (K j) (kd j) ∧ ((K j).toInt = 2 → (V j).toInt32 = vl j ∧ 0 ≤ (vl j).toInt ∧ (vl j).toInt ≤ 9999) ∧ ((K j).toInt = 1 → NR (V j) (tn j)) ∧ ∀ i, i < j → (pl i).toInt < (pl j).toInt) ∧
  (∀ j, j ≤ 402 → NE5 K j → ∀ i, i ≤ j → (S i).toInt ≤ (S j).toInt) ∧ (NE5 K 402 → (K 402).toInt = 3)
theorem kp_w {j : Nat} {k kd : Int32} (hj : j < 11) (h : k.toInt = 5 + j) (h2 : kd.toInt = k.toInt + 15) : KP k kd := Or.inr (Or.inr (Or.inr (Or.inr (Or.inr (Or.inr (Or.inr (Or.inr (Or.inr (Or.inr (Or.inr (Or.inr (⟨by omega, by omega, h2⟩))))))))))))
theorem sk_pair {c : Int} {k kd : Int32} (a : (SG c ∧ k.toInt = c) ∨ (¬ SG c ∧ k.toInt = 4)) (h : SK c kd.toInt) : KP k kd ∧ ¬ k.toInt = 2 ∧ ¬ k.toInt = 1 := by
  unfold SK at h
  rcases h with ⟨e, d⟩ | ⟨e, d⟩ | ⟨e, d⟩ | ⟨e, d⟩ | ⟨e, d⟩ | ⟨e, d⟩ | ⟨e, d⟩ | ⟨e, d⟩ | ⟨e, d⟩
  · have sg : SG c := Or.inl e
    rcases a with ⟨_, q⟩ | ⟨q, _⟩
    · have q2 : k.toInt = 59 := q.trans e
      exact ⟨Or.inr (Or.inr (Or.inr (Or.inr (Or.inl ⟨q2, d⟩)))), by omega, by omega⟩
    · exact absurd sg q
  · have sg : SG c := Or.inr (Or.inl e)
    rcases a with ⟨_, q⟩ | ⟨q, _⟩
    · have q2 : k.toInt = 61 := q.trans e
      exact ⟨Or.inr (Or.inr (Or.inr (Or.inr (Or.inr (Or.inl ⟨q2, d⟩))))), by omega, by omega⟩
    · exact absurd sg q
  · have sg : SG c := Or.inr (Or.inr (Or.inr (Or.inr (Or.inr (Or.inr (Or.inl e))))))
    rcases a with ⟨_, q⟩ | ⟨q, _⟩
    · have q2 : k.toInt = 40 := q.trans e
      exact ⟨Or.inr (Or.inr (Or.inr (Or.inr (Or.inr (Or.inr (Or.inl ⟨q2, d⟩)))))), by omega, by omega⟩
    · exact absurd sg q
  · have sg : SG c := Or.inr (Or.inr (Or.inr (Or.inr (Or.inr (Or.inr (Or.inr (e)))))))
    rcases a with ⟨_, q⟩ | ⟨q, _⟩
    · have q2 : k.toInt = 41 := q.trans e
      exact ⟨Or.inr (Or.inr (Or.inr (Or.inr (Or.inr (Or.inr (Or.inr (Or.inl ⟨q2, d⟩))))))), by omega, by omega⟩
    · exact absurd sg q
  · have sg : SG c := Or.inr (Or.inr (Or.inl e))
    rcases a with ⟨_, q⟩ | ⟨q, _⟩
    · have q2 : k.toInt = 43 := q.trans e
      exact ⟨Or.inr (Or.inr (Or.inr (Or.inr (Or.inr (Or.inr (Or.inr (Or.inr (Or.inl ⟨q2, d⟩)))))))), by omega, by omega⟩
    · exact absurd sg q
  · have sg : SG c := Or.inr (Or.inr (Or.inr (Or.inl e)))
    rcases a with ⟨_, q⟩ | ⟨q, _⟩
    · have q2 : k.toInt = 45 := q.trans e
      exact ⟨Or.inr (Or.inr (Or.inr (Or.inr (Or.inr (Or.inr (Or.inr (Or.inr (Or.inr (Or.inl ⟨q2, d⟩))))))))), by omega, by omega⟩
    · exact absurd sg q
  · have sg : SG c := Or.inr (Or.inr (Or.inr (Or.inr (Or.inl e))))
    rcases a with ⟨_, q⟩ | ⟨q, _⟩
    · have q2 : k.toInt = 42 := q.trans e
      exact ⟨Or.inr (Or.inr (Or.inr (Or.inr (Or.inr (Or.inr (Or.inr (Or.inr (Or.inr (Or.inr (Or.inl ⟨q2, d⟩)))))))))), by omega, by omega⟩
    · exact absurd sg q
  · have sg : SG c := Or.inr (Or.inr (Or.inr (Or.inr (Or.inr (Or.inl e)))))
    rcases a with ⟨_, q⟩ | ⟨q, _⟩
    · have q2 : k.toInt = 47 := q.trans e
      exact ⟨Or.inr (Or.inr (Or.inr (Or.inr (Or.inr (Or.inr (Or.inr (Or.inr (Or.inr (Or.inr (Or.inr (Or.inl ⟨q2, d⟩))))))))))), by omega, by omega⟩
    · exact absurd sg q
  · rcases a with ⟨q, _⟩ | ⟨_, q⟩
    · exact absurd q e
    · exact ⟨Or.inr (Or.inr (Or.inr (Or.inl ⟨q, d⟩))), by omega, by omega⟩
theorem tk_one {b : Nat → Int} {N i : Nat} {k : Int32} {v : Int64} {kd vl : Int32} {tn : Int64} (h5 : CK5 b N i k v) (h7 : CK7 b N i kd vl tn) (hi : i < N) : KP k kd ∧ (k.toInt = 2 → v.toInt32 = vl ∧ 0 ≤ vl.toInt ∧ vl.toInt ≤ 9999) ∧ (k.toInt = 1 → NR v tn) := by
  cases hL : lx_L (b i) with
  | true =>
    have a := h5.1 hL
    have c := h7.1 hL
    by_cases q : lx_rn lx_L b N i - i ≤ 8
    · obtain ⟨a1, a2⟩ := a.1 q
      obtain ⟨c1, c2⟩ := c.1 q
      have ld : LD (lx_le b i (lx_rn lx_L b N i - i)) := by
        refine lx_le_LD _ (fun j hj => ?_)
        exact lx_in j hj
      rcases a2 with ⟨j, hj, e1, e2⟩ | ⟨n1, e2⟩
      · rcases c2 with ⟨m, hm, f1, f2⟩ | ⟨n2, f2⟩
        · have : (⟨j, hj⟩ : Fin 11) = ⟨m, hm⟩ := lx_w_ne ⟨j, hj⟩ ⟨m, hm⟩ (by show lx_w j = lx_w m; rw [← e1, f1])
          have jm : j = m := congrArg Fin.val this
          refine ⟨kp_w hj (by omega) (by omega), fun z => by omega, fun z => by omega⟩
        · exact absurd e1 (n2 j hj)
      · rcases c2 with ⟨m, hm, f1, f2⟩ | ⟨n2, f2⟩
        · exact absurd f1 (n1 m hm)
        · exact ⟨Or.inl ⟨e2, f2⟩, fun z => by omega, fun _ => ⟨_, ld, a1, c1⟩⟩
    · have a1 := a.2 (by omega)
      have c1 := c.2 (by omega)
      exact ⟨Or.inr (Or.inr (Or.inr (Or.inl ⟨a1, c1⟩))), fun z => by omega, fun z => by omega⟩
  | false =>
    cases hD : lx_D (b i) with
    | true =>
      have a := h5.2.1 hL hD
      have c := h7.2.1 hL hD
      by_cases q : lx_rn lx_D b N i - i ≤ 4
      · obtain ⟨a1, a2⟩ := a.1 q
        obtain ⟨c1, c2⟩ := c.1 q
        have r := lx_dv_rg (b := b) (i := i) (lx_rn lx_D b N i - i) q (fun j hj => lx_in j hj)
        refine ⟨Or.inr (Or.inl ⟨a2, c2⟩), fun _ => ?_, fun z => by omega⟩
        refine ⟨?_, by omega, by omega⟩
        apply Int32.toInt_inj.mp
        rw [Jvm.Kit.i32_of_i64 (by rw [a1]; omega) (by rw [a1]; omega), a1, c1]
      · have a1 := a.2 (by omega)
        have c1 := c.2 (by omega)
        exact ⟨Or.inr (Or.inr (Or.inr (Or.inl ⟨a1, c1⟩))), fun z => by omega, fun z => by omega⟩
    | false =>
      have a := h5.2.2 hL hD
      have c := h7.2.2 hL hD
      have r := sk_pair a c
      exact ⟨r.1, fun z => absurd z r.2.1, fun z => absurd z r.2.2⟩
theorem tk_all {b : Nat → Int} {N : Nat} {K0 S0 kd0 pl0 vl0 : Nat → Int32} {V0 tn0 : Nat → Int64} {K S : Nat → Int32} {V : Nat → Int64} {tokens : Int32} {kd pl vl : Nat → Int32} {tn : Nat → Int64} (h5 : SC5 b N 0 0 K0 S0 V0 (K, S, V)) (h7 : SC7 b N 0 0 kd0 pl0 vl0 tn0 (tokens, kd, pl, vl, tn)) : TKR K S V kd pl vl tn := by
  have a5 : ∀ j, j ≤ 402 → NE5 K j → TC5 b N (lx_ps b N j 0) (K j) (S j) (V j) (j = 402) := by
    intro j hj hn
    have g := h5.2 j (by omega) (fun i hi => by rw [Nat.zero_add]; exact hn i hi)
    rw [Nat.zero_add] at g
    exact g
  have lt : ∀ j, j ≤ 402 → NE5 K j → ∀ i, i < j → lx_ps b N i 0 < N := by
    intro j hj hn i hi
    have g := (a5 i (by omega) (NE5_le hn (by omega))).2.1
    have w := (hn i hi).1
    rcases Nat.lt_or_ge (lx_ps b N i 0) N with z | z
    · exact z
    · exact absurd (g (Or.inl z)) w
  have up : ∀ (m i : Nat), i + m ≤ 402 → NE5 K (i + m) → lx_ps b N i 0 + m ≤ lx_ps b N (i + m) 0 := by
    intro m
    induction m with
    | zero => intro i _ _; exact Nat.le_refl _
    | succ m ih =>
      intro i hi hn
      have g := ih i (by omega) (NE5_le hn (by omega))
      have w := lx_ps_lt (i + m) 0 (lt (i + (m + 1)) hi hn (i + m) (by omega))
      show lx_ps b N i 0 + (m + 1) ≤ lx_ps b N (i + m + 1) 0
      omega
  have a7 : ∀ j, j ≤ 400 → NE5 K j → TC7 b N (lx_ps b N j 0) (kd j) (pl j) (vl j) (tn j) := by
    intro j hj hn
    have g := h7.2 j (by omega) (lt j (by omega) hn)
    rw [Nat.zero_add] at g
    exact g
  refine ⟨fun j hj hn => ?_, fun j hj hn i hi => ?_, fun hn => (a5 402 (Nat.le_refl _) hn).2.1 (Or.inr rfl)⟩
  · have c5 := a5 j (by omega) hn
    have c7 := a7 j hj hn
    have pla : ∀ i, i < j → (pl i).toInt < (pl j).toInt := by
      intro i hi
      have d7 := a7 i (by omega) (NE5_le hn (by omega))
      have u := up (j - i) i (by omega) (by rw [show i + (j - i) = j from by omega]; exact hn)
      rw [show i + (j - i) = j from by omega] at u
      rw [c7.1, d7.1]
      omega
    rcases Nat.lt_or_ge (lx_ps b N j 0) N with z | z
    · have one := tk_one (c5.2.2 z (by omega)) (c7.2.2 z) z
      exact ⟨one.1, one.2.1, one.2.2, pla⟩
    · have e5 := c5.2.1 (Or.inl z)
      have e7 := c7.2.1 z
      exact ⟨Or.inr (Or.inr (Or.inl ⟨e5, e7⟩)), fun w => by omega, fun w => by omega, pla⟩
  · have c5 := a5 j hj hn
    have d5 := a5 i (by omega) (NE5_le hn hi)
    have u := up (j - i) i (by omega) (by rw [show i + (j - i) = j from by omega]; exact hn)
    rw [show i + (j - i) = j from by omega] at u
    rw [c5.1, d5.1]
    omega
