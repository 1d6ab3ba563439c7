/-! tokens: what the bytes b of a text of N bytes give -/
def lx_L (c : Int) : Bool := decide (97 ≤ c ∧ c ≤ 122)
def lx_D (c : Int) : Bool := decide (48 ≤ c ∧ c ≤ 57)
def lx_K (c : Int) : Bool := decide (c = 9 ∨ c = 10 ∨ c = 13 ∨ c = 32)
def lx_ru (p : Int → Bool) (b : Nat → Int) : Nat → Nat → Nat
  | 0, i => i
  | k + 1, i => if p (b i) = true then lx_ru p b k (i + 1) else i
def lx_rn (p : Int → Bool) (b : Nat → Int) (N i : Nat) : Nat := lx_ru p b (N - i) i
theorem lx_go {p : Int → Bool} {b : Nat → Int} {N i : Nat} (h : i < N) (hp : p (b i) = true) : lx_rn p b N i = lx_rn p b N (i + 1) := by
  unfold lx_rn
  obtain ⟨k, hk⟩ : ∃ k, N - i = k + 1 := ⟨N - i - 1, by omega⟩
  rw [hk, show N - (i + 1) = k from by omega]
  show (if p (b i) = true then lx_ru p b k (i + 1) else i) = _
  rw [if_pos hp]
theorem lx_no {p : Int → Bool} {b : Nat → Int} {N i : Nat} (h : i < N → p (b i) = false) : lx_rn p b N i = i := by
  unfold lx_rn
  by_cases q : i < N
  · obtain ⟨k, hk⟩ : ∃ k, N - i = k + 1 := ⟨N - i - 1, by omega⟩
    rw [hk]
    show (if p (b i) = true then lx_ru p b k (i + 1) else i) = _
    rw [if_neg (by rw [h q]; decide)]
  · rw [show N - i = 0 from by omega]
    rfl
theorem lx_ru_ge {p : Int → Bool} {b : Nat → Int} : ∀ k i, i ≤ lx_ru p b k i ∧ lx_ru p b k i ≤ i + k := by
  intro k
  induction k with
  | zero => intro i; exact ⟨Nat.le_refl _, Nat.le_refl _⟩
  | succ k ih =>
    intro i
    show i ≤ (if p (b i) = true then lx_ru p b k (i + 1) else i) ∧ (if p (b i) = true then lx_ru p b k (i + 1) else i) ≤ i + (k + 1)
    have h := ih (i + 1)
    by_cases q : p (b i) = true
    · rw [if_pos q]; omega
    · rw [if_neg q]; omega
theorem lx_rn_ge {p : Int → Bool} {b : Nat → Int} {N i : Nat} : i ≤ lx_rn p b N i := (lx_ru_ge (N - i) i).1
theorem lx_rn_le {p : Int → Bool} {b : Nat → Int} {N i : Nat} (h : i ≤ N) : lx_rn p b N i ≤ N := by
  have := (lx_ru_ge (p := p) (b := b) (N - i) i).2
  unfold lx_rn
  omega
theorem lx_run {p : Int → Bool} {b : Nat → Int} {N i : Nat} : ∀ k, i + k ≤ N → (∀ j, j < k → p (b (i + j)) = true) → lx_rn p b N i = lx_rn p b N (i + k) := by
  intro k
  induction k with
  | zero => intro _ _; rfl
  | succ k ih =>
    intro h hp
    rw [ih (by omega) (fun j hj => hp j (by omega)), lx_go (by omega) (hp k (by omega))]
    rfl
theorem lx_stop {p : Int → Bool} {b : Nat → Int} {N i : Nat} (k : Nat) (h : i + k ≤ N) (hp : ∀ j, j < k → p (b (i + j)) = true) (hs : i + k < N → p (b (i + k)) = false) : lx_rn p b N i = i + k := by
  rw [lx_run k h hp, lx_no hs]
theorem lx_ru_in {p : Int → Bool} {b : Nat → Int} : ∀ k i j, j < lx_ru p b k i - i → p (b (i + j)) = true := by
  intro k
  induction k with
  | zero => intro i j h; exact absurd h (by show ¬ j < i - i; omega)
  | succ k ih =>
    intro i j h
    change j < (if p (b i) = true then lx_ru p b k (i + 1) else i) - i at h
    by_cases q : p (b i) = true
    · rw [if_pos q] at h
      cases j with
      | zero => exact q
      | succ j =>
        have g := ih (i + 1) j (by omega)
        rw [show i + (j + 1) = i + 1 + j from by omega]
        exact g
    · rw [if_neg q] at h
      omega
theorem lx_in {p : Int → Bool} {b : Nat → Int} {N i : Nat} (j : Nat) (h : j < lx_rn p b N i - i) : p (b (i + j)) = true := lx_ru_in (N - i) i j h
/-- letters from i on, k of them, the last one first -/
def lx_le (b : Nat → Int) (i : Nat) : Nat → List Int
  | 0 => []
  | k + 1 => (b (i + k) - 96) :: lx_le b i k
theorem lx_le_LD {b : Nat → Int} {i : Nat} : ∀ k, (∀ j, j < k → lx_L (b (i + j)) = true) → LD (lx_le b i k) := by
  intro k
  induction k with
  | zero => intro _ d hd; exact absurd hd List.not_mem_nil
  | succ k ih =>
    intro h d hd
    rcases List.mem_cons.mp hd with e | hd
    · have := of_decide_eq_true (h k (by omega))
      omega
    · exact ih (fun j hj => h j (by omega)) d hd
theorem lx_le_len {b : Nat → Int} {i : Nat} : ∀ k, (lx_le b i k).length = k := by
  intro k
  induction k with
  | zero => rfl
  | succ k ih =>
    show (lx_le b i k).length + 1 = k + 1
    rw [ih]
/-- digits from i on, k of them, as a number -/
def lx_dv (b : Nat → Int) (i : Nat) : Nat → Int
  | 0 => 0
  | k + 1 => lx_dv b i k * 10 + (b (i + k) - 48)
theorem lx_dv_rg {b : Nat → Int} {i : Nat} : ∀ k, k ≤ 4 → (∀ j, j < k → lx_D (b (i + j)) = true) → 0 ≤ lx_dv b i k ∧ lx_dv b i k ≤ 9999 ∧ (k ≤ 3 → lx_dv b i k ≤ 999) ∧ (k ≤ 2 → lx_dv b i k ≤ 99) ∧ (k ≤ 1 → lx_dv b i k ≤ 9) ∧ (k = 0 → lx_dv b i k = 0) := by
  intro k
  induction k with
  | zero =>
    intro _ _
    show (0 : Int) ≤ 0 ∧ (0 : Int) ≤ 9999 ∧ (0 ≤ 3 → (0 : Int) ≤ 999) ∧ (0 ≤ 2 → (0 : Int) ≤ 99) ∧ (0 ≤ 1 → (0 : Int) ≤ 9) ∧ (0 = 0 → (0 : Int) = 0)
    omega
  | succ k ih =>
    intro hk h
    have q := ih (by omega) (fun j hj => h j (by omega))
    have d := of_decide_eq_true (h k (by omega))
    show 0 ≤ lx_dv b i k * 10 + (b (i + k) - 48) ∧ lx_dv b i k * 10 + (b (i + k) - 48) ≤ 9999 ∧ (k + 1 ≤ 3 → lx_dv b i k * 10 + (b (i + k) - 48) ≤ 999) ∧ (k + 1 ≤ 2 → lx_dv b i k * 10 + (b (i + k) - 48) ≤ 99) ∧ (k + 1 ≤ 1 → lx_dv b i k * 10 + (b (i + k) - 48) ≤ 9) ∧ (k + 1 = 0 → lx_dv b i k * 10 + (b (i + k) - 48) = 0)
    omega
/-- the words, their letters the last one first -/
def lx_wl : List (List Int) := [[12, 12, 5, 3], [19, 19, 1, 16], [18, 5, 22, 9, 18], [14, 9, 1, 18], [5, 7, 1, 12, 12, 9, 22], [20, 1], [14, 5, 5, 19], [25, 1, 4], [25, 1, 4, 15, 20], [11, 15, 15, 20], [25, 18, 4]]
def lx_w (j : Nat) : List Int := lx_wl.getD j []
theorem lx_w_LD : ∀ j : Fin 11, LD (lx_w j.val) := by
  have h : ∀ j : Fin 11, ∀ d ∈ lx_w j.val, 1 ≤ d ∧ d ≤ 26 := by decide
  exact h
theorem lx_w_len : ∀ j : Fin 11, (lx_w j.val).length ≤ 7 := by decide
theorem lx_w_ne : ∀ i j : Fin 11, lx_w i.val = lx_w j.val → i = j := by decide
/-- the kind of a run of letters: a word's own or a NAME's -/
def WK (l : List Int) (z : Int) (k : Int32) : Prop := (∃ j, j < 11 ∧ l = lx_w j ∧ k.toInt = z + j) ∨ ((∀ j, j < 11 → ¬ l = lx_w j) ∧ k.toInt = 1)
def lx_en (b : Nat → Int) (N i : Nat) : Nat := if lx_L (b i) = true then lx_rn lx_L b N i else if lx_D (b i) = true then lx_rn lx_D b N i else i + 1
def lx_ps (b : Nat → Int) (N : Nat) : Nat → Nat → Nat
  | 0, p => lx_rn lx_K b N p
  | m + 1, p => lx_ps b N m (lx_en b N (lx_rn lx_K b N p))
def SG (c : Int) : Prop := c = 59 ∨ c = 61 ∨ c = 43 ∨ c = 45 ∨ c = 42 ∨ c = 47 ∨ c = 40 ∨ c = 41
theorem lx_en_gt {b : Nat → Int} {N i : Nat} (h : i < N) : i < lx_en b N i := by
  unfold lx_en
  by_cases q : lx_L (b i) = true
  · rw [if_pos q, lx_go h q]
    have := lx_rn_ge (p := lx_L) (b := b) (N := N) (i := i + 1)
    omega
  · rw [if_neg q]
    by_cases r : lx_D (b i) = true
    · rw [if_pos r, lx_go h r]
      have := lx_rn_ge (p := lx_D) (b := b) (N := N) (i := i + 1)
      omega
    · rw [if_neg r]
      omega
theorem lx_en_le {b : Nat → Int} {N i : Nat} (h : i < N) : lx_en b N i ≤ N := by
  unfold lx_en
  by_cases q : lx_L (b i) = true
  · rw [if_pos q]; exact lx_rn_le (by omega)
  · rw [if_neg q]
    by_cases r : lx_D (b i) = true
    · rw [if_pos r]; exact lx_rn_le (by omega)
    · rw [if_neg r]; omega
theorem lx_ps_ge {b : Nat → Int} {N : Nat} : ∀ m p, p ≤ lx_ps b N m p := by
  intro m
  induction m with
  | zero => intro p; exact lx_rn_ge
  | succ m ih =>
    intro p
    have h1 := lx_rn_ge (p := lx_K) (b := b) (N := N) (i := p)
    have h2 := ih (lx_en b N (lx_rn lx_K b N p))
    have h3 : lx_rn lx_K b N p ≤ lx_en b N (lx_rn lx_K b N p) := by
      by_cases q : lx_rn lx_K b N p < N
      · exact Nat.le_of_lt (lx_en_gt q)
      · unfold lx_en
        by_cases r : lx_L (b (lx_rn lx_K b N p)) = true
        · rw [if_pos r]; exact lx_rn_ge
        · rw [if_neg r]
          by_cases t : lx_D (b (lx_rn lx_K b N p)) = true
          · rw [if_pos t]; exact lx_rn_ge
          · rw [if_neg t]; omega
    show p ≤ lx_ps b N m (lx_en b N (lx_rn lx_K b N p))
    omega
theorem lx_ps_le {b : Nat → Int} {N : Nat} : ∀ m p, p ≤ N → (∀ i, i < m → lx_ps b N i p < N) → lx_ps b N m p ≤ N := by
  intro m
  induction m with
  | zero => intro p hp _; exact lx_rn_le hp
  | succ m ih =>
    intro p hp h
    have h0 : lx_rn lx_K b N p < N := h 0 (by omega)
    exact ih _ (lx_en_le h0) (fun i hi => h (i + 1) (by omega))
/-- the next token stands behind this one -/
theorem lx_ps_lt {b : Nat → Int} {N : Nat} : ∀ m p, lx_ps b N m p < N → lx_ps b N m p < lx_ps b N (m + 1) p := by
  intro m
  induction m with
  | zero =>
    intro p h
    have h2 := lx_ps_ge (b := b) (N := N) 0 (lx_en b N (lx_rn lx_K b N p))
    have h3 := lx_en_gt (b := b) h
    show lx_rn lx_K b N p < lx_ps b N 0 (lx_en b N (lx_rn lx_K b N p))
    exact Nat.lt_of_lt_of_le h3 h2
  | succ m ih =>
    intro p h
    exact ih _ h
theorem lx_ps_sk {b : Nat → Int} {N : Nat} (m : Nat) {p q : Nat} (h : lx_rn lx_K b N p = lx_rn lx_K b N q) : lx_ps b N m p = lx_ps b N m q := by
  cases m with
  | zero => exact h
  | succ m =>
    show lx_ps b N m (lx_en b N (lx_rn lx_K b N p)) = lx_ps b N m (lx_en b N (lx_rn lx_K b N q))
    rw [h]
/-- what the class writes of the token at i, what the reference writes of it -/
def CK5 (b : Nat → Int) (N i : Nat) (k : Int32) (v : Int64) : Prop :=
  (lx_L (b i) = true → ((lx_rn lx_L b N i - i ≤ 8 → v.toInt = NL 32 (lx_le b i (lx_rn lx_L b N i - i)) ∧ WK (lx_le b i (lx_rn lx_L b N i - i)) 5 k) ∧ (8 < lx_rn lx_L b N i - i → k.toInt = 4))) ∧
  (lx_L (b i) = false → lx_D (b i) = true → ((lx_rn lx_D b N i - i ≤ 4 → v.toInt = lx_dv b i (lx_rn lx_D b N i - i) ∧ k.toInt = 2) ∧ (4 < lx_rn lx_D b N i - i → k.toInt = 4))) ∧
  (lx_L (b i) = false → lx_D (b i) = false → (SG (b i) ∧ k.toInt = b i) ∨ (¬ SG (b i) ∧ k.toInt = 4))
def SK (c : Int) (k : Int) : Prop := (c = 59 ∧ k = 4) ∨ (c = 61 ∧ k = 5) ∨ (c = 40 ∧ k = 6) ∨ (c = 41 ∧ k = 7) ∨ (c = 43 ∧ k = 8) ∨ (c = 45 ∧ k = 9) ∨ (c = 42 ∧ k = 10) ∨ (c = 47 ∧ k = 15) ∨ (¬ SG c ∧ k = 3)
def CK7 (b : Nat → Int) (N i : Nat) (k v : Int32) (nm_ : Int64) : Prop :=
  (lx_L (b i) = true → ((lx_rn lx_L b N i - i ≤ 8 → nm_.toInt = NL 27 (lx_le b i (lx_rn lx_L b N i - i)) ∧ WK (lx_le b i (lx_rn lx_L b N i - i)) 20 k) ∧ (8 < lx_rn lx_L b N i - i → k.toInt = 3))) ∧
  (lx_L (b i) = false → lx_D (b i) = true → ((lx_rn lx_D b N i - i ≤ 4 → v.toInt = lx_dv b i (lx_rn lx_D b N i - i) ∧ k.toInt = 2) ∧ (4 < lx_rn lx_D b N i - i → k.toInt = 3))) ∧
  (lx_L (b i) = false → lx_D (b i) = false → SK (b i) k.toInt)
def TC5 (b : Nat → Int) (N i : Nat) (k s : Int32) (v : Int64) (last : Prop) : Prop := s.toInt = i ∧ ((N ≤ i ∨ last) → k.toInt = 3) ∧ (i < N → ¬ last → CK5 b N i k v)
def TC7 (b : Nat → Int) (N i : Nat) (k s v : Int32) (nm_ : Int64) : Prop := s.toInt = i ∧ (N ≤ i → k.toInt = 0) ∧ (i < N → CK7 b N i k v nm_)
