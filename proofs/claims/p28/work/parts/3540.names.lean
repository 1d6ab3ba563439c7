/-! names: letters, the last one first, packed by 32 (class) and by 27 (reference) -/
def NL (b : Int) : List Int → Int
  | [] => 0
  | d :: l => NL b l * b + d
def LD (l : List Int) : Prop := ∀ d ∈ l, 1 ≤ d ∧ d ≤ 26
theorem RL_0 {b : Int} (hb : 0 ≤ b) : ∀ l, LD l → 0 ≤ NL b l := by
  intro l
  induction l with
  | nil => intro _; exact Int.le_refl _
  | cons d l ih =>
    intro h
    have hd := h d (List.mem_cons_self ..)
    have hl := ih (fun x hx => h x (List.mem_cons_of_mem _ hx))
    have m : 0 ≤ NL b l * b := Int.mul_nonneg hl hb
    show 0 ≤ NL b l * b + d
    omega
theorem RL_inj {b : Int} (hb : 27 ≤ b) : ∀ l l', LD l → LD l' → NL b l = NL b l' → l = l' := by
  intro l
  induction l with
  | nil =>
    intro l' _ h' e
    cases l' with
    | nil => rfl
    | cons d l' =>
      have hd := h' d (List.mem_cons_self ..)
      have hl := RL_0 (b := b) (by omega) l' (fun x hx => h' x (List.mem_cons_of_mem _ hx))
      have m : 0 ≤ NL b l' * b := Int.mul_nonneg hl (by omega)
      have e' : 0 = NL b l' * b + d := e
      omega
  | cons d l ih =>
    intro l' h h' e
    have hd := h d (List.mem_cons_self ..)
    have hl := RL_0 (b := b) (by omega) l (fun x hx => h x (List.mem_cons_of_mem _ hx))
    have m : 0 ≤ NL b l * b := Int.mul_nonneg hl (by omega)
    cases l' with
    | nil =>
      have e' : NL b l * b + d = 0 := e
      omega
    | cons d' l' =>
      have hd' := h' d' (List.mem_cons_self ..)
      have hl' := RL_0 (b := b) (by omega) l' (fun x hx => h' x (List.mem_cons_of_mem _ hx))
      have e' : NL b l * b + d = NL b l' * b + d' := e
      have ex : NL b l = NL b l' := by
        rcases Int.lt_trichotomy (NL b l) (NL b l') with q | q | q
        · have k : (NL b l + 1) * b ≤ NL b l' * b := Int.mul_le_mul_of_nonneg_right (by omega) (by omega)
          rw [Int.add_mul, Int.one_mul] at k
          omega
        · exact q
        · have k : (NL b l' + 1) * b ≤ NL b l * b := Int.mul_le_mul_of_nonneg_right (by omega) (by omega)
          rw [Int.add_mul, Int.one_mul] at k
          omega
      have ed : d = d' := by rw [ex] at e'; omega
      rw [ed, ih l' (fun x hx => h x (List.mem_cons_of_mem _ hx)) (fun x hx => h' x (List.mem_cons_of_mem _ hx)) ex]
/-- eight letters at most: the number stays small -/
theorem RL_le {b : Int} (hb : 27 ≤ b) (hb2 : b ≤ 32) : ∀ l, LD l → (l.length ≤ 8) → NL b l < 32 ^ l.length := by
  intro l
  induction l with
  | nil => intro _ _; show (0 : Int) < 32 ^ 0; decide
  | cons d l ih =>
    intro h hl
    have hd := h d (List.mem_cons_self ..)
    have h0 := RL_0 (b := b) (by omega) l (fun x hx => h x (List.mem_cons_of_mem _ hx))
    have k := ih (fun x hx => h x (List.mem_cons_of_mem _ hx)) (by simp at hl; omega)
    have m : NL b l * b ≤ NL b l * 32 := Int.mul_le_mul_of_nonneg_left hb2 h0
    have k2 : (NL b l + 1) * 32 ≤ 32 ^ l.length * 32 := Int.mul_le_mul_of_nonneg_right (by omega) (by decide)
    show NL b l * b + d < 32 ^ (l.length + 1)
    rw [Int.pow_succ]
    omega
/-- a NAME on both sides -/
def NR (v n : Int64) : Prop := ∃ l, LD l ∧ v.toInt = NL 32 l ∧ n.toInt = NL 27 l
theorem NR_eq {v n v' n' : Int64} (h : NR v n) (g : NR v' n') : v = v' ↔ n = n' := by
  obtain ⟨l, h1, h2, h3⟩ := h
  obtain ⟨l', g1, g2, g3⟩ := g
  constructor
  · intro e
    have : l = l' := RL_inj (b := 32) (by decide) l l' h1 g1 (by rw [← h2, ← g2, e])
    exact Int64.toInt_inj.mp (by rw [h3, g3, this])
  · intro e
    have : l = l' := RL_inj (b := 27) (by decide) l l' h1 g1 (by rw [← h3, ← g3, e])
    exact Int64.toInt_inj.mp (by rw [h2, g2, this])
