/-! one token on both sides: accept and must, number and bounded, names -/
theorem kp_1 {a b : Int32} (h : KP a b) : a = 1 ↔ b = 1 := by
  constructor
  · intro e
    have q := z_eq (k := 1) rfl e
    refine z_of (k := 1) rfl ?_
    rcases h with ⟨u, v⟩ | ⟨u, v⟩ | ⟨u, v⟩ | ⟨u, v⟩ | ⟨u, v⟩ | ⟨u, v⟩ | ⟨u, v⟩ | ⟨u, v⟩ | ⟨u, v⟩ | ⟨u, v⟩ | ⟨u, v⟩ | ⟨u, v⟩ | ⟨u, u2, v⟩ <;> omega
  · intro e
    have q := z_eq (k := 1) rfl e
    refine z_of (k := 1) rfl ?_
    rcases h with ⟨u, v⟩ | ⟨u, v⟩ | ⟨u, v⟩ | ⟨u, v⟩ | ⟨u, v⟩ | ⟨u, v⟩ | ⟨u, v⟩ | ⟨u, v⟩ | ⟨u, v⟩ | ⟨u, v⟩ | ⟨u, v⟩ | ⟨u, v⟩ | ⟨u, u2, v⟩ <;> omega
theorem kp_2 {a b : Int32} (h : KP a b) : a = 2 ↔ b = 2 := by
  constructor
  · intro e
    have q := z_eq (k := 2) rfl e
    refine z_of (k := 2) rfl ?_
    rcases h with ⟨u, v⟩ | ⟨u, v⟩ | ⟨u, v⟩ | ⟨u, v⟩ | ⟨u, v⟩ | ⟨u, v⟩ | ⟨u, v⟩ | ⟨u, v⟩ | ⟨u, v⟩ | ⟨u, v⟩ | ⟨u, v⟩ | ⟨u, v⟩ | ⟨u, u2, v⟩ <;> omega
  · intro e
    have q := z_eq (k := 2) rfl e
    refine z_of (k := 2) rfl ?_
    rcases h with ⟨u, v⟩ | ⟨u, v⟩ | ⟨u, v⟩ | ⟨u, v⟩ | ⟨u, v⟩ | ⟨u, v⟩ | ⟨u, v⟩ | ⟨u, v⟩ | ⟨u, v⟩ | ⟨u, v⟩ | ⟨u, v⟩ | ⟨u, v⟩ | ⟨u, u2, v⟩ <;> omega
theorem kp_3 {a b : Int32} (h : KP a b) : a = 3 ↔ b = 0 := by
  constructor
  · intro e
    have q := z_eq (k := 3) rfl e
    refine z_of (k := 0) rfl ?_
    rcases h with ⟨u, v⟩ | ⟨u, v⟩ | ⟨u, v⟩ | ⟨u, v⟩ | ⟨u, v⟩ | ⟨u, v⟩ | ⟨u, v⟩ | ⟨u, v⟩ | ⟨u, v⟩ | ⟨u, v⟩ | ⟨u, v⟩ | ⟨u, v⟩ | ⟨u, u2, v⟩ <;> omega
  · intro e
    have q := z_eq (k := 0) rfl e
    refine z_of (k := 3) rfl ?_
    rcases h with ⟨u, v⟩ | ⟨u, v⟩ | ⟨u, v⟩ | ⟨u, v⟩ | ⟨u, v⟩ | ⟨u, v⟩ | ⟨u, v⟩ | ⟨u, v⟩ | ⟨u, v⟩ | ⟨u, v⟩ | ⟨u, v⟩ | ⟨u, v⟩ | ⟨u, u2, v⟩ <;> omega
theorem kp_59 {a b : Int32} (h : KP a b) : a = 59 ↔ b = 4 := by
  constructor
  · intro e
    have q := z_eq (k := 59) rfl e
    refine z_of (k := 4) rfl ?_
    rcases h with ⟨u, v⟩ | ⟨u, v⟩ | ⟨u, v⟩ | ⟨u, v⟩ | ⟨u, v⟩ | ⟨u, v⟩ | ⟨u, v⟩ | ⟨u, v⟩ | ⟨u, v⟩ | ⟨u, v⟩ | ⟨u, v⟩ | ⟨u, v⟩ | ⟨u, u2, v⟩ <;> omega
  · intro e
    have q := z_eq (k := 4) rfl e
    refine z_of (k := 59) rfl ?_
    rcases h with ⟨u, v⟩ | ⟨u, v⟩ | ⟨u, v⟩ | ⟨u, v⟩ | ⟨u, v⟩ | ⟨u, v⟩ | ⟨u, v⟩ | ⟨u, v⟩ | ⟨u, v⟩ | ⟨u, v⟩ | ⟨u, v⟩ | ⟨u, v⟩ | ⟨u, u2, v⟩ <;> omega
theorem kp_61 {a b : Int32} (h : KP a b) : a = 61 ↔ b = 5 := by
  constructor
  · intro e
    have q := z_eq (k := 61) rfl e
    refine z_of (k := 5) rfl ?_
    rcases h with ⟨u, v⟩ | ⟨u, v⟩ | ⟨u, v⟩ | ⟨u, v⟩ | ⟨u, v⟩ | ⟨u, v⟩ | ⟨u, v⟩ | ⟨u, v⟩ | ⟨u, v⟩ | ⟨u, v⟩ | ⟨u, v⟩ | ⟨u, v⟩ | ⟨u, u2, v⟩ <;> omega
  · intro e
    have q := z_eq (k := 5) rfl e
    refine z_of (k := 61) rfl ?_
    rcases h with ⟨u, v⟩ | ⟨u, v⟩ | ⟨u, v⟩ | ⟨u, v⟩ | ⟨u, v⟩ | ⟨u, v⟩ | ⟨u, v⟩ | ⟨u, v⟩ | ⟨u, v⟩ | ⟨u, v⟩ | ⟨u, v⟩ | ⟨u, v⟩ | ⟨u, u2, v⟩ <;> omega
theorem kp_40 {a b : Int32} (h : KP a b) : a = 40 ↔ b = 6 := by
  constructor
  · intro e
    have q := z_eq (k := 40) rfl e
    refine z_of (k := 6) rfl ?_
    rcases h with ⟨u, v⟩ | ⟨u, v⟩ | ⟨u, v⟩ | ⟨u, v⟩ | ⟨u, v⟩ | ⟨u, v⟩ | ⟨u, v⟩ | ⟨u, v⟩ | ⟨u, v⟩ | ⟨u, v⟩ | ⟨u, v⟩ | ⟨u, v⟩ | ⟨u, u2, v⟩ <;> omega
  · intro e
    have q := z_eq (k := 6) rfl e
    refine z_of (k := 40) rfl ?_
    rcases h with ⟨u, v⟩ | ⟨u, v⟩ | ⟨u, v⟩ | ⟨u, v⟩ | ⟨u, v⟩ | ⟨u, v⟩ | ⟨u, v⟩ | ⟨u, v⟩ | ⟨u, v⟩ | ⟨u, v⟩ | ⟨u, v⟩ | ⟨u, v⟩ | ⟨u, u2, v⟩ <;> omega
theorem kp_41 {a b : Int32} (h : KP a b) : a = 41 ↔ b = 7 := by
  constructor
  · intro e
    have q := z_eq (k := 41) rfl e
    refine z_of (k := 7) rfl ?_
    rcases h with ⟨u, v⟩ | ⟨u, v⟩ | ⟨u, v⟩ | ⟨u, v⟩ | ⟨u, v⟩ | ⟨u, v⟩ | ⟨u, v⟩ | ⟨u, v⟩ | ⟨u, v⟩ | ⟨u, v⟩ | ⟨u, v⟩ | ⟨u, v⟩ | ⟨u, u2, v⟩ <;> omega
  · intro e
    have q := z_eq (k := 7) rfl e
    refine z_of (k := 41) rfl ?_
    rcases h with ⟨u, v⟩ | ⟨u, v⟩ | ⟨u, v⟩ | ⟨u, v⟩ | ⟨u, v⟩ | ⟨u, v⟩ | ⟨u, v⟩ | ⟨u, v⟩ | ⟨u, v⟩ | ⟨u, v⟩ | ⟨u, v⟩ | ⟨u, v⟩ | ⟨u, u2, v⟩ <;> omega
theorem kp_43 {a b : Int32} (h : KP a b) : a = 43 ↔ b = 8 := by
  constructor
  · intro e
    have q := z_eq (k := 43) rfl e
    refine z_of (k := 8) rfl ?_
    rcases h with ⟨u, v⟩ | ⟨u, v⟩ | ⟨u, v⟩ | ⟨u, v⟩ | ⟨u, v⟩ | ⟨u, v⟩ | ⟨u, v⟩ | ⟨u, v⟩ | ⟨u, v⟩ | ⟨u, v⟩ | ⟨u, v⟩ | ⟨u, v⟩ | ⟨u, u2, v⟩ <;> omega
  · intro e
    have q := z_eq (k := 8) rfl e
    refine z_of (k := 43) rfl ?_
    rcases h with ⟨u, v⟩ | ⟨u, v⟩ | ⟨u, v⟩ | ⟨u, v⟩ | ⟨u, v⟩ | ⟨u, v⟩ | ⟨u, v⟩ | ⟨u, v⟩ | ⟨u, v⟩ | ⟨u, v⟩ | ⟨u, v⟩ | ⟨u, v⟩ | ⟨u, u2, v⟩ <;> omega
theorem kp_45 {a b : Int32} (h : KP a b) : a = 45 ↔ b = 9 := by
  constructor
  · intro e
    have q := z_eq (k := 45) rfl e
    refine z_of (k := 9) rfl ?_
    rcases h with ⟨u, v⟩ | ⟨u, v⟩ | ⟨u, v⟩ | ⟨u, v⟩ | ⟨u, v⟩ | ⟨u, v⟩ | ⟨u, v⟩ | ⟨u, v⟩ | ⟨u, v⟩ | ⟨u, v⟩ | ⟨u, v⟩ | ⟨u, v⟩ | ⟨u, u2, v⟩ <;> omega
  · intro e
    have q := z_eq (k := 9) rfl e
    refine z_of (k := 45) rfl ?_
    rcases h with ⟨u, v⟩ | ⟨u, v⟩ | ⟨u, v⟩ | ⟨u, v⟩ | ⟨u, v⟩ | ⟨u, v⟩ | ⟨u, v⟩ | ⟨u, v⟩ | ⟨u, v⟩ | ⟨u, v⟩ | ⟨u, v⟩ | ⟨u, v⟩ | ⟨u, u2, v⟩ <;> omega
theorem kp_42 {a b : Int32} (h : KP a b) : a = 42 ↔ b = 10 := by
  constructor
  · intro e
    have q := z_eq (k := 42) rfl e
    refine z_of (k := 10) rfl ?_
    rcases h with ⟨u, v⟩ | ⟨u, v⟩ | ⟨u, v⟩ | ⟨u, v⟩ | ⟨u, v⟩ | ⟨u, v⟩ | ⟨u, v⟩ | ⟨u, v⟩ | ⟨u, v⟩ | ⟨u, v⟩ | ⟨u, v⟩ | ⟨u, v⟩ | ⟨u, u2, v⟩ <;> omega
  · intro e
    have q := z_eq (k := 10) rfl e
    refine z_of (k := 42) rfl ?_
    rcases h with ⟨u, v⟩ | ⟨u, v⟩ | ⟨u, v⟩ | ⟨u, v⟩ | ⟨u, v⟩ | ⟨u, v⟩ | ⟨u, v⟩ | ⟨u, v⟩ | ⟨u, v⟩ | ⟨u, v⟩ | ⟨u, v⟩ | ⟨u, v⟩ | ⟨u, u2, v⟩ <;> omega
theorem kp_47 {a b : Int32} (h : KP a b) : a = 47 ↔ b = 15 := by
  constructor
  · intro e
    have q := z_eq (k := 47) rfl e
    refine z_of (k := 15) rfl ?_
    rcases h with ⟨u, v⟩ | ⟨u, v⟩ | ⟨u, v⟩ | ⟨u, v⟩ | ⟨u, v⟩ | ⟨u, v⟩ | ⟨u, v⟩ | ⟨u, v⟩ | ⟨u, v⟩ | ⟨u, v⟩ | ⟨u, v⟩ | ⟨u, v⟩ | ⟨u, u2, v⟩ <;> omega
  · intro e
    have q := z_eq (k := 15) rfl e
    refine z_of (k := 47) rfl ?_
    rcases h with ⟨u, v⟩ | ⟨u, v⟩ | ⟨u, v⟩ | ⟨u, v⟩ | ⟨u, v⟩ | ⟨u, v⟩ | ⟨u, v⟩ | ⟨u, v⟩ | ⟨u, v⟩ | ⟨u, v⟩ | ⟨u, v⟩ | ⟨u, v⟩ | ⟨u, u2, v⟩ <;> omega
theorem kp_10 {a b : Int32} (h : KP a b) : a = 10 ↔ b = 25 := by
  constructor
  · intro e
    have q := z_eq (k := 10) rfl e
    refine z_of (k := 25) rfl ?_
    rcases h with ⟨u, v⟩ | ⟨u, v⟩ | ⟨u, v⟩ | ⟨u, v⟩ | ⟨u, v⟩ | ⟨u, v⟩ | ⟨u, v⟩ | ⟨u, v⟩ | ⟨u, v⟩ | ⟨u, v⟩ | ⟨u, v⟩ | ⟨u, v⟩ | ⟨u, u2, v⟩ <;> omega
  · intro e
    have q := z_eq (k := 25) rfl e
    refine z_of (k := 10) rfl ?_
    rcases h with ⟨u, v⟩ | ⟨u, v⟩ | ⟨u, v⟩ | ⟨u, v⟩ | ⟨u, v⟩ | ⟨u, v⟩ | ⟨u, v⟩ | ⟨u, v⟩ | ⟨u, v⟩ | ⟨u, v⟩ | ⟨u, v⟩ | ⟨u, v⟩ | ⟨u, u2, v⟩ <;> omega
theorem kp_5 {a b : Int32} (h : KP a b) : a = 5 ↔ b = 20 := by
  constructor
  · intro e
    have q := z_eq (k := 5) rfl e
    refine z_of (k := 20) rfl ?_
    rcases h with ⟨u, v⟩ | ⟨u, v⟩ | ⟨u, v⟩ | ⟨u, v⟩ | ⟨u, v⟩ | ⟨u, v⟩ | ⟨u, v⟩ | ⟨u, v⟩ | ⟨u, v⟩ | ⟨u, v⟩ | ⟨u, v⟩ | ⟨u, v⟩ | ⟨u, u2, v⟩ <;> omega
  · intro e
    have q := z_eq (k := 20) rfl e
    refine z_of (k := 5) rfl ?_
    rcases h with ⟨u, v⟩ | ⟨u, v⟩ | ⟨u, v⟩ | ⟨u, v⟩ | ⟨u, v⟩ | ⟨u, v⟩ | ⟨u, v⟩ | ⟨u, v⟩ | ⟨u, v⟩ | ⟨u, v⟩ | ⟨u, v⟩ | ⟨u, v⟩ | ⟨u, u2, v⟩ <;> omega
theorem kp_6 {a b : Int32} (h : KP a b) : a = 6 ↔ b = 21 := by
  constructor
  · intro e
    have q := z_eq (k := 6) rfl e
    refine z_of (k := 21) rfl ?_
    rcases h with ⟨u, v⟩ | ⟨u, v⟩ | ⟨u, v⟩ | ⟨u, v⟩ | ⟨u, v⟩ | ⟨u, v⟩ | ⟨u, v⟩ | ⟨u, v⟩ | ⟨u, v⟩ | ⟨u, v⟩ | ⟨u, v⟩ | ⟨u, v⟩ | ⟨u, u2, v⟩ <;> omega
  · intro e
    have q := z_eq (k := 21) rfl e
    refine z_of (k := 6) rfl ?_
    rcases h with ⟨u, v⟩ | ⟨u, v⟩ | ⟨u, v⟩ | ⟨u, v⟩ | ⟨u, v⟩ | ⟨u, v⟩ | ⟨u, v⟩ | ⟨u, v⟩ | ⟨u, v⟩ | ⟨u, v⟩ | ⟨u, v⟩ | ⟨u, v⟩ | ⟨u, u2, v⟩ <;> omega
theorem kp_7 {a b : Int32} (h : KP a b) : a = 7 ↔ b = 22 := by
  constructor
  · intro e
    have q := z_eq (k := 7) rfl e
    refine z_of (k := 22) rfl ?_
    rcases h with ⟨u, v⟩ | ⟨u, v⟩ | ⟨u, v⟩ | ⟨u, v⟩ | ⟨u, v⟩ | ⟨u, v⟩ | ⟨u, v⟩ | ⟨u, v⟩ | ⟨u, v⟩ | ⟨u, v⟩ | ⟨u, v⟩ | ⟨u, v⟩ | ⟨u, u2, v⟩ <;> omega
  · intro e
    have q := z_eq (k := 22) rfl e
    refine z_of (k := 7) rfl ?_
    rcases h with ⟨u, v⟩ | ⟨u, v⟩ | ⟨u, v⟩ | ⟨u, v⟩ | ⟨u, v⟩ | ⟨u, v⟩ | ⟨u, v⟩ | ⟨u, v⟩ | ⟨u, v⟩ | ⟨u, v⟩ | ⟨u, v⟩ | ⟨u, v⟩ | ⟨u, u2, v⟩ <;> omega
theorem kp_8 {a b : Int32} (h : KP a b) : a = 8 ↔ b = 23 := by
  constructor
  · intro e
    have q := z_eq (k := 8) rfl e
    refine z_of (k := 23) rfl ?_
    rcases h with ⟨u, v⟩ | ⟨u, v⟩ | ⟨u, v⟩ | ⟨u, v⟩ | ⟨u, v⟩ | ⟨u, v⟩ | ⟨u, v⟩ | ⟨u, v⟩ | ⟨u, v⟩ | ⟨u, v⟩ | ⟨u, v⟩ | ⟨u, v⟩ | ⟨u, u2, v⟩ <;> omega
  · intro e
    have q := z_eq (k := 23) rfl e
    refine z_of (k := 8) rfl ?_
    rcases h with ⟨u, v⟩ | ⟨u, v⟩ | ⟨u, v⟩ | ⟨u, v⟩ | ⟨u, v⟩ | ⟨u, v⟩ | ⟨u, v⟩ | ⟨u, v⟩ | ⟨u, v⟩ | ⟨u, v⟩ | ⟨u, v⟩ | ⟨u, v⟩ | ⟨u, u2, v⟩ <;> omega
theorem kp_9 {a b : Int32} (h : KP a b) : a = 9 ↔ b = 24 := by
  constructor
  · intro e
    have q := z_eq (k := 9) rfl e
    refine z_of (k := 24) rfl ?_
    rcases h with ⟨u, v⟩ | ⟨u, v⟩ | ⟨u, v⟩ | ⟨u, v⟩ | ⟨u, v⟩ | ⟨u, v⟩ | ⟨u, v⟩ | ⟨u, v⟩ | ⟨u, v⟩ | ⟨u, v⟩ | ⟨u, v⟩ | ⟨u, v⟩ | ⟨u, u2, v⟩ <;> omega
  · intro e
    have q := z_eq (k := 24) rfl e
    refine z_of (k := 9) rfl ?_
    rcases h with ⟨u, v⟩ | ⟨u, v⟩ | ⟨u, v⟩ | ⟨u, v⟩ | ⟨u, v⟩ | ⟨u, v⟩ | ⟨u, v⟩ | ⟨u, v⟩ | ⟨u, v⟩ | ⟨u, v⟩ | ⟨u, v⟩ | ⟨u, v⟩ | ⟨u, u2, v⟩ <;> omega
theorem cl_up {t : Int32} (h0 : 0 ≤ t.toInt) (h1 : t.toInt ≤ 1000) : (t + 1).toInt = t.toInt + 1 ∧ (t + 1).toNatClampNeg = t.toNatClampNeg + 1 ∧ ((t + 1) - 1).toNatClampNeg = t.toNatClampNeg := by
  have a := add_k (x := t) (v := 1) (k := 1) rfl (by omega) (by omega)
  have b := sub_k (x := t + 1) (v := 1) (k := 1) rfl (by omega) (by omega)
  have c1 : (t.toNatClampNeg : Int) = t.toInt := cl_k h0
  have c2 : ((t + 1).toNatClampNeg : Int) = (t + 1).toInt := cl_k (by omega)
  have c3 : (((t + 1) - 1).toNatClampNeg : Int) = ((t + 1) - 1).toInt := cl_k (by omega)
  exact ⟨a, by omega, by omega⟩
/-- no FAULT yet on either side -/
def PA (K pl : Nat → Int32) (n s f lf t g w wp : Int32) : Prop :=
  n = t ∧ (0 ≤ t.toInt ∧ t.toInt ≤ 400) ∧ NE5 K t.toNatClampNeg ∧ s = 0 ∧ f = 0 ∧ g = 0 ∧ lf = w ∧ (¬ w = 0 → 1 ≤ t.toInt ∧ wp.toInt ≤ (pl (t.toNatClampNeg - 1)).toInt ∧ 0 < w.toInt)
/-- the same FAULT on both sides -/
def PB (K S : Nat → Int32) (n s f fp g : Int32) : Prop :=
  f = g ∧ 1 ≤ g.toInt ∧ (s = 0 → g.toInt = 2 ∧ 401 ≤ n.toInt ∧ n.toInt ≤ 402 ∧ NE5 K n.toNatClampNeg ∧ fp.toInt ≤ (S 400).toInt)
theorem no_10 {P : Prop} (z : (1 : Int32) = 0) : P := absurd z (by decide)
theorem pb_a {K S : Nat → Int32} {n fp : Int32} : PB K S n 1 1 fp 1 := ⟨rfl, by decide, no_10⟩
theorem pb_b {K S : Nat → Int32} {n fp : Int32} : PB K S n 1 2 fp 2 := ⟨rfl, by decide, no_10⟩
def fs (a b : Int32) : Int32 := if a = 0 then b else a
theorem fs_fs {a b : Int32} (h : ¬ b = 0) : fs (fs a b) b = fs a b := by
  unfold fs
  by_cases q : a = 0
  · rw [if_pos q, if_neg h]
  · rw [if_neg q, if_neg q]
theorem fs_0 {a b : Int32} (h : ¬ b = 0) : ¬ fs a b = 0 := by
  unfold fs
  by_cases q : a = 0
  · rw [if_pos q]; exact h
  · rw [if_neg q]; exact q
-- the class, a FAULT known
theorem b_note {f fp q1 q2 : Int32} (hf : ¬ f = 0) (h : fp.toInt ≤ q2.toInt) : pa (f_X5_note f fp q1 q2) (fun o => o = (f, fp)) := by
  unfold f_X5_note f_X5_note_b15
  exact pa_if (fun c => absurd c hf) (fun _ => pa_if (fun _ => pa_some rfl) (fun d => absurd (Int32.le_iff_toInt_le.mpr h) d))
theorem b_stop {s f fp q1 q2 : Int32} (hf : ¬ f = 0) (h : fp.toInt ≤ q2.toInt) : pa (f_X5_stop s f fp q1 q2) (fun o => o = (1, f, fp)) := by
  unfold f_X5_stop
  refine pa_bd2 (b_note hf h) (fun a b hp => ?_)
  cases hp
  exact pa_some rfl
theorem ne_0 {g : Int32} (h : 1 ≤ g.toInt) : ¬ g = 0 := by
  intro e
  have := z_eq (k := 0) rfl e
  omega
theorem b_accept {K S kd pl vl : Nat → Int32} {V tn : Nat → Int64} (tk : TKR K S V kd pl vl tn) {n s f fp g q : Int32} (h : PB K S n s f fp g) (hq : ¬ q.toInt = 3 ∧ ¬ q.toInt = 4) : pa (f_X5_accept K S n s f fp q) (fun o => PB K S o.2.1 o.2.2.1 o.2.2.2.1 o.2.2.2.2 g ∧ (¬ o.1 = 0 → o.2.2.1 = 0)) := by
  obtain ⟨rfl, h1, h2⟩ := h
  unfold f_X5_accept
  refine pa_if (fun c => ?_) (fun c => pa_some ⟨⟨rfl, h1, fun z => absurd z c⟩, fun z => absurd rfl z⟩)
  obtain ⟨g2, n1, n2, hn, hf⟩ := h2 c
  have en : (n.toNatClampNeg : Int) = n.toInt := cl_k (by omega)
  have so := tk.2.1 n.toNatClampNeg (by omega) hn 400 (by omega)
  have up := cl_up (t := n) (by omega) (by omega)
  refine pa_ck (fun _ => pa_if (fun d => ?_) (fun d => pa_ck (fun _ => ?_)))
  · refine pa_if (fun e => by have := lt_k (k := 400) rfl e; omega) (fun e => pa_ck (fun _ => ?_))
    refine pa_bd2 (b_note (ne_0 h1) (by omega)) (fun a b hp => ?_)
    cases hp
    unfold f_X5_accept_b62
    have n401 : n.toInt ≠ 402 := by
      intro z
      have e402 : n.toNatClampNeg = 402 := by omega
      have k3 := tk.2.2 (by rw [← e402]; exact hn)
      rw [← e402, d] at k3
      exact hq.1 k3
    refine pa_some ⟨⟨rfl, h1, fun _ => ⟨g2, ?_, ?_, ?_, hf⟩⟩, fun _ => c⟩
    · show 401 ≤ (n + 1).toInt
      omega
    · show (n + 1).toInt ≤ 402
      omega
    · show NE5 K (n + 1).toNatClampNeg
      rw [up.2.1]
      exact NE5_up hn (by rw [d]; exact hq.1) (by rw [d]; exact hq.2)
  · refine pa_bd3 (b_stop (ne_0 h1) (by omega)) (fun a b c2 hp => ?_)
    cases hp
    exact pa_some ⟨⟨rfl, h1, no_10⟩, fun z => absurd rfl z⟩
theorem l_later (n : Int32) (S : Nat → Int32) (lf lp q : Int32) : pa (f_X5_later n S lf lp q) (fun o => 1 ≤ n.toInt → o.1 = fs lf q) := by
  unfold f_X5_later
  refine pa_if (fun c => pa_if (fun d => pa_some (fun z => ?_)) (fun d => pa_ck (fun _ => pa_nx (pa_some (fun _ => ?_))))) (fun c => pa_some (fun _ => ?_))
  · have := le_k (k := 0) rfl d
    omega
  · show q = fs lf q
    unfold fs; rw [if_pos c]
  · show lf = fs lf q
    unfold fs; rw [if_neg c]
theorem b_number {K S kd pl vl : Nat → Int32} {V tn : Nat → Int64} (tk : TKR K S V kd pl vl tn) {n s f fp g : Int32} (lf lp q1 q2 : Int32) (h : PB K S n s f fp g) : pa (f_X5_number K S V n s f fp lf lp q1 q2) (fun o => PB K S o.2.1 o.2.2.1 o.2.2.2.1 o.2.2.2.2.1 g) := by
  unfold f_X5_number
  refine pa_bd5 (b_accept tk h (by decide)) (fun a0 a1 a2 a3 a4 hp => pa_if (fun _ => pa_some hp.1) (fun _ => pa_ck (fun _ => pa_nx ?_)))
  have b33 : ∀ x, pa (f_X5_number_b33 S a1 a2 a3 a4 lf lp x) (fun o => PB K S o.2.1 o.2.2.1 o.2.2.2.1 o.2.2.2.2.1 g) := by
    intro x
    unfold f_X5_number_b33
    exact pa_bd2 (l_later _ _ _ _ _) (fun b0 b1 _ => pa_some hp.1)
  exact pa_if (fun _ => b33 _) (fun _ => pa_if (fun _ => pa_some hp.1) (fun _ => b33 _))
theorem b_nn40 {K S : Nat → Int32} {S1 : Nat → Int32} {vn : Nat → Int64} {vi n s f fp g : Int32} (h : PB K S n s f fp g) : ∀ (k : Nat) (lf lp : Int32) (x1 : Int64) (x3 x4 : Int32), pa (f_X5_newName_b40 S1 vn vi k n s f fp lf lp x1 x3 x4) (fun o => PB K S o.2.1 o.2.2.1 o.2.2.2.1 o.2.2.2.2.1 g) := by
  intro k
  induction k with
  | zero => intro lf lp x1 x3 x4; exact pa_none
  | succ k ih =>
    intro lf lp x1 x3 x4
    show pa (f_X5_newName_b40_st (f_X5_newName_b40 S1 vn vi k) S1 vn vi n s f fp lf lp x1 x3 x4) _
    unfold f_X5_newName_b40_st
    refine pa_if (fun _ => pa_if (fun _ => pa_some h) (fun _ => pa_bd2 (l_later _ _ _ _ _) (fun b0 b1 _ => pa_some h))) (fun _ => pa_if (fun _ => pa_ck (fun _ => pa_if (fun _ => ih _ _ _ _ _) (fun _ => ih _ _ _ _ _))) (fun _ => ih _ _ _ _ _))
theorem b_newName {K S kd pl vl : Nat → Int32} {V tn : Nat → Int64} (tk : TKR K S V kd pl vl tn) {n s f fp g : Int32} (cn vn : Nat → Int64) (ce vi lf lp : Int32) (h : PB K S n s f fp g) : pa (f_X5_newName K S V cn vn ce vi n s f fp lf lp) (fun o => PB K S o.2.1 o.2.2.1 o.2.2.2.1 o.2.2.2.2.1 g) := by
  unfold f_X5_newName
  refine pa_bd5 (b_accept tk h (by decide)) (fun a0 a1 a2 a3 a4 hp => pa_if (fun _ => pa_some hp.1) (fun _ => pa_ck (fun _ => ?_)))
  refine pa_bd (P := fun _ => True) (fun _ _ => trivial) (fun o _ => pa_if (fun _ => b_nn40 hp.1 _ _ _ _ _ _) (fun _ => b_nn40 hp.1 _ _ _ _ _ _))
theorem b_knownCell {K S kd pl vl : Nat → Int32} {V tn : Nat → Int64} (tk : TKR K S V kd pl vl tn) {n s f fp g : Int32} (cn : Nat → Int64) (ce lf lp : Int32) (h : PB K S n s f fp g) : pa (f_X5_knownCell K S V cn ce n s f fp lf lp) (fun o => PB K S o.2.1 o.2.2.1 o.2.2.2.1 o.2.2.2.2.1 g ∧ (¬ o.1 = -1 → o.2.2.1 = 0)) := by
  unfold f_X5_knownCell
  refine pa_bd5 (b_accept tk h (by decide)) (fun a0 a1 a2 a3 a4 hp => pa_if (fun _ => pa_some ⟨hp.1, fun z => absurd rfl z⟩) (fun c => pa_ck (fun _ => ?_)))
  refine pa_bd (P := fun _ => True) (fun _ _ => trivial) (fun o _ => pa_if (fun d => pa_bd2 (l_later _ _ _ _ _) (fun b0 b1 _ => pa_some ⟨hp.1, fun z => absurd d z⟩)) (fun _ => pa_some ⟨hp.1, fun _ => hp.2 c⟩))
theorem b_addWay {K S : Nat → Int32} {n s f fp g q1 q2 : Int32} (wy : Nat → Int32) (h : PB K S n s f fp g) (h2 : g.toInt = 2) : pa (f_X5_addWay s f fp wy q1 q2) (fun o => PB K S n o.1 o.2.1 o.2.2.1 g) := by
  obtain ⟨rfl, h1, h3⟩ := h
  unfold f_X5_addWay
  refine pa_ck (fun _ => pa_if (fun _ => pa_ck (fun _ => pa_ck (fun _ => pa_nx (pa_some ⟨rfl, h1, h3⟩)))) (fun _ => ?_))
  have e2 : f = 2 := z_of (k := 2) rfl h2
  refine pa_bd3 (P := fun o => o.1 = 1 ∧ o.2.1 = f) ?_ (fun a b c hp => pa_some ⟨hp.2, h1, fun z => absurd (hp.1.symm.trans z) (by decide)⟩)
  unfold f_X5_stop
  refine pa_bd2 (P := fun o => o.1 = f) ?_ (fun a b hp => pa_some ⟨rfl, hp⟩)
  unfold f_X5_note f_X5_note_b15
  exact pa_if (fun _ => pa_some e2.symm) (fun _ => pa_if (fun _ => pa_some rfl) (fun _ => pa_some e2.symm))
-- the reference, a FAULT known
def FB (g c : Int32) : Prop := g = c ∧ 1 ≤ c.toInt
theorem FB_le {g c : Int32} (h : FB g c) : ¬ g ≤ 0 := by
  intro z
  have := le_k (k := 0) rfl z
  obtain ⟨rfl, h⟩ := h
  omega
theorem FB_eq {g c : Int32} (h : FB g c) : ¬ g = 0 := by
  obtain ⟨rfl, h⟩ := h
  exact ne_0 h
theorem r_is {kd : Nat → Int32} {t g q c : Int32} (h : FB g c) : pa (f_X7_is t g kd q) (fun o => o = 0) := by
  obtain ⟨rfl, h⟩ := h
  unfold f_X7_is
  exact pa_if (fun c => absurd c (ne_0 h)) (fun _ => pa_some rfl)
theorem r_fail {pl : Nat → Int32} {t g gp q c : Int32} (h : FB g c) : pa (f_X7_fail t pl g gp q) (fun o => FB o.1 c) := by
  unfold f_X7_fail
  exact pa_if (fun z => by have := le_k (k := 0) rfl z; obtain ⟨rfl, h⟩ := h; omega) (fun _ => pa_some h)
theorem r_goesOn {pl : Nat → Int32} {t g gp c : Int32} (h : FB g c) : pa (f_X7_goesOn pl t g gp) (fun o => FB o.2.1 c) := by
  unfold f_X7_goesOn
  exact pa_if (fun _ => pa_bd2 (r_fail h) (fun a b hp => pa_some hp)) (fun _ => pa_some h)
theorem r_must {kd pl : Nat → Int32} {t g gp q c : Int32} (h : FB g c) : pa (f_X7_must kd pl t g gp q) (fun o => FB o.2.1 c) := by
  unfold f_X7_must
  refine pa_bd (r_is h) (fun o ho => pa_if (fun _ => pa_bd2 (r_fail h) (fun a b hp => pa_some hp)) (fun c => absurd ho c))
theorem r_bounded {kd pl vl : Nat → Int32} {t g gp w wp q1 q2 c : Int32} (h : FB g c) : pa (f_X7_bounded kd pl vl t g gp w wp q1 q2) (fun o => FB o.2.2.1 c) := by
  unfold f_X7_bounded
  refine pa_if (fun _ => ?_) (fun z => by have := k_nlt (k := 0) rfl z; obtain ⟨rfl, h⟩ := h; omega)
  unfold f_X7_bounded_b15
  exact pa_bd2 (r_fail h) (fun a b hp => pa_some hp)
theorem r_nm12 {pl : Nat → Int32} {tn no : Nat → Int64} {nm_ t g gp w wp x1 x2 c : Int32} (h : FB g c) : ∀ n, pa (f_X7_named_b12 nm_ pl tn no n t g gp w wp x1 x2) (fun o => FB o.2.2.1 c) := by
  intro n
  cases n with
  | zero => exact pa_none
  | succ n =>
    show pa (f_X7_named_b12_st (f_X7_named_b12 nm_ pl tn no n) nm_ pl tn no t g gp w wp x1 x2) _
    unfold f_X7_named_b12_st
    exact pa_if (fun _ => pa_some h) (fun _ => pa_if (fun z => absurd z (by obtain ⟨rfl, h⟩ := h; exact ne_0 h)) (fun _ => pa_some h))
theorem r_named {kd pl : Nat → Int32} {tn no : Nat → Int64} {nm_ t g gp w wp c : Int32} (h : FB g c) : pa (f_X7_named nm_ kd pl tn no t g gp w wp) (fun o => FB o.2.2.1 c) := by
  unfold f_X7_named
  exact pa_bd3 (r_must h) (fun a b c hp => r_nm12 hp fuel)
theorem r_cellAt {kd pl na : Nat → Int32} {tn no : Nat → Int64} {nm_ t g gp w wp c : Int32} (h : FB g c) : pa (f_X7_cellAt nm_ kd pl tn no na t g gp w wp) (fun o => FB o.2.2.1 c) := by
  unfold f_X7_cellAt
  refine pa_bd3 (r_must h) (fun a b d hp => ?_)
  exact pa_if (fun z => absurd z (FB_le hp)) (fun _ => pa_some hp)
theorem r_makesWay {pl wy : Nat → Int32} {side g gp q1 q2 c : Int32} (h : FB g c) : pa (f_X7_makesWay side pl g gp wy q1 q2) (fun o => FB o.1 c) := by
  unfold f_X7_makesWay
  exact pa_if (fun _ => pa_some h) (fun z => by have := k_nlt (k := 0) rfl z; obtain ⟨rfl, h⟩ := h; omega)
theorem r_wrong {pl : Nat → Int32} {g w wp q1 q2 : Int32} : pa (f_X7_wrong g pl w wp q1 q2) (fun _ => True) := fun _ _ => trivial
theorem FB_rf {K S : Nat → Int32} {n s f fp g : Int32} (h : PB K S n s f fp g) : FB g g := ⟨rfl, h.2.1⟩
-- both, no FAULT yet
theorem PA_up {K S kd pl vl : Nat → Int32} {V tn : Nat → Int64} (tk : TKR K S V kd pl vl tn) {n s f lf t g w wp lf' w' wp' : Int32} (h : PA K pl n s f lf t g w wp) (h4 : t.toInt < 400) (hk : ¬ (K t.toNatClampNeg).toInt = 3 ∧ ¬ (K t.toNatClampNeg).toInt = 4) (hl : lf' = w') (hw : ¬ w' = 0 → wp'.toInt ≤ (pl t.toNatClampNeg).toInt ∧ 0 < w'.toInt) : PA K pl (n + 1) 0 0 lf' (t + 1) 0 w' wp' := by
  obtain ⟨rfl, h1, h2, rfl, rfl, rfl, rfl, h3⟩ := h
  have up := cl_up (t := n) (by omega) (by omega)
  refine ⟨rfl, ⟨by omega, by omega⟩, ?_, rfl, rfl, rfl, hl, fun z => ⟨by omega, ?_, (hw z).2⟩⟩
  · rw [up.2.1]
    exact NE5_up h2 hk.1 hk.2
  · rw [up.2.1]
    exact (hw z).1
theorem PA_wp {K S kd pl vl : Nat → Int32} {V tn : Nat → Int64} (tk : TKR K S V kd pl vl tn) {n s f lf t g w wp : Int32} (h : PA K pl n s f lf t g w wp) : ¬ w = 0 → wp.toInt < (pl t.toNatClampNeg).toInt := by
  intro z
  have a := h.2.2.2.2.2.2.2 z
  have b := h.2.1
  have e : (t.toNatClampNeg : Int) = t.toInt := cl_k b.1
  have c := (tk.1 t.toNatClampNeg (by omega) h.2.2.1).2.2.2 (t.toNatClampNeg - 1) (by omega)
  omega
theorem PA_ps {K pl : Nat → Int32} {n s f lf t g w wp : Int32} (h : PA K pl n s f lf t g w wp) : ¬ w = 0 → 0 < w.toInt := fun z => (h.2.2.2.2.2.2.2 z).2.2
theorem c_accept (K S : Nat → Int32) (n fp q : Int32) : pa (f_X5_accept K S n 0 0 fp q) (fun o => (K n.toNatClampNeg = q ∧ n.toInt < 400 ∧ o = (1, n + 1, 0, 0, fp)) ∨ (K n.toNatClampNeg = q ∧ 400 ≤ n.toInt ∧ o = (1, n + 1, 0, 2, S n.toNatClampNeg)) ∨ (¬ K n.toNatClampNeg = q ∧ o = (0, n, 1, 1, S n.toNatClampNeg))) := by
  unfold f_X5_accept f_X5_accept_b62
  refine pa_if (fun _ => pa_ck (fun _ => pa_if (fun c => pa_if (fun d => pa_some (Or.inl ⟨c, lt_k (k := 400) rfl d, rfl⟩)) (fun d => pa_ck (fun _ => ?_))) (fun c => pa_ck (fun _ => ?_)))) (fun c => absurd rfl c)
  · refine pa_bd2 (P := fun o => o = (2, S n.toNatClampNeg)) ?_ (fun a b hp => ?_)
    · unfold f_X5_note f_X5_note_b15
      exact pa_if (fun _ => pa_some rfl) (fun z => absurd rfl z)
    · cases hp
      exact pa_some (Or.inr (Or.inl ⟨c, nlt_k (k := 400) rfl d, rfl⟩))
  · refine pa_bd3 (P := fun o => o = (1, 1, S n.toNatClampNeg)) ?_ (fun a b c3 hp => ?_)
    · unfold f_X5_stop
      refine pa_bd2 (P := fun o => o = (1, S n.toNatClampNeg)) ?_ (fun a b hp => ?_)
      · unfold f_X5_note f_X5_note_b15
        exact pa_if (fun _ => pa_some rfl) (fun z => absurd rfl z)
      · cases hp
        exact pa_some rfl
    · cases hp
      exact pa_some (Or.inr (Or.inr ⟨c, rfl⟩))
theorem m_fail (pl : Nat → Int32) (t gp q : Int32) : pa (f_X7_fail t pl 0 gp q) (fun o => o.1 = q) := by
  unfold f_X7_fail
  exact pa_if (fun _ => pa_ck (fun _ => pa_some rfl)) (fun c => absurd (by decide) c)
theorem m_is (kd : Nat → Int32) (t q : Int32) : pa (f_X7_is t 0 kd q) (fun o => (o = 1 ∧ kd t.toNatClampNeg = q) ∨ (o = 0 ∧ ¬ kd t.toNatClampNeg = q)) := by
  unfold f_X7_is
  exact pa_if (fun _ => pa_ck (fun _ => pa_if (fun c => pa_some (Or.inl ⟨rfl, c⟩)) (fun c => pa_some (Or.inr ⟨rfl, c⟩)))) (fun c => absurd rfl c)
theorem m_goesOn (pl : Nat → Int32) (t gp : Int32) : pa (f_X7_goesOn pl t 0 gp) (fun o => (¬ t.toInt = 400 ∧ o = (t + 1, 0, gp)) ∨ (t.toInt = 400 ∧ o.2.1 = 2)) := by
  unfold f_X7_goesOn
  exact pa_if (fun c => pa_bd2 (m_fail pl t gp 2) (fun a b hp => pa_some (Or.inr ⟨z_eq (k := 400) rfl c, hp⟩))) (fun c => pa_some (Or.inl ⟨z_ne (k := 400) rfl c, rfl⟩))
theorem m_must (kd pl : Nat → Int32) (t gp q : Int32) : pa (f_X7_must kd pl t 0 gp q) (fun o => (kd t.toNatClampNeg = q ∧ ¬ t.toInt = 400 ∧ o = (t + 1, 0, gp)) ∨ (kd t.toNatClampNeg = q ∧ t.toInt = 400 ∧ o.2.1 = 2) ∨ (¬ kd t.toNatClampNeg = q ∧ o.2.1 = 1)) := by
  unfold f_X7_must
  refine pa_bd (m_is kd t q) (fun o ho => ?_)
  rcases ho with ⟨rfl, hk⟩ | ⟨rfl, hk⟩
  · refine pa_if (fun c => absurd c (by decide)) (fun _ => pa_bd3 (m_goesOn pl t gp) (fun a b c hp => ?_))
    rcases hp with ⟨h1, h2⟩ | ⟨h1, h2⟩
    · cases h2
      exact pa_some (Or.inl ⟨hk, h1, rfl⟩)
    · exact pa_some (Or.inr (Or.inl ⟨hk, h1, h2⟩))
  · exact pa_if (fun _ => pa_bd2 (m_fail pl t gp 1) (fun a b hp => pa_some (Or.inr (Or.inr ⟨hk, hp⟩)))) (fun c => absurd rfl c)
/-- what comes of one token: on, or a FAULT -/
def J1 (K S pl : Nat → Int32) (n lf t w wp q : Int32) (a : Int32 × Int32 × Int32 × Int32 × Int32) (b : Int32 × Int32 × Int32) : Prop :=
  (a.1 = 1 ∧ PA K pl a.2.1 a.2.2.1 a.2.2.2.1 lf b.1 b.2.1 w wp ∧ a.2.1 = n + 1 ∧ t.toInt < 400 ∧ K t.toNatClampNeg = q) ∨ (PB K S a.2.1 a.2.2.1 a.2.2.2.1 a.2.2.2.2 b.2.1 ∧ (¬ a.1 = 0 → a.2.2.1 = 0))
theorem PB_400 {K S : Nat → Int32} {t : Int32} (h1 : 0 ≤ t.toInt ∧ t.toInt ≤ 400) (h2 : NE5 K t.toNatClampNeg) (h4 : 400 ≤ t.toInt) (hk : ¬ (K t.toNatClampNeg).toInt = 3 ∧ ¬ (K t.toNatClampNeg).toInt = 4) : PB K S (t + 1) 0 2 (S t.toNatClampNeg) 2 := by
  have up := cl_up (t := t) (by omega) (by omega)
  have e : (t.toNatClampNeg : Int) = t.toInt := cl_k (by omega)
  have e4 : t.toNatClampNeg = 400 := by omega
  refine ⟨rfl, by decide, fun _ => ⟨rfl, by omega, by omega, ?_, by rw [e4]; exact Int.le_refl _⟩⟩
  rw [up.2.1]
  exact NE5_up h2 hk.1 hk.2
theorem j_accept {K S kd pl vl : Nat → Int32} {V tn : Nat → Int64} (tk : TKR K S V kd pl vl tn) {n s f fp lf t g gp w wp q5 q7 : Int32} (h : PA K pl n s f lf t g w wp) (hq : KP (K t.toNatClampNeg) (kd t.toNatClampNeg) → (K t.toNatClampNeg = q5 ↔ kd t.toNatClampNeg = q7)) (h34 : ¬ q5.toInt = 3 ∧ ¬ q5.toInt = 4) : pj (f_X5_accept K S n s f fp q5) (f_X7_must kd pl t g gp q7) (J1 K S pl n lf t w wp q5) := by
  have h0 := h
  obtain ⟨rfl, h1, h2, rfl, rfl, rfl, rfl, h3⟩ := h
  have e : (n.toNatClampNeg : Int) = n.toInt := cl_k h1.1
  have kp := hq (tk.1 n.toNatClampNeg (by omega) h2).1
  have wpl := PA_wp tk h0
  refine pj_of (c_accept K S n fp q5) (m_must kd pl n gp q7) (fun a b ha hb => ?_)
  rcases ha with ⟨k, l, rfl⟩ | ⟨k, l, rfl⟩ | ⟨k, rfl⟩
  · rcases hb with ⟨k2, l2, rfl⟩ | ⟨k2, l2, _⟩ | ⟨k2, _⟩
    · exact Or.inl ⟨rfl, PA_up tk h0 l (by rw [k]; exact h34) rfl (fun z => ⟨Int.le_of_lt (wpl z), PA_ps h0 z⟩), rfl, l, k⟩
    · omega
    · exact absurd (kp.mp k) k2
  · rcases hb with ⟨k2, l2, _⟩ | ⟨k2, l2, e2⟩ | ⟨k2, _⟩
    · omega
    · refine Or.inr ⟨?_, fun _ => rfl⟩
      rw [e2]
      exact PB_400 h1 h2 l (by rw [k]; exact h34)
    · exact absurd (kp.mp k) k2
  · rcases hb with ⟨k2, l2, _⟩ | ⟨k2, l2, e2⟩ | ⟨k2, e2⟩
    · exact absurd (kp.mpr k2) k
    · exact absurd (kp.mpr k2) k
    · refine Or.inr ⟨?_, fun z => absurd rfl z⟩
      rw [e2]
      exact pb_a
theorem j_go {K S kd pl vl : Nat → Int32} {V tn : Nat → Int64} (tk : TKR K S V kd pl vl tn) {n s f fp lf t g gp w wp : Int32} (h : PA K pl n s f lf t g w wp) (h34 : ¬ (K t.toNatClampNeg).toInt = 3 ∧ ¬ (K t.toNatClampNeg).toInt = 4) : pj (f_X5_accept K S n s f fp (K t.toNatClampNeg)) (f_X7_goesOn pl t g gp) (J1 K S pl n lf t w wp (K t.toNatClampNeg)) := by
  have h0 := h
  obtain ⟨rfl, h1, h2, rfl, rfl, rfl, rfl, h3⟩ := h
  have wpl := PA_wp tk h0
  refine pj_of (c_accept K S n fp _) (m_goesOn pl n gp) (fun a b ha hb => ?_)
  rcases ha with ⟨k, l, rfl⟩ | ⟨k, l, rfl⟩ | ⟨k, rfl⟩
  · rcases hb with ⟨l2, rfl⟩ | ⟨l2, _⟩
    · exact Or.inl ⟨rfl, PA_up tk h0 l h34 rfl (fun z => ⟨Int.le_of_lt (wpl z), PA_ps h0 z⟩), rfl, l, rfl⟩
    · omega
  · rcases hb with ⟨l2, _⟩ | ⟨l2, e2⟩
    · omega
    · refine Or.inr ⟨?_, fun _ => rfl⟩
      rw [e2]
      exact PB_400 h1 h2 l h34
  · exact absurd rfl k
theorem j_opens {K S kd pl vl : Nat → Int32} {V tn : Nat → Int64} (tk : TKR K S V kd pl vl tn) {n s f fp lf t g gp w wp c m : Int32} (h : PA K pl n s f lf t g w wp) (h34 : ¬ (K t.toNatClampNeg).toInt = 3 ∧ ¬ (K t.toNatClampNeg).toInt = 4) (hc : c.toInt ≤ m.toInt) : pj (f_X5_opens K S n s f fp c m) (f_X7_roomFor pl t g gp c m) (J1 K S pl n lf t w wp (K t.toNatClampNeg)) := by
  have h0 := h
  obtain ⟨rfl, h1, h2, rfl, rfl, rfl, rfl, h3⟩ := h
  unfold f_X5_opens f_X7_roomFor f_X7_roomFor_b10
  refine pj_ifl (fun c1 => pj_ckl (fun _ => ?_)) (fun c1 => pj_ckl (fun _ => ?_))
  · have c2 := ti_lt c1
    refine pj_ifr (fun d => ?_) (fun d => ?_)
    · have := congrArg Int32.toInt d
      omega
    · refine pj_ifr (fun _ => ?_) (fun z => absurd rfl z)
      refine pj_b5_3 (j_go tk h0 h34) (fun a0 a1 a2 a3 a4 b0 b1 b2 hj => pj_ckl (fun _ => pj_ss hj))
  · have c2 := ti_nlt c1
    have d : c = m := Int32.toInt_inj.mp (by omega)
    refine pj_ifr (fun _ => ?_) (fun z => absurd d z)
    refine pj_bl3 (P := fun o => o = (1, 2, S n.toNatClampNeg)) ?_ (fun a0 a1 a2 hp => ?_)
    · unfold f_X5_stop
      refine pa_bd2 (P := fun o => o = (2, S n.toNatClampNeg)) ?_ (fun a b hp => ?_)
      · unfold f_X5_note f_X5_note_b15
        exact pa_if (fun _ => pa_some rfl) (fun z => absurd rfl z)
      · cases hp
        exact pa_some rfl
    · cases hp
      refine pj_br2 (m_fail pl n gp 2) (fun b0 b1 hb => ?_)
      change b0 = 2 at hb
      rw [hb]
      refine pj_ifr (fun z => absurd z (by decide)) (fun _ => pj_ss (Or.inr ⟨?_, fun z => absurd rfl z⟩))
      exact pb_b
theorem m_wrong {pl : Nat → Int32} {w wp q tok : Int32} (h : ¬ w = 0 → wp.toInt < (pl tok.toNatClampNeg).toInt ∨ (wp.toInt = (pl tok.toNatClampNeg).toInt ∧ w.toInt ≤ q.toInt)) (hps : ¬ w = 0 → 0 < w.toInt) (hq0 : 0 < q.toInt) : pa (f_X7_wrong 0 pl w wp q tok) (fun o => o.1 = fs w q ∧ (¬ o.1 = 0 → o.2.toInt ≤ (pl tok.toNatClampNeg).toInt) ∧ (¬ w = 0 → o.2 = wp) ∧ (¬ o.1 = 0 → 0 < o.1.toInt)) := by
  unfold f_X7_wrong f_X7_wrong_b46
  refine pa_ck (fun _ => pa_if (fun c => absurd c (by decide)) (fun _ => pa_if (fun c => pa_some ⟨?_, fun _ => Int.le_refl _, fun z => absurd c z, fun _ => hq0⟩) (fun c => ?_)))
  · show q = fs w q
    unfold fs; rw [if_pos c]
  · have hw := h c
    have e : fs w q = w := by unfold fs; rw [if_neg c]
    refine pa_if (fun d => pa_some ⟨e.symm, fun _ => ?_, fun _ => rfl, fun _ => hps c⟩) (fun d => ?_)
    · have := ti_lt d
      show wp.toInt ≤ _
      omega
    · have d2 := ti_nlt d
      refine pa_if (fun f => pa_if (fun g => ?_) (fun g => pa_some ⟨e.symm, fun _ => ?_, fun _ => rfl, fun _ => hps c⟩)) (fun f => ?_)
      · have := ti_lt g
        omega
      · show wp.toInt ≤ _
        omega
      · have f2 : ¬ (pl tok.toNatClampNeg).toInt = wp.toInt := fun z => f (Int32.toInt_inj.mp z)
        omega
/-- what comes of a number -/
def J2 (K S pl : Nat → Int32) (n t : Int32) (a : Int32 × Int32 × Int32 × Int32 × Int32 × Int32 × Int32) (b : Int32 × Int32 × Int32 × Int32 × Int32 × Int32) : Prop :=
  (PA K pl a.2.1 a.2.2.1 a.2.2.2.1 a.2.2.2.2.2.1 b.2.1 b.2.2.1 b.2.2.2.2.1 b.2.2.2.2.2 ∧ a.1 = b.1 ∧ a.2.1 = n + 1 ∧ t.toInt < 400) ∨ PB K S a.2.1 a.2.2.1 a.2.2.2.1 a.2.2.2.2.1 b.2.2.1
theorem j_number {K S kd pl vl : Nat → Int32} {V tn : Nat → Int64} (tk : TKR K S V kd pl vl tn) {n s f fp lf lp t g gp w wp q1 q2 : Int32} (h : PA K pl n s f lf t g w wp) : pj (f_X5_number K S V n s f fp lf lp q1 q2) (f_X7_bounded kd pl vl t g gp w wp q1 q2) (J2 K S pl n t) := by
  have h0 := h
  obtain ⟨rfl, h1, h2, rfl, rfl, rfl, rfl, h3⟩ := h
  have e : (n.toNatClampNeg : Int) = n.toInt := cl_k h1.1
  have up := cl_up (t := n) (by omega) (by omega)
  have tk1 := tk.1 n.toNatClampNeg (by omega) h2
  have kp := kp_2 tk1.1
  have wpl := PA_wp tk h0
  have wr := m_wrong (pl := pl) (w := lf) (wp := wp) (q := 5) (tok := n) (fun z => Or.inl (wpl z)) (PA_ps h0) (by decide)
  unfold f_X5_number f_X7_bounded
  refine pj_ifr (fun c => absurd c (by decide)) (fun _ => ?_)
  refine pj_bl5 (c_accept K S n fp 2) (fun a0 a1 a2 a3 a4 ha => pj_br (m_is kd n 2) (fun o ho => ?_))
  rcases ha with ⟨k, l, q⟩ | ⟨k, l, q⟩ | ⟨k, q⟩
  · cases q
    rcases ho with ⟨rfl, ko⟩ | ⟨rfl, ko⟩
    · have k34 : ¬ (K n.toNatClampNeg).toInt = 3 ∧ ¬ (K n.toNatClampNeg).toInt = 4 := by rw [k]; decide
      have ev : (V n.toNatClampNeg).toInt32 = vl n.toNatClampNeg := (tk1.2.1 (z_eq (k := 2) rfl k)).1
      refine pj_ifl (fun z => absurd z (by decide)) (fun _ => pj_ifr (fun z => absurd z (by decide)) (fun _ => pj_ckl (fun _ => pj_nml (pj_ckr (fun _ => ?_)))))
      rw [up.2.2, ev]
      have n4 : ¬ n.toInt = 400 := by omega
      have bad : pj (f_X5_number_b33 S (n + 1) 0 0 fp lf lp (vl n.toNatClampNeg)) (f_X7_bounded_b42 pl n 0 gp lf wp (vl n.toNatClampNeg)) (J2 K S pl n n) := by
        unfold f_X5_number_b33 f_X7_bounded_b42 f_X7_bounded_b51
        refine pj_bl2 (l_later _ _ _ _ _) (fun x0 x1 hx => pj_br2 wr (fun y0 y1 hy => pj_br3 (m_goesOn pl n gp) (fun z0 z1 z2 hz => ?_)))
        have hx2 : x0 = fs lf 5 := hx (by omega)
        rcases hz with ⟨_, q⟩ | ⟨l2, _⟩
        · cases q
          exact pj_ss (Or.inl ⟨PA_up tk h0 l k34 (hx2.trans hy.1.symm) (fun z => ⟨hy.2.1 z, hy.2.2.2 z⟩), rfl, rfl, l⟩)
        · omega
      refine pj_ifl (fun z => pj_ifr (fun _ => bad) (fun y => absurd z y)) (fun z => pj_ifr (fun y => absurd y z) (fun _ => pj_ifl (fun y => pj_ifr (fun _ => ?_) (fun x => absurd y x)) (fun y => pj_ifr (fun x => absurd x y) (fun _ => bad))))
      unfold f_X7_bounded_b51
      refine pj_br3 (m_goesOn pl n gp) (fun z0 z1 z2 hz => ?_)
      rcases hz with ⟨_, q⟩ | ⟨l2, _⟩
      · cases q
        exact pj_ss (Or.inl ⟨PA_up tk h0 l k34 rfl (fun z => ⟨Int.le_of_lt (wpl z), PA_ps h0 z⟩), rfl, rfl, l⟩)
      · omega
    · exact absurd (kp.mp k) ko
  · cases q
    have k34 : ¬ (K n.toNatClampNeg).toInt = 3 ∧ ¬ (K n.toNatClampNeg).toInt = 4 := by rw [k]; decide
    have pb := PB_400 (S := S) h1 h2 l k34
    rcases ho with ⟨rfl, ko⟩ | ⟨rfl, ko⟩
    · refine pj_of (P := fun o => PB K S o.2.1 o.2.2.1 o.2.2.2.1 o.2.2.2.2.1 2) (Q := fun o => o.2.2.1 = 2) ?_ ?_ (fun a b ha hb => Or.inr (by rw [hb]; exact ha))
      · have b33 : ∀ x, pa (f_X5_number_b33 S (n + 1) 0 2 (S n.toNatClampNeg) lf lp x) (fun o => PB K S o.2.1 o.2.2.1 o.2.2.2.1 o.2.2.2.2.1 2) := by
          intro x
          unfold f_X5_number_b33
          exact pa_bd2 (l_later _ _ _ _ _) (fun b0 b1 _ => pa_some pb)
        exact pa_if (fun z => absurd z (by decide)) (fun _ => pa_ck (fun _ => pa_nx (pa_if (fun _ => b33 _) (fun _ => pa_if (fun _ => pa_some pb) (fun _ => b33 _)))))
      · have b51 : ∀ w wp x, pa (f_X7_bounded_b51 pl n 0 gp w wp x) (fun o => o.2.2.1 = 2) := by
          intro w wp x
          unfold f_X7_bounded_b51
          refine pa_bd3 (m_goesOn pl n gp) (fun z0 z1 z2 hz => ?_)
          rcases hz with ⟨l2, _⟩ | ⟨_, q⟩
          · omega
          · exact pa_some q
        have b42 : ∀ x, pa (f_X7_bounded_b42 pl n 0 gp lf wp x) (fun o => o.2.2.1 = 2) := by
          intro x
          unfold f_X7_bounded_b42
          exact pa_bd2 wr (fun y0 y1 _ => b51 _ _ _)
        exact pa_if (fun z => absurd z (by decide)) (fun _ => pa_ck (fun _ => pa_if (fun _ => b42 _) (fun _ => pa_if (fun _ => b51 _ _ _) (fun _ => b42 _))))
    · exact absurd (kp.mp k) ko
  · cases q
    rcases ho with ⟨rfl, ko⟩ | ⟨rfl, ko⟩
    · exact absurd (kp.mpr ko) k
    · refine pj_ifl (fun _ => pj_ifr (fun _ => ?_) (fun z => absurd rfl z)) (fun z => absurd rfl z)
      unfold f_X7_bounded_b15
      refine pj_br2 (m_fail pl n gp 1) (fun b0 b1 hb => pj_ss (Or.inr ?_))
      change b0 = 1 at hb
      show PB K S n 1 1 (S n.toNatClampNeg) b0
      rw [hb]
      exact ⟨rfl, by decide, fun z => absurd z (by decide)⟩
