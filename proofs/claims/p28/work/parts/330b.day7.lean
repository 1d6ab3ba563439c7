/-- how often a cell is an end of the first n passes -/
def dgP (live : Int32) (one oth : Nat → Int32) (c : Int32) : Nat → Int
  | 0 => 0
  | n + 1 => dgP live one oth c n + (if pA live one (Int32.ofNat n) = c then 1 else 0) + (if pA live oth (Int32.ofNat n) = c then 1 else 0)
def dgR (live : Int32) (rc : Nat → Int32) (c : Int32) : Nat → Int
  | 0 => 0
  | n + 1 => dgR live rc c n + (if rA live rc (Int32.ofNat n) = c then 1 else 0)
theorem if01 {p : Prop} [Decidable p] : 0 ≤ (if p then (1 : Int) else 0) ∧ (if p then (1 : Int) else 0) ≤ 1 := by
  by_cases h : p
  · rw [if_pos h]; omega
  · rw [if_neg h]; omega
theorem dgP_mono (live : Int32) (one oth : Nat → Int32) (c : Int32) (n : Nat) : ∀ m, n ≤ m → dgP live one oth c n ≤ dgP live one oth c m := by
  intro m
  induction m with
  | zero => intro h; rw [show n = 0 by omega]; exact Int.le_refl _
  | succ m ih =>
    intro h
    rcases Nat.lt_or_ge m n with q | q
    · rw [show n = m + 1 by omega]; exact Int.le_refl _
    · have a := ih q
      have b1 := @if01 (pA live one (Int32.ofNat m) = c) _
      have b2 := @if01 (pA live oth (Int32.ofNat m) = c) _
      rw [dgP]
      omega
theorem dgP_0 (live : Int32) (one oth : Nat → Int32) (c : Int32) (n : Nat) : 0 ≤ dgP live one oth c n := dgP_mono live one oth c 0 n (Nat.zero_le _)
theorem dgR_mono (live : Int32) (rc : Nat → Int32) (c : Int32) (n : Nat) : ∀ m, n ≤ m → dgR live rc c n ≤ dgR live rc c m := by
  intro m
  induction m with
  | zero => intro h; rw [show n = 0 by omega]; exact Int.le_refl _
  | succ m ih =>
    intro h
    rcases Nat.lt_or_ge m n with q | q
    · rw [show n = m + 1 by omega]; exact Int.le_refl _
    · have a := ih q
      have b1 := @if01 (rA live rc (Int32.ofNat m) = c) _
      rw [dgR]
      omega
theorem dgR_0 (live : Int32) (rc : Nat → Int32) (c : Int32) (n : Nat) : 0 ≤ dgR live rc c n := dgR_mono live rc c 0 n (Nat.zero_le _)
/-- the live side's ways -/
def GW (live : Int32) (cells passes one oth rivers rc rl rw : Nat → Int32) : Prop :=
  rg (passes live.toNatClampNeg) 0 20 ∧ rg (rivers live.toNatClampNeg) 0 3 ∧
  (∀ x : Int32, 0 ≤ x.toInt → x.toInt < (passes live.toNatClampNeg).toInt → 0 ≤ (pA live one x).toInt ∧ (pA live one x).toInt < nC live cells ∧ 0 ≤ (pA live oth x).toInt ∧ (pA live oth x).toInt < nC live cells ∧ ¬ pA live one x = pA live oth x) ∧
  (∀ x : Int32, 0 ≤ x.toInt → x.toInt < (rivers live.toNatClampNeg).toInt → 0 ≤ (rA live rc x).toInt ∧ (rA live rc x).toInt < nC live cells ∧ rg (rA live rl x) 0 999 ∧ rg (rA live rw x) 0 10) ∧
  (∀ c : Int32, dgP live one oth c (passes live.toNatClampNeg).toNatClampNeg + dgR live rc c (rivers live.toNatClampNeg).toNatClampNeg ≤ 8)
/-- what has come and gone so far, by ways counted -/
def MI (live : Int32) (cells room : Nat → Int32) (row more : Nat → Int64) (M : Int) (d : Int32 → Int) : Prop := ∀ c : Int32, 0 ≤ c.toInt → c.toInt < nC live cells → -(d c * Lv live room row c) ≤ 10 * (more c.toNatClampNeg).toInt ∧ 10 * (more c.toNatClampNeg).toInt ≤ d c * (M - Lv live room row c)
theorem d1 (d l : Int) : (d + 1) * l = d * l + l := by rw [Int.add_mul, Int.one_mul]
theorem MI_w {live : Int32} {cells room : Nat → Int32} {row more : Nat → Int64} {M : Int} {d e : Int32 → Int} (g : GC live cells room) (hr : RW live cells room row M) (h : MI live cells room row more M d) (hd : ∀ c, d c ≤ e c) : MI live cells room row more M e := by
  intro c h0 h1
  have a := h c h0 h1
  have l := hr.lv g h0 h1
  have p1 : d c * Lv live room row c ≤ e c * Lv live room row c := Int.mul_le_mul_of_nonneg_right (hd c) l.1
  have p2 : d c * (M - Lv live room row c) ≤ e c * (M - Lv live room row c) := Int.mul_le_mul_of_nonneg_right (hd c) (by omega)
  omega
theorem MI_b {live : Int32} {cells room : Nat → Int32} {row more : Nat → Int64} {M : Int} {d : Int32 → Int} (g : GC live cells room) (hr : RW live cells room row M) (h : MI live cells room row more M d) {c : Int32} (h0 : 0 ≤ c.toInt) (h1 : c.toInt < nC live cells) (hd0 : 0 ≤ d c) (hd : d c ≤ 8) : -(8 * Lv live room row c) ≤ 10 * (more c.toNatClampNeg).toInt ∧ 10 * (more c.toNatClampNeg).toInt ≤ 8 * (M - Lv live room row c) := by
  have a := h c h0 h1
  have l := hr.lv g h0 h1
  have p1 : d c * Lv live room row c ≤ 8 * Lv live room row c := Int.mul_le_mul_of_nonneg_right hd l.1
  have p2 : d c * (M - Lv live room row c) ≤ 8 * (M - Lv live room row c) := Int.mul_le_mul_of_nonneg_right hd (by omega)
  omega
/-- u goes out of a cell -/
theorem MI_out {live : Int32} {cells room : Nat → Int32} {row more more' : Nat → Int64} {M : Int} {d : Int32 → Int} {a : Int32} {u : Int64} (g : GC live cells room) (hr : RW live cells room row M) (hM : M ≤ 1000000000) (h : MI live cells room row more M d) (ha : 0 ≤ a.toInt) (ha1 : a.toInt < nC live cells) (hd0 : 0 ≤ d a) (hd : d a ≤ 8) (hu0 : 0 ≤ u.toInt) (hu : 10 * u.toInt ≤ Lv live room row a) (e : ∀ j, more' j = if j = a.toNatClampNeg then more j - u else more j) : MI live cells room row more' M (fun c => d c + (if a = c then 1 else 0)) := by
  intro c h0 h1
  have k := h c h0 h1
  have l := hr.lv g h0 h1
  by_cases w : a = c
  · subst w
    have b := MI_b g hr h ha ha1 hd0 hd
    show -((d a + (if a = a then 1 else 0)) * _) ≤ _ ∧ _ ≤ (d a + (if a = a then 1 else 0)) * _
    rw [if_pos rfl, d1, d1, e, if_pos rfl, Jvm.Kit.i64_sub (by omega) (by omega)]
    omega
  · show -((d c + (if a = c then 1 else 0)) * _) ≤ _ ∧ _ ≤ (d c + (if a = c then 1 else 0)) * _
    rw [if_neg w, Int.add_zero, e, if_neg (fun q => w (cl_inj h0 ha q).symm)]
    exact k
/-- u comes into a cell -/
theorem MI_in {live : Int32} {cells room : Nat → Int32} {row more more' : Nat → Int64} {M : Int} {d : Int32 → Int} {a : Int32} {u : Int64} (g : GC live cells room) (hr : RW live cells room row M) (hM : M ≤ 1000000000) (h : MI live cells room row more M d) (ha : 0 ≤ a.toInt) (ha1 : a.toInt < nC live cells) (hd0 : 0 ≤ d a) (hd : d a ≤ 8) (hu0 : 0 ≤ u.toInt) (hu : 10 * u.toInt ≤ M - Lv live room row a) (e : more' = vp_updL more a.toNatClampNeg (more a.toNatClampNeg + u)) : MI live cells room row more' M (fun c => d c + (if a = c then 1 else 0)) := by
  intro c h0 h1
  have k := h c h0 h1
  have l := hr.lv g h0 h1
  by_cases w : a = c
  · subst w
    have b := MI_b g hr h ha ha1 hd0 hd
    show -((d a + (if a = a then 1 else 0)) * _) ≤ _ ∧ _ ≤ (d a + (if a = a then 1 else 0)) * _
    rw [if_pos rfl, d1, d1, e, uL_eq, Jvm.Kit.i64_add (by omega) (by omega)]
    omega
  · show -((d c + (if a = c then 1 else 0)) * _) ≤ _ ∧ _ ≤ (d c + (if a = c then 1 else 0)) * _
    rw [if_neg w, Int.add_zero, e, uL_ne (fun q => w (cl_inj h0 ha q).symm)]
    exact k
/-- u goes over a pass -/
theorem MI_pass {live : Int32} {cells room : Nat → Int32} {row more m1 m2 : Nat → Int64} {M : Int} {d : Int32 → Int} {a b : Int32} {u : Int64} (g : GC live cells room) (hr : RW live cells room row M) (hM : M ≤ 1000000000) (h : MI live cells room row more M d) (ha : 0 ≤ a.toInt) (ha1 : a.toInt < nC live cells) (hb : 0 ≤ b.toInt) (hb1 : b.toInt < nC live cells) (hab : ¬ a = b) (hd0 : ∀ c, 0 ≤ d c) (hda : d a ≤ 8) (hdb : d b ≤ 8) (hu0 : 0 ≤ u.toInt) (hu : u.toInt = 0 ∨ 10 * u.toInt ≤ Lv live room row a - Lv live room row b) (e1 : ∀ j, m1 j = if j = a.toNatClampNeg then more j - u else more j) (e2 : m2 = vp_updL m1 b.toNatClampNeg (m1 b.toNatClampNeg + u)) : MI live cells room row m2 M (fun c => d c + (if a = c then 1 else 0) + (if b = c then 1 else 0)) := by
  have la := hr.lv g ha ha1
  have lb := hr.lv g hb hb1
  have s1 := MI_out g hr hM h ha ha1 (hd0 a) hda hu0 (by omega) e1
  exact MI_in g hr hM s1 hb hb1 (by show 0 ≤ d b + (if a = b then 1 else 0); rw [if_neg hab]; have := hd0 b; omega) (by show d b + (if a = b then 1 else 0) ≤ 8; rw [if_neg hab]; omega) hu0 (by omega) e2
theorem fin_w {w m L M r : Int} (hr : 1 ≤ r) (hw0 : 0 ≤ w) (hLw : L ≤ w) (hLM : L ≤ M) (hwr : w < (L + 1) * r) (h1 : -(8 * L) ≤ 10 * m) (h2 : 10 * m ≤ 8 * (M - L)) : 0 ≤ w + m ∧ w + m < (M + 1) * r := by
  have a : (M - L) * 1 ≤ (M - L) * r := Int.mul_le_mul_of_nonneg_left hr (by omega)
  have e : (L + 1) * r + (M - L) * r = (M + 1) * r := by
    rw [← Int.add_mul]
    congr 1
    omega
  omega
theorem x_nat {x : Int32} {a b : Int} (h : rg x a b) (h0 : 0 ≤ a) : Int32.ofNat x.toNatClampNeg = x := by
  have e := cl_e h h0
  have := (rg_any x).2
  apply Int32.toInt_inj.mp
  rw [Int32.toInt_ofNat_of_lt (by omega)]
  exact e
theorem x_suc {x : Int32} {b : Int} (h : rg x 0 b) (hb : b ≤ 1000) : (x + 1).toInt = x.toInt + 1 ∧ (x + 1).toNatClampNeg = x.toNatClampNeg + 1 := by
  have t := ti_add (y := 1) h (show rg (1 : Int32) 1 1 from ⟨by decide, by decide⟩) (by omega) (by omega)
  have e2 : (1 : Int32).toInt = 1 := rfl
  have e := cl_e h (by decide)
  have e3 := cl_e (x := x + 1) (a := 0) (b := 2000) ⟨by have := h.1; omega, by have := h.2; omega⟩ (by decide)
  omega
