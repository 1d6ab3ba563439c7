/-! what stands on a side, and how a telling adds to it -/
def CI (s : Int32) (cells room water : Nat → Int32) : Prop := ∀ x : Int32, 0 ≤ x.toInt → x.toInt < nC s cells → rg (rO s room x) 1 9 ∧ rg (rO s water x) 0 9999
def PI (s : Int32) (cells passes one oth pw : Nat → Int32) : Prop := ∀ x : Int32, 0 ≤ x.toInt → x.toInt < (passes s.toNatClampNeg).toInt → (0 ≤ (pA s one x).toInt ∧ (pA s one x).toInt < nC s cells) ∧ (0 ≤ (pA s oth x).toInt ∧ (pA s oth x).toInt < nC s cells) ∧ ¬ pA s one x = pA s oth x ∧ rg (pA s pw x) 0 10
def VI (s : Int32) (cells rivers rc rl rw : Nat → Int32) : Prop := ∀ x : Int32, 0 ≤ x.toInt → x.toInt < (rivers s.toNatClampNeg).toInt → (0 ≤ (rA s rc x).toInt ∧ (rA s rc x).toInt < nC s cells) ∧ rg (rA s rl x) 0 999 ∧ rg (rA s rw x) 0 10
def WY (s : Int32) (cells passes one oth rivers rc ways : Nat → Int32) : Prop := ∀ c : Int32, 0 ≤ c.toInt → c.toInt < nC s cells → dgP s one oth c (passes s.toNatClampNeg).toNatClampNeg + dgR s rc c (rivers s.toNatClampNeg).toNatClampNeg ≤ (rO s ways c).toInt ∧ 0 ≤ (rO s ways c).toInt ∧ (rO s ways c).toInt ≤ 8
def LI (s : Int32) (cells villages home need lf lt_ code ci : Nat → Int32) (codes : Int) : Prop := ∀ x : Int32, 0 ≤ x.toInt → x.toInt < (villages s.toNatClampNeg).toInt → (0 ≤ (hA s home x).toInt ∧ (hA s home x).toInt < nC s cells) ∧ rg (hA s need x) 0 99 ∧ 420 * s.toInt ≤ (hA s lf x).toInt ∧ (hA s lt_ x).toInt ≤ codes ∧ WF code ci (hA s lf x) (hA s lt_ x)
theorem nC_up {s : Int32} {a y : Nat → Int32} (e : y = upd a s.toNatClampNeg (a s.toNatClampNeg + 1)) (h0 : 0 ≤ (a s.toNatClampNeg).toInt) (h1 : (a s.toNatClampNeg).toInt ≤ 100) : (y s.toNatClampNeg).toInt = (a s.toNatClampNeg).toInt + 1 := by
  rw [sd_eq e]
  exact add_k rfl (by omega) (by omega)
theorem dgP_cg {s : Int32} {one oth one' oth' : Nat → Int32} {c : Int32} : ∀ n : Nat, (∀ i, i < n → pA s one' (Int32.ofNat i) = pA s one (Int32.ofNat i) ∧ pA s oth' (Int32.ofNat i) = pA s oth (Int32.ofNat i)) → dgP s one' oth' c n = dgP s one oth c n := by
  intro n
  induction n with
  | zero => intro _; rfl
  | succ n ih =>
    intro h
    have hn := h n (Nat.lt_succ_self n)
    show dgP s one' oth' c n + (if pA s one' (Int32.ofNat n) = c then 1 else 0) + (if pA s oth' (Int32.ofNat n) = c then 1 else 0) = dgP s one oth c n + (if pA s one (Int32.ofNat n) = c then 1 else 0) + (if pA s oth (Int32.ofNat n) = c then 1 else 0)
    rw [hn.1, hn.2, ih (fun i hi => h i (by omega))]
theorem dgR_cg {s : Int32} {rc rc' : Nat → Int32} {c : Int32} : ∀ n : Nat, (∀ i, i < n → rA s rc' (Int32.ofNat i) = rA s rc (Int32.ofNat i)) → dgR s rc' c n = dgR s rc c n := by
  intro n
  induction n with
  | zero => intro _; rfl
  | succ n ih =>
    intro h
    have hn := h n (Nat.lt_succ_self n)
    show dgR s rc' c n + (if rA s rc' (Int32.ofNat n) = c then 1 else 0) = dgR s rc c n + (if rA s rc (Int32.ofNat n) = c then 1 else 0)
    rw [hn, ih (fun i hi => h i (by omega))]
theorem dgP_z {s : Int32} {one oth : Nat → Int32} {c : Int32} : ∀ n : Nat, (∀ i, i < n → ¬ pA s one (Int32.ofNat i) = c ∧ ¬ pA s oth (Int32.ofNat i) = c) → dgP s one oth c n = 0 := by
  intro n
  induction n with
  | zero => intro _; rfl
  | succ n ih =>
    intro h
    have hn := h n (Nat.lt_succ_self n)
    show dgP s one oth c n + (if pA s one (Int32.ofNat n) = c then 1 else 0) + (if pA s oth (Int32.ofNat n) = c then 1 else 0) = 0
    rw [if_neg hn.1, if_neg hn.2, ih (fun i hi => h i (by omega))]
    rfl
theorem dgR_z {s : Int32} {rc : Nat → Int32} {c : Int32} : ∀ n : Nat, (∀ i, i < n → ¬ rA s rc (Int32.ofNat i) = c) → dgR s rc c n = 0 := by
  intro n
  induction n with
  | zero => intro _; rfl
  | succ n ih =>
    intro h
    have hn := h n (Nat.lt_succ_self n)
    show dgR s rc c n + (if rA s rc (Int32.ofNat n) = c then 1 else 0) = 0
    rw [if_neg hn, ih (fun i hi => h i (by omega))]
    rfl
theorem of_nat {n : Nat} (h : n ≤ 1000) : (Int32.ofNat n).toInt = n := by
  rw [Int32.toInt_ofNat_of_lt (by omega)]
theorem PI.dg {s : Int32} {cells passes one oth pw : Nat → Int32} {c : Int32} (h : PI s cells passes one oth pw) (hp : (passes s.toNatClampNeg).toInt ≤ 20) (hc : c.toInt < 0 ∨ nC s cells ≤ c.toInt) (n : Nat) (hn : (n : Int) ≤ (passes s.toNatClampNeg).toInt) : dgP s one oth c n = 0 := by
  refine dgP_z n (fun i hi => ?_)
  have e := of_nat (n := i) (by omega)
  have k := h (Int32.ofNat i) (by omega) (by omega)
  refine ⟨fun q => ?_, fun q => ?_⟩
  · have := k.1
    rw [q] at this
    omega
  · have := k.2.1
    rw [q] at this
    omega
theorem VI.dg {s : Int32} {cells rivers rc rl rw : Nat → Int32} {c : Int32} (h : VI s cells rivers rc rl rw) (hp : (rivers s.toNatClampNeg).toInt ≤ 3) (hc : c.toInt < 0 ∨ nC s cells ≤ c.toInt) (n : Nat) (hn : (n : Int) ≤ (rivers s.toNatClampNeg).toInt) : dgR s rc c n = 0 := by
  refine dgR_z n (fun i hi => ?_)
  have e := of_nat (n := i) (by omega)
  have k := h (Int32.ofNat i) (by omega) (by omega)
  intro q
  have := k.1
  rw [q] at this
  omega
/-- a cell more -/
theorem CI_add {s : Int32} {cells room water cells' room' water' : Nat → Int32} {v1 v2 : Int32} (hs : rg s 0 1) (hc0 : 0 ≤ nC s cells) (hc1 : nC s cells ≤ 11) (e : cells' = upd cells s.toNatClampNeg (cells s.toNatClampNeg + 1)) (e1 : room' = upd room (((12 : Int32) * s) + cells s.toNatClampNeg).toNatClampNeg v1) (e2 : water' = upd water (((12 : Int32) * s) + cells s.toNatClampNeg).toNatClampNeg v2) (hv : rg v1 1 9 ∧ rg v2 0 9999) (h : CI s cells room water) : CI s cells' room' water' := by
  intro x x0 x1
  have en := nC_up e hc0 (by unfold nC at hc1; omega)
  unfold nC at x1 hc1
  rw [en] at x1
  exact ⟨sd_in (Q := fun _ v => rg v 1 9) (K := 12) (k := 12) rfl (by decide) hs hc0 (by omega) e1 (fun c c0 c1 => (h c c0 c1).1) hv.1 x x0 x1, sd_in (Q := fun _ v => rg v 0 9999) (K := 12) (k := 12) rfl (by decide) hs hc0 (by omega) e2 (fun c c0 c1 => (h c c0 c1).2) hv.2 x x0 x1⟩
theorem PI_c {s : Int32} {cells cells' passes one oth pw : Nat → Int32} (hl : nC s cells ≤ nC s cells') (h : PI s cells passes one oth pw) : PI s cells' passes one oth pw := fun x x0 x1 => by
  have k := h x x0 x1
  exact ⟨⟨k.1.1, by omega⟩, ⟨k.2.1.1, by omega⟩, k.2.2⟩
theorem VI_c {s : Int32} {cells cells' rivers rc rl rw : Nat → Int32} (hl : nC s cells ≤ nC s cells') (h : VI s cells rivers rc rl rw) : VI s cells' rivers rc rl rw := fun x x0 x1 => by
  have k := h x x0 x1
  exact ⟨⟨k.1.1, by omega⟩, k.2⟩
theorem LI_c {s : Int32} {cells cells' villages home need lf lt_ code ci : Nat → Int32} {codes : Int} (hl : nC s cells ≤ nC s cells') (h : LI s cells villages home need lf lt_ code ci codes) : LI s cells' villages home need lf lt_ code ci codes := fun x x0 x1 => by
  have k := h x x0 x1
  exact ⟨⟨k.1.1, by omega⟩, k.2⟩
theorem WY_cell {s : Int32} {cells cells' passes one oth pw rivers rc rl rw ways ways' : Nat → Int32} (hs : rg s 0 1) (hc0 : 0 ≤ nC s cells) (hc1 : nC s cells ≤ 11) (hp : rg (passes s.toNatClampNeg) 0 20) (hr : rg (rivers s.toNatClampNeg) 0 3) (e : cells' = upd cells s.toNatClampNeg (cells s.toNatClampNeg + 1)) (e1 : ways' = upd ways (((12 : Int32) * s) + cells s.toNatClampNeg).toNatClampNeg 0) (hP : PI s cells passes one oth pw) (hV : VI s cells rivers rc rl rw) (h : WY s cells passes one oth rivers rc ways) : WY s cells' passes one oth rivers rc ways' := by
  intro c c0 c1
  have en := nC_up e hc0 (by unfold nC at hc1; omega)
  unfold nC at c1 hc1 hc0
  rw [en] at c1
  have pk := cl_e hp (by decide)
  have rk := cl_e hr (by decide)
  by_cases q : c = cells s.toNatClampNeg
  · have ev : rO s ways' c = 0 := by rw [q]; exact sd_eq e1
    rw [ev, hP.dg hp.2 (Or.inr (by rw [q]; exact Int.le_refl _)) _ (by omega), hV.dg hr.2 (Or.inr (by rw [q]; exact Int.le_refl _)) _ (by omega)]
    decide
  · have qn : ¬ c.toInt = (cells s.toNatClampNeg).toInt := fun z => q (Int32.toInt_inj.mp z)
    have i1 := ixn (x := cells s.toNatClampNeg) (K := 12) (k := 12) (m := 0) rfl (by decide) hs hc0 (by omega)
    have i2 := ixn (x := c) (K := 12) (k := 12) (m := 0) rfl (by decide) hs c0 (by omega)
    have ev : rO s ways' c = rO s ways c := sd_ne e1 (by omega)
    rw [ev]
    exact h c c0 (by unfold nC; omega)
/-- a pass more -/
theorem sd_old {s x c : Int32} {k : Int} {K : Int32} {a y : Nat → Int32} {v : Int32} (hK : K.toInt = k) (hk : 0 ≤ k ∧ k ≤ 100) (hs : rg s 0 1) (h0 : 0 ≤ x.toInt) (h1 : x.toInt < k) (e : y = upd a ((K * s) + x).toNatClampNeg v) (c0 : 0 ≤ c.toInt) (c1 : c.toInt < x.toInt) : y ((K * s) + c).toNatClampNeg = a ((K * s) + c).toNatClampNeg := by
  have i1 := ixn (m := 0) hK hk hs h0 h1
  have i2 := ixn (x := c) (m := 0) hK hk hs c0 (by omega)
  exact sd_ne e (by omega)
theorem PI_add {s : Int32} {cells passes passes' one oth pw one' oth' pw' : Nat → Int32} {a b v : Int32} (hs : rg s 0 1) (hp0 : 0 ≤ (passes s.toNatClampNeg).toInt) (hp1 : (passes s.toNatClampNeg).toInt ≤ 19) (e : passes' = upd passes s.toNatClampNeg (passes s.toNatClampNeg + 1)) (e1 : one' = upd one (((20 : Int32) * s) + passes s.toNatClampNeg).toNatClampNeg a) (e2 : oth' = upd oth (((20 : Int32) * s) + passes s.toNatClampNeg).toNatClampNeg b) (e3 : pw' = upd pw (((20 : Int32) * s) + passes s.toNatClampNeg).toNatClampNeg v) (ha : 0 ≤ a.toInt ∧ a.toInt < nC s cells) (hb : 0 ≤ b.toInt ∧ b.toInt < nC s cells) (hn : ¬ a = b) (hv : rg v 0 10) (h : PI s cells passes one oth pw) : PI s cells passes' one' oth' pw' := by
  intro x x0 x1
  have en := nC_up e hp0 (by omega)
  rw [en] at x1
  by_cases q : x = passes s.toNatClampNeg
  · subst q
    have v1 : pA s one' (passes s.toNatClampNeg) = a := sd_eq e1
    have v2 : pA s oth' (passes s.toNatClampNeg) = b := sd_eq e2
    have v3 : pA s pw' (passes s.toNatClampNeg) = v := sd_eq e3
    rw [v1, v2, v3]
    exact ⟨ha, hb, hn, hv⟩
  · have qn : ¬ x.toInt = (passes s.toNatClampNeg).toInt := fun z => q (Int32.toInt_inj.mp z)
    have v1 : pA s one' x = pA s one x := sd_old (K := 20) (k := 20) rfl (by decide) hs hp0 (by omega) e1 x0 (by omega)
    have v2 : pA s oth' x = pA s oth x := sd_old (K := 20) (k := 20) rfl (by decide) hs hp0 (by omega) e2 x0 (by omega)
    have v3 : pA s pw' x = pA s pw x := sd_old (K := 20) (k := 20) rfl (by decide) hs hp0 (by omega) e3 x0 (by omega)
    rw [v1, v2, v3]
    exact h x x0 (by omega)
theorem WY_pass {s : Int32} {cells passes passes' one oth one' oth' rivers rc ways ways' : Nat → Int32} {a b : Int32} (hs : rg s 0 1) (hc : nC s cells ≤ 12) (hp0 : 0 ≤ (passes s.toNatClampNeg).toInt) (hp1 : (passes s.toNatClampNeg).toInt ≤ 19) (e : passes' = upd passes s.toNatClampNeg (passes s.toNatClampNeg + 1)) (e1 : one' = upd one (((20 : Int32) * s) + passes s.toNatClampNeg).toNatClampNeg a) (e2 : oth' = upd oth (((20 : Int32) * s) + passes s.toNatClampNeg).toNatClampNeg b) (hw : ∀ c : Int32, 0 ≤ c.toInt → c.toInt < 12 → 0 ≤ (rO s ways c).toInt → (rO s ways c).toInt ≤ 8 → (rO s ways' c).toInt = (rO s ways c).toInt + (if a = c then 1 else 0) + (if b = c then 1 else 0) ∧ (rO s ways' c).toInt ≤ 8) (h : WY s cells passes one oth rivers rc ways) : WY s cells passes' one' oth' rivers rc ways' := by
  intro c c0 c1
  have en := nC_up e hp0 (by omega)
  have k := h c c0 c1
  have w := hw c c0 (by omega) k.2.1 k.2.2
  have pk := cl_k hp0
  have pk' := cl_k (x := passes' s.toNatClampNeg) (by omega)
  have en2 : (passes' s.toNatClampNeg).toNatClampNeg = (passes s.toNatClampNeg).toNatClampNeg + 1 := by omega
  have xn : Int32.ofNat (passes s.toNatClampNeg).toNatClampNeg = passes s.toNatClampNeg := x_nat (a := 0) (b := 19) ⟨hp0, hp1⟩ (by decide)
  have v1 : pA s one' (passes s.toNatClampNeg) = a := sd_eq e1
  have v2 : pA s oth' (passes s.toNatClampNeg) = b := sd_eq e2
  have d : dgP s one' oth' c (passes s.toNatClampNeg).toNatClampNeg = dgP s one oth c (passes s.toNatClampNeg).toNatClampNeg := by
    refine dgP_cg _ (fun i hi => ?_)
    have ei := of_nat (n := i) (by omega)
    exact ⟨sd_old (K := 20) (k := 20) rfl (by decide) hs hp0 (by omega) e1 (by omega) (by omega), sd_old (K := 20) (k := 20) rfl (by decide) hs hp0 (by omega) e2 (by omega) (by omega)⟩
  rw [en2]
  show dgP s one' oth' c (passes s.toNatClampNeg).toNatClampNeg + (if pA s one' (Int32.ofNat (passes s.toNatClampNeg).toNatClampNeg) = c then 1 else 0) + (if pA s oth' (Int32.ofNat (passes s.toNatClampNeg).toNatClampNeg) = c then 1 else 0) + dgR s rc c (rivers s.toNatClampNeg).toNatClampNeg ≤ (rO s ways' c).toInt ∧ 0 ≤ (rO s ways' c).toInt ∧ (rO s ways' c).toInt ≤ 8
  rw [xn, v1, v2, d]
  have z1 : 0 ≤ (if a = c then (1 : Int) else 0) := if01.1
  have z2 : 0 ≤ (if b = c then (1 : Int) else 0) := if01.1
  omega
/-- a river more -/
theorem VI_add {s : Int32} {cells rivers rivers' rc rl rw rc' rl' rw' : Nat → Int32} {a v u : Int32} (hs : rg s 0 1) (hp0 : 0 ≤ (rivers s.toNatClampNeg).toInt) (hp1 : (rivers s.toNatClampNeg).toInt ≤ 2) (e : rivers' = upd rivers s.toNatClampNeg (rivers s.toNatClampNeg + 1)) (e1 : rc' = upd rc (((3 : Int32) * s) + rivers s.toNatClampNeg).toNatClampNeg a) (e2 : rl' = upd rl (((3 : Int32) * s) + rivers s.toNatClampNeg).toNatClampNeg v) (e3 : rw' = upd rw (((3 : Int32) * s) + rivers s.toNatClampNeg).toNatClampNeg u) (ha : 0 ≤ a.toInt ∧ a.toInt < nC s cells) (hv : rg v 0 999) (hu : rg u 0 10) (h : VI s cells rivers rc rl rw) : VI s cells rivers' rc' rl' rw' := by
  intro x x0 x1
  have en := nC_up e hp0 (by omega)
  rw [en] at x1
  by_cases q : x = rivers s.toNatClampNeg
  · subst q
    have v1 : rA s rc' (rivers s.toNatClampNeg) = a := sd_eq e1
    have v2 : rA s rl' (rivers s.toNatClampNeg) = v := sd_eq e2
    have v3 : rA s rw' (rivers s.toNatClampNeg) = u := sd_eq e3
    rw [v1, v2, v3]
    exact ⟨ha, hv, hu⟩
  · have qn : ¬ x.toInt = (rivers s.toNatClampNeg).toInt := fun z => q (Int32.toInt_inj.mp z)
    have v1 : rA s rc' x = rA s rc x := sd_old (K := 3) (k := 3) rfl (by decide) hs hp0 (by omega) e1 x0 (by omega)
    have v2 : rA s rl' x = rA s rl x := sd_old (K := 3) (k := 3) rfl (by decide) hs hp0 (by omega) e2 x0 (by omega)
    have v3 : rA s rw' x = rA s rw x := sd_old (K := 3) (k := 3) rfl (by decide) hs hp0 (by omega) e3 x0 (by omega)
    rw [v1, v2, v3]
    exact h x x0 (by omega)
theorem WY_river {s : Int32} {cells passes one oth rivers rivers' rc rc' ways ways' : Nat → Int32} {a : Int32} (hs : rg s 0 1) (hc : nC s cells ≤ 12) (hp0 : 0 ≤ (rivers s.toNatClampNeg).toInt) (hp1 : (rivers s.toNatClampNeg).toInt ≤ 2) (e : rivers' = upd rivers s.toNatClampNeg (rivers s.toNatClampNeg + 1)) (e1 : rc' = upd rc (((3 : Int32) * s) + rivers s.toNatClampNeg).toNatClampNeg a) (hw : ∀ c : Int32, 0 ≤ c.toInt → c.toInt < 12 → 0 ≤ (rO s ways c).toInt → (rO s ways c).toInt ≤ 8 → (rO s ways' c).toInt = (rO s ways c).toInt + (if a = c then 1 else 0) ∧ (rO s ways' c).toInt ≤ 8) (h : WY s cells passes one oth rivers rc ways) : WY s cells passes one oth rivers' rc' ways' := by
  intro c c0 c1
  have en := nC_up e hp0 (by omega)
  have k := h c c0 c1
  have w := hw c c0 (by omega) k.2.1 k.2.2
  have pk := cl_k hp0
  have pk' := cl_k (x := rivers' s.toNatClampNeg) (by omega)
  have en2 : (rivers' s.toNatClampNeg).toNatClampNeg = (rivers s.toNatClampNeg).toNatClampNeg + 1 := by omega
  have xn : Int32.ofNat (rivers s.toNatClampNeg).toNatClampNeg = rivers s.toNatClampNeg := x_nat (a := 0) (b := 2) ⟨hp0, hp1⟩ (by decide)
  have v1 : rA s rc' (rivers s.toNatClampNeg) = a := sd_eq e1
  have d : dgR s rc' c (rivers s.toNatClampNeg).toNatClampNeg = dgR s rc c (rivers s.toNatClampNeg).toNatClampNeg := by
    refine dgR_cg _ (fun i hi => ?_)
    have ei := of_nat (n := i) (by omega)
    exact sd_old (K := 3) (k := 3) rfl (by decide) hs hp0 (by omega) e1 (by omega) (by omega)
  rw [en2]
  show dgP s one oth c (passes s.toNatClampNeg).toNatClampNeg + (dgR s rc' c (rivers s.toNatClampNeg).toNatClampNeg + (if rA s rc' (Int32.ofNat (rivers s.toNatClampNeg).toNatClampNeg) = c then 1 else 0)) ≤ (rO s ways' c).toInt ∧ 0 ≤ (rO s ways' c).toInt ∧ (rO s ways' c).toInt ≤ 8
  rw [xn, v1, d]
  have z1 : 0 ≤ (if a = c then (1 : Int) else 0) := if01.1
  omega
theorem WF_cg {code ci code' ci' : Nat → Int32} {a b : Int32} (h : WF code ci a b) (e1 : ∀ i : Nat, a.toInt ≤ i → (i : Int) < b.toInt → code' i = code i) (e2 : ∀ i : Nat, a.toInt ≤ i → (i : Int) < b.toInt → ci' i = ci i) : WF code' ci' a b := by
  obtain ⟨ha, hb, D, h0, h2⟩ := h
  refine ⟨ha, hb, D, h0, fun i i1 i2 => ?_⟩
  have ea := cl_e ha (by decide)
  rw [e1 i (by omega) i2, e2 i (by omega) i2]
  exact h2 i i1 i2
/-- a village more -/
theorem LI_add {s : Int32} {cells villages villages' home home' need need' lf lf' lt_ lt' code ci code' ci' : Nat → Int32} {h_ v codes codes' : Int32} {t : Int} (hs : rg s 0 1) (hp0 : 0 ≤ (villages s.toNatClampNeg).toInt) (hp1 : (villages s.toNatClampNeg).toInt ≤ 5) (ht : t ≤ 400) (e : villages' = upd villages s.toNatClampNeg (villages s.toNatClampNeg + 1)) (e1 : home' = upd home (((6 : Int32) * s) + villages s.toNatClampNeg).toNatClampNeg h_) (e2 : need' = upd need (((6 : Int32) * s) + villages s.toNatClampNeg).toNatClampNeg v) (e3 : lf' = upd lf (((6 : Int32) * s) + villages s.toNatClampNeg).toNatClampNeg codes) (e4 : lt' = upd lt_ (((6 : Int32) * s) + villages s.toNatClampNeg).toNatClampNeg codes') (ha : 0 ≤ h_.toInt ∧ h_.toInt < nC s cells) (hv : rg v 0 99) (hC : CO s code ci codes codes' code' ci' 0 1 t) (h : LI s cells villages home need lf lt_ code ci codes.toInt) : LI s cells villages' home' need' lf' lt' code' ci' codes'.toInt := by
  intro x x0 x1
  have s0 := hs.1
  have s1 := hs.2
  obtain ⟨c1, c2, c3, c4, c5, c6⟩ := hC
  have en := nC_up e hp0 (by omega)
  rw [en] at x1
  by_cases q : x = villages s.toNatClampNeg
  · subst q
    have v1 : hA s home' (villages s.toNatClampNeg) = h_ := sd_eq e1
    have v2 : hA s need' (villages s.toNatClampNeg) = v := sd_eq e2
    have v3 : hA s lf' (villages s.toNatClampNeg) = codes := sd_eq e3
    have v4 : hA s lt' (villages s.toNatClampNeg) = codes' := sd_eq e4
    rw [v1, v2, v3, v4]
    exact ⟨ha, hv, c1, Int.le_refl _, WF_of ⟨by omega, by omega⟩ ⟨by omega, by omega⟩ c4⟩
  · have qn : ¬ x.toInt = (villages s.toNatClampNeg).toInt := fun z => q (Int32.toInt_inj.mp z)
    have v1 : hA s home' x = hA s home x := sd_old (K := 6) (k := 6) rfl (by decide) hs hp0 (by omega) e1 x0 (by omega)
    have v2 : hA s need' x = hA s need x := sd_old (K := 6) (k := 6) rfl (by decide) hs hp0 (by omega) e2 x0 (by omega)
    have v3 : hA s lf' x = hA s lf x := sd_old (K := 6) (k := 6) rfl (by decide) hs hp0 (by omega) e3 x0 (by omega)
    have v4 : hA s lt' x = hA s lt_ x := sd_old (K := 6) (k := 6) rfl (by decide) hs hp0 (by omega) e4 x0 (by omega)
    rw [v1, v2, v3, v4]
    have k := h x x0 (by omega)
    have kt := k.2.2.2.1
    exact ⟨k.1, k.2.1, k.2.2.1, by omega, WF_cg k.2.2.2.2 (fun i _ i2 => c5 i (Or.inl (by omega))) (fun i _ i2 => c6 i (Or.inl (by omega)))⟩
