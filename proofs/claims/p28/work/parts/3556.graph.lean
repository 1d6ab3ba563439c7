/-! cells joined by passes, on both sides (parts, bridges) -/
noncomputable def cn (p : Nat → Prop) : Nat → Nat
  | 0 => 0
  | n + 1 => cn p n + @ite Nat (p n) (Classical.propDecidable (p n)) 1 0
theorem cn_y {p : Nat → Prop} {n : Nat} (h : p n) : cn p (n + 1) = cn p n + 1 := by
  show cn p n + @ite Nat (p n) (Classical.propDecidable (p n)) 1 0 = _
  rw [if_pos h]
theorem cn_n {p : Nat → Prop} {n : Nat} (h : ¬ p n) : cn p (n + 1) = cn p n := by
  show cn p n + @ite Nat (p n) (Classical.propDecidable (p n)) 1 0 = _
  rw [if_neg h, Nat.add_zero]
theorem cn_le (p : Nat → Prop) (n : Nat) : cn p n ≤ n := by
  induction n with
  | zero => exact Nat.le_refl _
  | succ n ih =>
    by_cases h : p n
    · rw [cn_y h]; omega
    · rw [cn_n h]; omega
theorem cn_mo {p q : Nat → Prop} (n : Nat) (h : ∀ i, i < n → p i → q i) : cn p n ≤ cn q n := by
  induction n with
  | zero => exact Nat.le_refl _
  | succ n ih =>
    have k := ih (fun i hi => h i (by omega))
    by_cases a : p n
    · rw [cn_y a, cn_y (h n (by omega) a)]; omega
    · by_cases b : q n
      · rw [cn_n a, cn_y b]; omega
      · rw [cn_n a, cn_n b]; exact k
theorem cn_lt {p q : Nat → Prop} {j : Nat} (n : Nat) (h : ∀ i, i < n → p i → q i) (hj : j < n) (hq : q j) (hp : ¬ p j) : cn p n + 1 ≤ cn q n := by
  induction n with
  | zero => exact absurd hj (Nat.not_lt_zero _)
  | succ n ih =>
    by_cases e : j = n
    · subst e
      have k := cn_mo j (fun i hi => h i (Nat.lt_succ_of_lt hi))
      rw [cn_n hp, cn_y hq]; omega
    · have k := ih (fun i hi => h i (by omega)) (by omega)
      by_cases a : p n
      · rw [cn_y a, cn_y (h n (by omega) a)]; omega
      · by_cases b : q n
        · rw [cn_n a, cn_y b]; omega
        · rw [cn_n a, cn_n b]; exact k
def Wn (E : Nat → Nat → Prop) (r : Nat) : Nat → Nat → Prop
  | 0, c => c = r
  | k + 1, c => Wn E r k c ∨ ∃ b, Wn E r k b ∧ E b c
def Cn (E : Nat → Nat → Prop) (r c : Nat) : Prop := ∃ k, Wn E r k c
theorem Wn_mo {E : Nat → Nat → Prop} {r j c : Nat} (k : Nat) (h : Wn E r j c) : Wn E r (j + k) c := by
  induction k with
  | zero => exact h
  | succ k ih => exact Or.inl ih
theorem Cn_0 {E : Nat → Nat → Prop} {r : Nat} : Cn E r r := ⟨0, rfl⟩
theorem Cn_s {E : Nat → Nat → Prop} {r b c : Nat} (h : Cn E r b) (e : E b c) : Cn E r c := by
  obtain ⟨k, h⟩ := h
  exact ⟨k + 1, Or.inr ⟨b, h, e⟩⟩
theorem Cn_w {E : Nat → Nat → Prop} {a b : Nat} (h : Cn E a b) : ∀ (k c : Nat), Wn E b k c → Cn E a c := by
  intro k
  induction k with
  | zero => intro c g; exact (show c = b from g) ▸ h
  | succ k ih =>
    intro c g
    rcases g with g | ⟨d, g, e⟩
    · exact ih c g
    · exact Cn_s (ih d g) e
theorem Cn_tr {E : Nat → Nat → Prop} {a b c : Nat} (h : Cn E a b) (g : Cn E b c) : Cn E a c := by
  obtain ⟨k, g⟩ := g
  exact Cn_w h k c g
theorem Wn_lt {E : Nat → Nat → Prop} {r n : Nat} (hE : ∀ a b, E a b → b < n) (hr : r < n) : ∀ (k c : Nat), Wn E r k c → c < n := by
  intro k
  induction k with
  | zero => intro c g; exact (show c = r from g) ▸ hr
  | succ k ih =>
    intro c g
    rcases g with g | ⟨d, g, e⟩
    · exact ih c g
    · exact hE d c e
theorem Wn_st {E : Nat → Nat → Prop} {r j : Nat} (h : ∀ c, Wn E r (j + 1) c → Wn E r j c) : ∀ (k c : Nat), Wn E r (j + k) c → Wn E r j c := by
  intro k
  induction k with
  | zero => intro c g; exact g
  | succ k ih =>
    intro c g
    rcases g with g | ⟨d, g, e⟩
    · exact ih c g
    · exact h c (Or.inr ⟨d, ih d g, e⟩)
theorem Wn_pg {E : Nat → Nat → Prop} {r n : Nat} (hE : ∀ a b, E a b → b < n) (hr : r < n) (k : Nat) : (∃ j, j < k ∧ ∀ c, Wn E r (j + 1) c → Wn E r j c) ∨ k + 1 ≤ cn (Wn E r k) n := by
  induction k with
  | zero =>
    have g := cn_lt (p := fun _ => False) (q := Wn E r 0) (j := r) n (fun _ _ h => h.elim) hr rfl (fun h => h)
    exact Or.inr (by omega)
  | succ k ih =>
    rcases ih with ⟨j, h1, h2⟩ | h
    · exact Or.inl ⟨j, by omega, h2⟩
    · by_cases s : ∀ c, Wn E r (k + 1) c → Wn E r k c
      · exact Or.inl ⟨k, by omega, s⟩
      · obtain ⟨c, hc⟩ := Classical.not_forall.mp s
        obtain ⟨c1, c2⟩ := Classical.not_imp.mp hc
        have g := cn_lt (p := Wn E r k) (q := Wn E r (k + 1)) (j := c) n (fun _ _ h => Or.inl h) (Wn_lt hE hr _ _ c1) c1 c2
        exact Or.inr (by omega)
theorem Cn_W {E : Nat → Nat → Prop} {r n c : Nat} (hE : ∀ a b, E a b → b < n) (hr : r < n) (h : Cn E r c) : Wn E r n c := by
  rcases Wn_pg hE hr n with ⟨j, h1, h2⟩ | h1
  · obtain ⟨k, h⟩ := h
    have h0 : Wn E r (j + k) c := by rw [Nat.add_comm]; exact Wn_mo j h
    have h3 := Wn_mo (n - j) (Wn_st h2 k c h0)
    rw [show j + (n - j) = n by omega] at h3
    exact h3
  · have := cn_le (Wn E r n) n
    omega
def Lst (E : Nat → Nat → Prop) (c : Nat) : Prop := ∀ q, q < c → ¬ Cn E q c
def Ed (m : Int) (u v : Nat → Int32) (left : Int32) (a b : Nat) : Prop := ∃ i : Nat, (i : Int) < m ∧ ¬ (i : Int) = left.toInt ∧ ((a = (u i).toNatClampNeg ∧ b = (v i).toNatClampNeg) ∨ (a = (v i).toNatClampNeg ∧ b = (u i).toNatClampNeg))
/-- the ends of the passes are cells -/
def Nd (n : Nat) (m : Int) (u v : Nat → Int32) : Prop := ∀ i : Nat, (i : Int) < m → (0 ≤ (u i).toInt ∧ (u i).toInt < n) ∧ (0 ≤ (v i).toInt ∧ (v i).toInt < n)
theorem Ed_lt {n : Nat} {m : Int} {u v : Nat → Int32} {left : Int32} (h : Nd n m u v) : ∀ a b, Ed m u v left a b → b < n := by
  intro a b g
  obtain ⟨i, hi, _, e⟩ := g
  obtain ⟨⟨a0, a1⟩, b0, b1⟩ := h i hi
  have eu : ((u i).toNatClampNeg : Int) = (u i).toInt := cl_k a0
  have ev : ((v i).toNatClampNeg : Int) = (v i).toInt := cl_k b0
  rcases e with ⟨_, e⟩ | ⟨_, e⟩ <;> omega
/-! bits -/
def Bt (x : Int32) (i : Nat) : Bool := x.toBitVec.getLsbD i
theorem Bt_or (x y : Int32) (i : Nat) : Bt (x ||| y) i = (Bt x i || Bt y i) := by
  unfold Bt
  rw [Int32.toBitVec_or, BitVec.getLsbD_or]
theorem Bt_and (x y : Int32) (i : Nat) : Bt (x &&& y) i = (Bt x i && Bt y i) := by
  unfold Bt
  rw [Int32.toBitVec_and, BitVec.getLsbD_and]
theorem Bt_0 (i : Nat) : Bt 0 i = false := BitVec.getLsbD_zero
theorem Bt_ext {x y : Int32} (h : ∀ i, i < 32 → Bt x i = Bt y i) : x = y := Int32.toBitVec_inj.mp (BitVec.eq_of_getLsbD_eq (fun i hi => h i hi))
theorem sh_n : ∀ n : Fin 32, ((Int32.ofNat n.val &&& 31).toBitVec.smod 32).toNat = n.val := by decide +kernel
theorem Bt_one : ∀ k i : Fin 32, Bt ((1 : Int32) <<< (Int32.ofNat k.val &&& 31)) i.val = decide (i.val = k.val) := by decide +kernel
theorem Bt_u1 : ∀ i : Fin 32, ¬ i.val = 0 → Bt 1 i.val = false := by decide +kernel
theorem nat_of_ {c : Int32} (h0 : 0 ≤ c.toInt) (h1 : c.toInt < 32) : c = Int32.ofNat c.toNatClampNeg := by
  have e : (c.toNatClampNeg : Int) = c.toInt := cl_k h0
  refine Int32.toInt_inj.mp ?_
  rw [Int32.toInt_ofNat_of_lt (by omega)]
  exact e.symm
theorem Bt_sh {c : Int32} {i : Nat} (h0 : 0 ≤ c.toInt) (h1 : c.toInt < 32) (hi : i < 32) : Bt ((1 : Int32) <<< (c &&& 31)) i = true ↔ i = c.toNatClampNeg := by
  have e : (c.toNatClampNeg : Int) = c.toInt := cl_k h0
  have h : Bt ((1 : Int32) <<< (Int32.ofNat c.toNatClampNeg &&& 31)) i = decide (i = c.toNatClampNeg) := Bt_one ⟨c.toNatClampNeg, by omega⟩ ⟨i, hi⟩
  rw [← nat_of_ h0 h1] at h
  rw [h]
  exact decide_eq_true_iff
theorem Bt_shr (x : Int32) (n : Nat) (hn : n < 31) : Bt (x >>> (Int32.ofNat n &&& 31)) 0 = Bt x n := by
  unfold Bt
  rw [Int32.toBitVec_shiftRight]
  show (x.toBitVec.sshiftRight ((Int32.ofNat n &&& 31).toBitVec.smod 32).toNat).getLsbD 0 = _
  rw [show ((Int32.ofNat n &&& 31).toBitVec.smod 32).toNat = n from sh_n ⟨n, by omega⟩, BitVec.getLsbD_sshiftRight]
  simp [show n < 32 by omega]
theorem c_has {q0 q1 : Int32} (h0 : 0 ≤ q1.toInt) (h1 : q1.toInt < 31) : pa (f_X6_has q0 q1) (fun o => (o = 0 ∧ Bt q0 q1.toNatClampNeg = false) ∨ (o = 1 ∧ Bt q0 q1.toNatClampNeg = true)) := by
  have e : (q1.toNatClampNeg : Int) = q1.toInt := cl_k h0
  have b0 : Bt ((q0 >>> (q1 &&& 31)) &&& 1) 0 = Bt q0 q1.toNatClampNeg := by
    have t := Bt_shr q0 q1.toNatClampNeg (by omega)
    rw [← nat_of_ h0 (by omega)] at t
    rw [Bt_and, t, show Bt 1 0 = true by decide, Bool.and_true]
  unfold f_X6_has
  refine pa_if (fun c => pa_some (Or.inl ⟨rfl, ?_⟩)) (fun c => pa_some (Or.inr ⟨rfl, ?_⟩))
  · rw [← b0, c]
    exact Bt_0 0
  · cases hb : Bt q0 q1.toNatClampNeg with
    | true => rfl
    | false =>
      refine absurd (Bt_ext (fun i hi => ?_)) c
      rw [Bt_0]
      by_cases z : i = 0
      · rw [z, b0, hb]
      · rw [Bt_and, Bt_u1 ⟨i, hi⟩ z, Bool.and_false]
theorem Bt_e {a b : Int32} {i : Nat} (ha : 0 ≤ a.toInt ∧ a.toInt < 32) (hb : 0 ≤ b.toInt ∧ b.toInt < 32) (hi : i < 32) : Bt (((1 : Int32) <<< (a &&& 31)) ||| ((1 : Int32) <<< (b &&& 31))) i = true ↔ i = a.toNatClampNeg ∨ i = b.toNatClampNeg := by
  rw [Bt_or, Bool.or_eq_true, Bt_sh ha.1 ha.2 hi, Bt_sh hb.1 hb.2 hi]
theorem Bt_hit {x e : Int32} (h : ¬ (x &&& e) = 0) : ∃ i, i < 32 ∧ Bt x i = true ∧ Bt e i = true := by
  by_cases g : ∃ i, i < 32 ∧ Bt x i = true ∧ Bt e i = true
  · exact g
  · refine absurd (Bt_ext (fun i hi => ?_)) h
    rw [Bt_0, Bt_and]
    cases hx : Bt x i with
    | false => rfl
    | true =>
      cases he : Bt e i with
      | false => rfl
      | true => exact absurd ⟨i, hi, hx, he⟩ g
theorem Bt_miss {x e : Int32} {i : Nat} (h : (x &&& e) = 0) (hx : Bt x i = true) (he : Bt e i = true) : False := by
  have t := Bt_and x e i
  rw [h, Bt_0, hx, he] at t
  exact absurd t (by decide)
/-! the class's bodies -/
theorem c_b19 {k7 : Int32 → Int32 → Int32 → Option Int32} {cells passes : Int32} {pf pt : Nat → Int32} {x2 x4 : Int32} {Q : Int32 → Prop} {r k n : Nat} (hp : 0 ≤ passes.toInt ∧ passes.toInt ≤ 20) (hn : n ≤ 12) (he : Nd n passes.toInt pf pt)
    (hk : ∀ x3 : Int32, (∀ c, c < n → Bt x3 c = true → Cn (Ed passes.toInt pf pt x2) r c) → (∀ c, c < n → Wn (Ed passes.toInt pf pt x2) r (k + 1) c → Bt x3 c = true) → pa (k7 x2 x3 (x4 + 1)) Q) :
    ∀ (m : Nat) (x3 x5 : Int32) (i : Nat), x5.toInt = i → (∀ c, c < n → Bt x3 c = true → Cn (Ed passes.toInt pf pt x2) r c) → (∀ c, c < n → Wn (Ed passes.toInt pf pt x2) r k c → Bt x3 c = true) → (∀ j : Nat, j < i → (j : Int) < passes.toInt → ¬ (j : Int) = x2.toInt → (Wn (Ed passes.toInt pf pt x2) r k (pf j).toNatClampNeg ∨ Wn (Ed passes.toInt pf pt x2) r k (pt j).toNatClampNeg) → Bt x3 (pf j).toNatClampNeg = true ∧ Bt x3 (pt j).toNatClampNeg = true) → pa (f_X3_bodyOf_b19 k7 cells passes pf pt m x2 x3 x4 x5) Q := by
  intro m
  induction m with
  | zero => intro x3 x5 i _ _ _ _; exact pa_none
  | succ m ih =>
    intro x3 x5 i h5 hs hw hi
    show pa (f_X3_bodyOf_b19_st (f_X3_bodyOf_b19 k7 cells passes pf pt m) k7 cells passes pf pt x2 x3 x4 x5) Q
    unfold f_X3_bodyOf_b19_st
    refine pa_if (fun c => hk x3 hs (fun d hd w => ?_)) (fun c => pa_ck (fun _ => pa_ck (fun _ => pa_nx (pa_if (fun z => ?_) (fun z => pa_if (fun y => ?_) (fun y => ?_))))))
    · have c2 := ti_le c
      rcases w with w | ⟨b, w, j, j0, j1, ⟨ea, eb⟩ | ⟨ea, eb⟩⟩
      · exact hw d hd w
      · rw [ea] at w; rw [eb]
        exact (hi j (by omega) j0 j1 (Or.inl w)).2
      · rw [ea] at w; rw [eb]
        exact (hi j (by omega) j0 j1 (Or.inr w)).1
    · have c2 := ti_nle c
      have t := add_k (x := x5) (v := 1) (k := 1) rfl (by omega) (by omega)
      have z2 : x5.toInt = x2.toInt := by rw [z]
      exact ih x3 (x5 + 1) (i + 1) (by omega) hs hw (fun j hj j0 j1 g => hi j (by omega) j0 j1 g)
    · have c2 := ti_nle c
      have t := add_k (x := x5) (v := 1) (k := 1) rfl (by omega) (by omega)
      have e5 : x5.toNatClampNeg = i := by have : (x5.toNatClampNeg : Int) = x5.toInt := cl_k (by omega); omega
      rw [e5] at y
      obtain ⟨⟨u0, u1⟩, v0, v1⟩ := he i (by omega)
      have eu : ((pf i).toNatClampNeg : Int) = (pf i).toInt := cl_k u0
      have ev : ((pt i).toNatClampNeg : Int) = (pt i).toInt := cl_k v0
      refine ih x3 (x5 + 1) (i + 1) (by omega) hs hw (fun j hj j0 j1 g => ?_)
      by_cases q : j = i
      · subst q
        rcases g with g | g
        · exact (Bt_miss y (hw _ (by omega) g) ((Bt_e ⟨u0, by omega⟩ ⟨v0, by omega⟩ (by omega)).mpr (Or.inl rfl))).elim
        · exact (Bt_miss y (hw _ (by omega) g) ((Bt_e ⟨u0, by omega⟩ ⟨v0, by omega⟩ (by omega)).mpr (Or.inr rfl))).elim
      · exact hi j (by omega) j0 j1 g
    · have c2 := ti_nle c
      have t := add_k (x := x5) (v := 1) (k := 1) rfl (by omega) (by omega)
      have z2 : ¬ x5.toInt = x2.toInt := fun w => z (Int32.toInt_inj.mp w)
      have e5 : x5.toNatClampNeg = i := by have : (x5.toNatClampNeg : Int) = x5.toInt := cl_k (by omega); omega
      rw [e5] at y ⊢
      obtain ⟨⟨u0, u1⟩, v0, v1⟩ := he i (by omega)
      have eu : ((pf i).toNatClampNeg : Int) = (pf i).toInt := cl_k u0
      have ev : ((pt i).toNatClampNeg : Int) = (pt i).toInt := cl_k v0
      have up : ∀ d, Bt x3 d = true → Bt (x3 ||| (((1 : Int32) <<< (pf i &&& 31)) ||| ((1 : Int32) <<< (pt i &&& 31)))) d = true := fun d hd => by rw [Bt_or, hd]; rfl
      have both : Cn (Ed passes.toInt pf pt x2) r (pf i).toNatClampNeg ∧ Cn (Ed passes.toInt pf pt x2) r (pt i).toNatClampNeg := by
        obtain ⟨d, d32, dx, de⟩ := Bt_hit y
        have eg1 : Ed passes.toInt pf pt x2 (pf i).toNatClampNeg (pt i).toNatClampNeg := ⟨i, by omega, by omega, Or.inl ⟨rfl, rfl⟩⟩
        have eg2 : Ed passes.toInt pf pt x2 (pt i).toNatClampNeg (pf i).toNatClampNeg := ⟨i, by omega, by omega, Or.inr ⟨rfl, rfl⟩⟩
        rcases (Bt_e ⟨u0, by omega⟩ ⟨v0, by omega⟩ d32).mp de with q | q
        · have g := hs d (by omega) dx
          rw [q] at g
          exact ⟨g, Cn_s g eg1⟩
        · have g := hs d (by omega) dx
          rw [q] at g
          exact ⟨Cn_s g eg2, g⟩
      refine ih _ (x5 + 1) (i + 1) (by omega) (fun d hd g => ?_) (fun d hd g => up d (hw d hd g)) (fun j hj j0 j1 g => ?_)
      · rw [Bt_or, Bool.or_eq_true] at g
        rcases g with g | g
        · exact hs d hd g
        · rcases (Bt_e ⟨u0, by omega⟩ ⟨v0, by omega⟩ (by omega)).mp g with q | q
          · rw [q]; exact both.1
          · rw [q]; exact both.2
      · by_cases q : j = i
        · subst q
          have bu := (Bt_e (i := (pf j).toNatClampNeg) ⟨u0, by omega⟩ ⟨v0, by omega⟩ (by omega)).mpr (Or.inl rfl)
          have bv := (Bt_e (i := (pt j).toNatClampNeg) ⟨u0, by omega⟩ ⟨v0, by omega⟩ (by omega)).mpr (Or.inr rfl)
          exact ⟨by rw [Bt_or x3, bu, Bool.or_true], by rw [Bt_or x3, bv, Bool.or_true]⟩
        · have g2 := hi j (by omega) j0 j1 g
          exact ⟨up _ g2.1, up _ g2.2⟩
theorem c_b7 {cells passes : Int32} {pf pt : Nat → Int32} {x2 : Int32} {r n : Nat} (hp : 0 ≤ passes.toInt ∧ passes.toInt ≤ 20) (hn : n ≤ 12) (hc : cells.toInt = n) (hr : r < n) (he : Nd n passes.toInt pf pt) : ∀ (m : Nat) (x3 x4 : Int32) (k : Nat), x4.toInt = k → k ≤ n → (∀ c, c < n → Bt x3 c = true → Cn (Ed passes.toInt pf pt x2) r c) → (∀ c, c < n → Wn (Ed passes.toInt pf pt x2) r k c → Bt x3 c = true) → pa (f_X3_bodyOf_b7 cells passes pf pt m x2 x3 x4) (fun o => ∀ c, c < n → (Bt o c = true ↔ Cn (Ed passes.toInt pf pt x2) r c)) := by
  intro m
  induction m with
  | zero => intro x3 x4 k _ _ _ _; exact pa_none
  | succ m ih =>
    intro x3 x4 k h4 hk hs hw
    show pa (f_X3_bodyOf_b7_st (f_X3_bodyOf_b7 cells passes pf pt m) cells passes pf pt x2 x3 x4) _
    unfold f_X3_bodyOf_b7_st
    refine pa_if (fun c => pa_some (fun d hd => ⟨hs d hd, fun g => hw d hd ?_⟩)) (fun c => ?_)
    · have c2 := ti_le c
      have e : k = n := by omega
      rw [e]
      exact Cn_W (Ed_lt he) hr g
    · have c2 := ti_nle c
      have t := add_k (x := x4) (v := 1) (k := 1) rfl (by omega) (by omega)
      refine c_b19 (k := k) hp hn he (fun y hy hz => ih y (x4 + 1) (k + 1) (by omega) (by omega) hy hz) fuel x3 0 0 rfl hs hw (fun j hj => absurd hj (Nat.not_lt_zero _))
theorem c_bodyOf {cells passes : Int32} {pf pt : Nat → Int32} {q1 q2 : Int32} {n : Nat} (hp : 0 ≤ passes.toInt ∧ passes.toInt ≤ 20) (hn : n ≤ 12) (hc : cells.toInt = n) (hq : 0 ≤ q1.toInt ∧ q1.toInt < n) (he : Nd n passes.toInt pf pt) : pa (f_X3_bodyOf cells passes pf pt q1 q2) (fun o => ∀ c, c < n → (Bt o c = true ↔ Cn (Ed passes.toInt pf pt q2) q1.toNatClampNeg c)) := by
  have e : (q1.toNatClampNeg : Int) = q1.toInt := cl_k hq.1
  unfold f_X3_bodyOf
  refine c_b7 hp hn hc (by omega) he fuel _ 0 0 rfl (Nat.zero_le _) (fun c hd g => ?_) (fun c hd g => ?_)
  · rw [(Bt_sh hq.1 (by omega) (by omega)).mp g]
    exact Cn_0
  · exact (Bt_sh hq.1 (by omega) (by omega)).mpr g
theorem c_bw {cells passes : Int32} {pf pt : Nat → Int32} {x1 : Int32} {n : Nat} (hp : 0 ≤ passes.toInt ∧ passes.toInt ≤ 20) (hn : n ≤ 12) (hc : cells.toInt = n) (he : Nd n passes.toInt pf pt) : ∀ (m : Nat) (x2 x3 x4 : Int32) (c : Nat), x4.toInt = c → c ≤ n → x2.toInt = cn (Lst (Ed passes.toInt pf pt x1)) c → (∀ d, d < n → (Bt x3 d = true ↔ ∃ q, q < c ∧ Cn (Ed passes.toInt pf pt x1) q d)) → pa (f_X3_bodiesWithout_b7 cells passes pf pt m x1 x2 x3 x4) (fun o => o.toInt = cn (Lst (Ed passes.toInt pf pt x1)) n) := by
  intro m
  induction m with
  | zero => intro x2 x3 x4 c _ _ _ _; exact pa_none
  | succ m ih =>
    intro x2 x3 x4 c h4 hcn h2 hB
    show pa (f_X3_bodiesWithout_b7_st (f_X3_bodiesWithout_b7 cells passes pf pt m) cells passes pf pt x1 x2 x3 x4) _
    unfold f_X3_bodiesWithout_b7_st
    refine pa_if (fun z => pa_some ?_) (fun z => ?_)
    · have z2 := ti_le z
      have e : c = n := by omega
      rw [← e]; exact h2
    · have z2 := ti_nle z
      have e4 : x4.toNatClampNeg = c := by have : (x4.toNatClampNeg : Int) = x4.toInt := cl_k (by omega); omega
      have t := add_k (x := x4) (v := 1) (k := 1) rfl (by omega) (by omega)
      have cl := cn_le (Lst (Ed passes.toInt pf pt x1)) c
      refine pa_bd (c_has (by omega) (by omega)) (fun o ho => ?_)
      rw [e4] at ho
      rcases ho with ⟨rfl, ho⟩ | ⟨rfl, ho⟩
      · refine pa_if (fun _ => ?_) (fun q => absurd rfl q)
        refine pa_bd (c_bodyOf hp hn hc ⟨by omega, by omega⟩ he) (fun o4 h5 => ?_)
        rw [e4] at h5
        have ls : Lst (Ed passes.toInt pf pt x1) c := fun q hq g => by
          have y := (hB c (by omega)).mpr ⟨q, hq, g⟩
          rw [ho] at y
          exact absurd y (by decide)
        have t2 := add_k (x := x2) (v := 1) (k := 1) rfl (by omega) (by omega)
        refine ih _ _ (x4 + 1) (c + 1) (by omega) (by omega) (by rw [cn_y ls]; omega) (fun d hd => ?_)
        rw [Bt_or, Bool.or_eq_true, hB d hd, h5 d hd]
        constructor
        · rintro (⟨q, hq, g⟩ | g)
          · exact ⟨q, by omega, g⟩
          · exact ⟨c, by omega, g⟩
        · rintro ⟨q, hq, g⟩
          by_cases y : q = c
          · rw [y] at g; exact Or.inr g
          · exact Or.inl ⟨q, by omega, g⟩
      · refine pa_if (fun q => absurd q (by decide)) (fun _ => ?_)
        obtain ⟨q0, hq0, g0⟩ := (hB c (by omega)).mp ho
        have ls : ¬ Lst (Ed passes.toInt pf pt x1) c := fun h => h q0 hq0 g0
        refine ih _ _ (x4 + 1) (c + 1) (by omega) (by omega) (by rw [cn_n ls]; exact h2) (fun d hd => ?_)
        rw [hB d hd]
        constructor
        · rintro ⟨q, hq, g⟩
          exact ⟨q, by omega, g⟩
        · rintro ⟨q, hq, g⟩
          by_cases y : q = c
          · rw [y] at g; exact ⟨q0, hq0, Cn_tr g0 g⟩
          · exact ⟨q, by omega, g⟩
theorem c_bodies {cells passes : Int32} {pf pt : Nat → Int32} {q1 : Int32} {n : Nat} (hp : 0 ≤ passes.toInt ∧ passes.toInt ≤ 20) (hn : n ≤ 12) (hc : cells.toInt = n) (he : Nd n passes.toInt pf pt) : pa (f_X3_bodiesWithout cells passes pf pt q1) (fun o => o.toInt = cn (Lst (Ed passes.toInt pf pt q1)) n) := by
  unfold f_X3_bodiesWithout
  refine c_bw hp hn hc he fuel 0 0 0 0 rfl (Nat.zero_le _) rfl (fun d _ => ⟨fun h => ?_, fun h => ?_⟩)
  · rw [Bt_0] at h
    exact absurd h (by decide)
  · obtain ⟨q, hq, _⟩ := h
    exact absurd hq (Nat.not_lt_zero _)
/-! the reference's parts -/
/-- a cell's part is one of the cells joined to it -/
def PS (E : Nat → Nat → Prop) (n : Nat) (part : Nat → Int32) : Prop := ∀ c, c < n → 0 ≤ (part c).toInt ∧ (part c).toInt < n ∧ Cn E (part c).toNatClampNeg c
theorem PS_up {E : Nat → Nat → Prop} {n a b : Nat} {part : Nat → Int32} {t : Int32} (h : PS E n part) (ha : a < n) (hb : b < n) (e1 : E a b) (e2 : E b a) (ht : t = part a ∨ t = part b) : PS E n (upd (upd part a t) b t) := by
  have ga : 0 ≤ t.toInt ∧ t.toInt < n ∧ Cn E t.toNatClampNeg a ∧ Cn E t.toNatClampNeg b := by
    rcases ht with rfl | rfl
    · have k := h a ha
      exact ⟨k.1, k.2.1, k.2.2, Cn_s k.2.2 e1⟩
    · have k := h b hb
      exact ⟨k.1, k.2.1, Cn_s k.2.2 e2, k.2.2⟩
  intro c hc
  unfold upd
  by_cases q : c = b
  · rw [if_pos q, q]; exact ⟨ga.1, ga.2.1, ga.2.2.2⟩
  · rw [if_neg q]
    by_cases y : c = a
    · rw [if_pos y, y]; exact ⟨ga.1, ga.2.1, ga.2.2.1⟩
    · rw [if_neg y]; exact h c hc
theorem m_35 {k25 : (Nat → Int32) → Int32 → Int32 → Option (Int32 × (Nat → Int32))} {live passes : Int32} {mc mp mo mh pf pt : Nat → Int32} {x1 x2 : Int32} {Q : Int32 × (Nat → Int32) → Prop} {part0 : Nat → Int32} {k n : Nat} (hl : 0 ≤ live.toInt ∧ live.toInt ≤ 1) (hmp : mp live.toNatClampNeg = passes) (hp : 0 ≤ passes.toInt ∧ passes.toInt ≤ 20) (hn : n ≤ 12) (he : Nd n passes.toInt pf pt) (af : AL pf mo (20 * live.toNatClampNeg) passes.toInt) (at_ : AL pt mh (20 * live.toNatClampNeg) passes.toInt)
    (h0 : ∀ r c, c < n → Wn (Ed passes.toInt pf pt x1) r k c → (part0 c).toInt ≤ r)
    (hk : ∀ part : Nat → Int32, PS (Ed passes.toInt pf pt x1) n part → (∀ r c, c < n → Wn (Ed passes.toInt pf pt x1) r (k + 1) c → (part c).toInt ≤ r) → pa (k25 part x1 (x2 + 1)) Q) :
    ∀ (m : Nat) (part : Nat → Int32) (x3 : Int32) (i : Nat), x3.toInt = i → PS (Ed passes.toInt pf pt x1) n part → (∀ c, c < n → (part c).toInt ≤ (part0 c).toInt) → (∀ j : Nat, j < i → (j : Int) < passes.toInt → ¬ (j : Int) = x1.toInt → (part (pf j).toNatClampNeg).toInt ≤ (part0 (pt j).toNatClampNeg).toInt ∧ (part (pt j).toNatClampNeg).toInt ≤ (part0 (pf j).toNatClampNeg).toInt) → pa (f_X7_partsWithout_b35 k25 live mc mp mo mh m part x1 x2 x3) Q := by
  intro m
  induction m with
  | zero => intro part x3 i _ _ _ _; exact pa_none
  | succ m ih =>
    intro part x3 i h3 hs hd hi
    show pa (f_X7_partsWithout_b35_st (f_X7_partsWithout_b35 k25 live mc mp mo mh m) k25 live mc mp mo mh part x1 x2 x3) Q
    unfold f_X7_partsWithout_b35_st
    rw [hmp]
    refine pa_ck (fun _ => pa_if (fun z => hk part hs (fun r c hc w => ?_)) (fun z => pa_if (fun y => ?_) (fun y => ?_)))
    · have z2 := ti_le z
      rcases w with w | ⟨b, w, j, j0, j1, ⟨ea, eb⟩ | ⟨ea, eb⟩⟩
      · exact Int.le_trans (hd c hc) (h0 r c hc w)
      · have k := he j j0
        have eu : ((pf j).toNatClampNeg : Int) = (pf j).toInt := cl_k k.1.1
        have w2 := h0 r b (by omega) w
        have g := (hi j (by omega) j0 j1).2
        rw [eb]; rw [ea] at w2
        exact Int.le_trans g w2
      · have k := he j j0
        have ev : ((pt j).toNatClampNeg : Int) = (pt j).toInt := cl_k k.2.1
        have w2 := h0 r b (by omega) w
        have g := (hi j (by omega) j0 j1).1
        rw [eb]; rw [ea] at w2
        exact Int.le_trans g w2
    · have z2 := ti_nle z
      have t := add_k (x := x3) (v := 1) (k := 1) rfl (by omega) (by omega)
      have y2 : x3.toInt = x1.toInt := by rw [y]
      exact ih part (x3 + 1) (i + 1) (by omega) hs hd (fun j hj j0 j1 => hi j (by omega) j0 j1)
    · have z2 := ti_nle z
      have t := add_k (x := x3) (v := 1) (k := 1) rfl (by omega) (by omega)
      have y2 : ¬ x3.toInt = x1.toInt := fun w => y (Int32.toInt_inj.mp w)
      have e3 : x3.toNatClampNeg = i := by have : (x3.toNatClampNeg : Int) = x3.toInt := cl_k (by omega); omega
      have ix := ix_e (c := x3) (m := 20) (M := 20) hl ⟨by omega, by omega⟩ rfl (by decide)
      rw [ix, e3]
      refine pa_ck (fun _ => pa_nm (fun a ea => pa_ck (fun _ => pa_nm (fun b eb => pa_ck (fun _ => pa_ck (fun _ => ?_))))))
      rw [← af i (by omega)] at ea
      rw [← at_ i (by omega)] at eb
      subst ea eb
      obtain ⟨⟨u0, u1⟩, v0, v1⟩ := he i (by omega)
      have eu : ((pf i).toNatClampNeg : Int) = (pf i).toInt := cl_k u0
      have ev : ((pt i).toNatClampNeg : Int) = (pt i).toInt := cl_k v0
      have eg1 : Ed passes.toInt pf pt x1 (pf i).toNatClampNeg (pt i).toNatClampNeg := ⟨i, by omega, by omega, Or.inl ⟨rfl, rfl⟩⟩
      have eg2 : Ed passes.toInt pf pt x1 (pt i).toNatClampNeg (pf i).toNatClampNeg := ⟨i, by omega, by omega, Or.inr ⟨rfl, rfl⟩⟩
      have go : ∀ t : Int32, (t = part (pf i).toNatClampNeg ∨ t = part (pt i).toNatClampNeg) → t.toInt ≤ (part (pf i).toNatClampNeg).toInt → t.toInt ≤ (part (pt i).toNatClampNeg).toInt → pa (f_X7_partsWithout_b122 k25 (f_X7_partsWithout_b35 k25 live mc mp mo mh m) live mc mp mo mh part x1 x2 x3 (pf i) (pt i) t) Q := by
        intro t ht t1 t2
        have du := hd (pf i).toNatClampNeg (by omega)
        have dv := hd (pt i).toNatClampNeg (by omega)
        have dn : ∀ c, (upd (upd part (pf i).toNatClampNeg t) (pt i).toNatClampNeg t c).toInt ≤ (part c).toInt := by
          intro c
          unfold upd
          by_cases q : c = (pt i).toNatClampNeg
          · rw [if_pos q, q]; exact t2
          · rw [if_neg q]
            by_cases y : c = (pf i).toNatClampNeg
            · rw [if_pos y, y]; exact t1
            · rw [if_neg y]; exact Int.le_refl _
        have at2 : upd (upd part (pf i).toNatClampNeg t) (pt i).toNatClampNeg t (pt i).toNatClampNeg = t := up_at
        have at1 : upd (upd part (pf i).toNatClampNeg t) (pt i).toNatClampNeg t (pf i).toNatClampNeg = t := by
          unfold upd
          by_cases q : (pf i).toNatClampNeg = (pt i).toNatClampNeg
          · rw [if_pos q]
          · rw [if_neg q, if_pos rfl]
        unfold f_X7_partsWithout_b122
        refine pa_ck (fun _ => pa_nx (pa_ck (fun _ => pa_nx (ih _ (x3 + 1) (i + 1) (by omega) (PS_up hs (by omega) (by omega) eg1 eg2 ht) (fun c hc => Int.le_trans (dn c) (hd c hc)) (fun j hj j0 j1 => ?_)))))
        by_cases q : j = i
        · subst q
          rw [at1, at2]
          exact ⟨Int.le_trans t2 dv, Int.le_trans t1 du⟩
        · have g := hi j (by omega) j0 j1
          exact ⟨Int.le_trans (dn _) g.1, Int.le_trans (dn _) g.2⟩
      refine pa_if (fun c => pa_ck (fun _ => go _ (Or.inr rfl) (ti_le c) (Int.le_refl _))) (fun c => pa_ck (fun _ => go _ (Or.inl rfl) (Int.le_refl _) ?_))
      have := ti_nle c
      omega
theorem m_n {live ce : Int32} {mc : Nat → Int32} (hc : mc live.toNatClampNeg = ce) : pa (f_X7_n live mc) (fun o => o = ce) := by
  unfold f_X7_n
  exact pa_ck (fun _ => pa_some hc)
theorem m_158 {E : Nat → Nat → Prop} {live cells : Int32} {mc part : Nat → Int32} {n : Nat} (hmc : mc live.toNatClampNeg = cells) (hn : n ≤ 12) (hc : cells.toInt = n) (hE : ∀ a b, E a b → b < n) (hs : PS E n part) (ht : ∀ r c, c < n → Wn E r n c → (part c).toInt ≤ r) : ∀ (m : Nat) (x2 x3 : Int32) (c : Nat), x3.toInt = c → c ≤ n → x2.toInt = cn (Lst E) c → pa (f_X7_partsWithout_b158 live mc m part x2 x3) (fun o => o.1.toInt = cn (Lst E) n) := by
  intro m
  induction m with
  | zero => intro x2 x3 c _ _ _; exact pa_none
  | succ m ih =>
    intro x2 x3 c h3 hcn h2
    show pa (f_X7_partsWithout_b158_st (f_X7_partsWithout_b158 live mc m) live mc part x2 x3) _
    unfold f_X7_partsWithout_b158_st
    refine pa_bd (m_n hmc) (fun o ho => ?_)
    subst ho
    refine pa_if (fun z => pa_some ?_) (fun z => ?_)
    · have z2 := ti_le z
      have e : c = n := by omega
      rw [← e]; exact h2
    · have z2 := ti_nle z
      have e3 : x3.toNatClampNeg = c := by have : (x3.toNatClampNeg : Int) = x3.toInt := cl_k (by omega); omega
      have t := add_k (x := x3) (v := 1) (k := 1) rfl (by omega) (by omega)
      have cl := cn_le (Lst E) c
      obtain ⟨s0, s1, s2⟩ := hs c (by omega)
      have ep : ((part c).toNatClampNeg : Int) = (part c).toInt := cl_k s0
      have le : ∀ q, q < n → Cn E q c → (part c).toInt ≤ q := fun q hq g => ht q c (by omega) (Cn_W hE hq g)
      rw [e3]
      refine pa_ck (fun _ => pa_if (fun y => ?_) (fun y => ?_))
      · have ls : Lst E c := fun q hq g => by
          have a := le q (by omega) g
          have b : (part c).toInt = x3.toInt := by rw [y]
          omega
        have t2 := add_k (x := x2) (v := 1) (k := 1) rfl (by omega) (by omega)
        exact ih _ (x3 + 1) (c + 1) (by omega) (by omega) (by rw [cn_y ls]; omega)
      · have ls : ¬ Lst E c := fun h => by
          have a := le c (by omega) Cn_0
          have b : ¬ (part c).toInt = x3.toInt := fun w => y (Int32.toInt_inj.mp w)
          exact h (part c).toNatClampNeg (by omega) s2
        exact ih _ (x3 + 1) (c + 1) (by omega) (by omega) (by rw [cn_n ls]; exact h2)
theorem m_25 {live cells passes : Int32} {mc mp mo mh pf pt : Nat → Int32} {x1 : Int32} {n : Nat} (hl : 0 ≤ live.toInt ∧ live.toInt ≤ 1) (hmc : mc live.toNatClampNeg = cells) (hmp : mp live.toNatClampNeg = passes) (hp : 0 ≤ passes.toInt ∧ passes.toInt ≤ 20) (hn : n ≤ 12) (hc : cells.toInt = n) (he : Nd n passes.toInt pf pt) (af : AL pf mo (20 * live.toNatClampNeg) passes.toInt) (at_ : AL pt mh (20 * live.toNatClampNeg) passes.toInt) : ∀ (m : Nat) (part : Nat → Int32) (x2 : Int32) (k : Nat), x2.toInt = k → k ≤ n → PS (Ed passes.toInt pf pt x1) n part → (∀ r c, c < n → Wn (Ed passes.toInt pf pt x1) r k c → (part c).toInt ≤ r) → pa (f_X7_partsWithout_b25 live mc mp mo mh m part x1 x2) (fun o => o.1.toInt = cn (Lst (Ed passes.toInt pf pt x1)) n) := by
  intro m
  induction m with
  | zero => intro part x2 k _ _ _ _; exact pa_none
  | succ m ih =>
    intro part x2 k h2 hk hs hw
    show pa (f_X7_partsWithout_b25_st (f_X7_partsWithout_b25 live mc mp mo mh m) live mc mp mo mh part x1 x2) _
    unfold f_X7_partsWithout_b25_st
    refine pa_bd (m_n hmc) (fun o ho => ?_)
    subst ho
    refine pa_if (fun z => ?_) (fun z => ?_)
    · have z2 := ti_le z
      have e : k = n := by omega
      rw [e] at hw
      exact m_158 hmc hn hc (Ed_lt he) hs hw fuel 0 0 0 rfl (Nat.zero_le _) rfl
    · have z2 := ti_nle z
      have t := add_k (x := x2) (v := 1) (k := 1) rfl (by omega) (by omega)
      exact m_35 (k := k) (part0 := part) hl hmp hp hn he af at_ hw (fun p2 hp2 hw2 => ih p2 (x2 + 1) (k + 1) (by omega) (by omega) hp2 hw2) fuel part 0 0 rfl hs (fun c _ => Int.le_refl _) (fun j hj => absurd hj (Nat.not_lt_zero _))
theorem m_2 {live cells passes : Int32} {mc mp mo mh pf pt : Nat → Int32} {x1 : Int32} {n : Nat} (hl : 0 ≤ live.toInt ∧ live.toInt ≤ 1) (hmc : mc live.toNatClampNeg = cells) (hmp : mp live.toNatClampNeg = passes) (hp : 0 ≤ passes.toInt ∧ passes.toInt ≤ 20) (hn : n ≤ 12) (hc : cells.toInt = n) (he : Nd n passes.toInt pf pt) (af : AL pf mo (20 * live.toNatClampNeg) passes.toInt) (at_ : AL pt mh (20 * live.toNatClampNeg) passes.toInt) : ∀ (m : Nat) (part : Nat → Int32) (x2 : Int32) (i : Nat), x2.toInt = i → (∀ c : Nat, c < i → c < n → (part c).toInt = c) → pa (f_X7_partsWithout_b2 live mc mp mo mh m part x1 x2) (fun o => o.1.toInt = cn (Lst (Ed passes.toInt pf pt x1)) n) := by
  intro m
  induction m with
  | zero => intro part x2 i _ _; exact pa_none
  | succ m ih =>
    intro part x2 i h2 hj
    show pa (f_X7_partsWithout_b2_st (f_X7_partsWithout_b2 live mc mp mo mh m) live mc mp mo mh part x1 x2) _
    unfold f_X7_partsWithout_b2_st
    refine pa_bd (m_n hmc) (fun o ho => ?_)
    subst ho
    refine pa_if (fun z => ?_) (fun z => ?_)
    · have z2 := ti_le z
      refine m_25 hl hmc hmp hp hn hc he af at_ fuel part 0 0 rfl (Nat.zero_le _) (fun c hc2 => ?_) (fun r c hc2 w => ?_)
      · have g := hj c (by omega) hc2
        have e : ((part c).toNatClampNeg : Int) = (part c).toInt := cl_k (by omega)
        refine ⟨by omega, by omega, ?_⟩
        rw [show (part c).toNatClampNeg = c by omega]
        exact Cn_0
      · have g := hj c (by omega) hc2
        have w2 : c = r := w
        omega
    · have z2 := ti_nle z
      have e2 : x2.toNatClampNeg = i := by have : (x2.toNatClampNeg : Int) = x2.toInt := cl_k (by omega); omega
      have t := add_k (x := x2) (v := 1) (k := 1) rfl (by omega) (by omega)
      rw [e2]
      refine pa_ck (fun _ => pa_nx (ih _ (x2 + 1) (i + 1) (by omega) (fun c h0 h1 => ?_)))
      unfold upd
      by_cases q : c = i
      · rw [if_pos q, q]; exact h2
      · rw [if_neg q]; exact hj c (by omega) h1
/-- as many bodies as parts -/
theorem j_bodies {live cells passes q1 : Int32} {mc mp mo mh pf pt part : Nat → Int32} (hl : 0 ≤ live.toInt ∧ live.toInt ≤ 1) (hmc : mc live.toNatClampNeg = cells) (hc : 0 ≤ cells.toInt ∧ cells.toInt ≤ 12) (hmp : mp live.toNatClampNeg = passes) (hp : 0 ≤ passes.toInt ∧ passes.toInt ≤ 20) (he : ∀ i : Nat, (i : Int) < passes.toInt → (0 ≤ (pf i).toInt ∧ (pf i).toInt < cells.toInt) ∧ (0 ≤ (pt i).toInt ∧ (pt i).toInt < cells.toInt)) (af : AL pf mo (20 * live.toNatClampNeg) passes.toInt) (at_ : AL pt mh (20 * live.toNatClampNeg) passes.toInt) : pj (f_X3_bodiesWithout cells passes pf pt q1) (f_X7_partsWithout live mc mp mo mh part q1) (fun a b => a = b.1) := by
  obtain ⟨n, hn⟩ : ∃ n : Nat, cells.toInt = n := ⟨cells.toInt.toNat, by omega⟩
  have hN : Nd n passes.toInt pf pt := fun i hi => by
    have g := he i hi
    rw [hn] at g
    exact g
  refine pj_of (c_bodies hp (by omega) hn hN) (Q := fun o => o.1.toInt = cn (Lst (Ed passes.toInt pf pt q1)) n) ?_ (fun a b ha hb => Int32.toInt_inj.mp (ha.trans hb.symm))
  unfold f_X7_partsWithout
  exact m_2 hl hmc hmp hp (by omega) hn hN af at_ fuel part 0 0 rfl (fun c h => absurd h (Nat.not_lt_zero _))
theorem j_parts {live cells passes : Int32} {mc mp mo mh pf pt part : Nat → Int32} (hl : 0 ≤ live.toInt ∧ live.toInt ≤ 1) (hmc : mc live.toNatClampNeg = cells) (hc : 0 ≤ cells.toInt ∧ cells.toInt ≤ 12) (hmp : mp live.toNatClampNeg = passes) (hp : 0 ≤ passes.toInt ∧ passes.toInt ≤ 20) (he : ∀ i : Nat, (i : Int) < passes.toInt → (0 ≤ (pf i).toInt ∧ (pf i).toInt < cells.toInt) ∧ (0 ≤ (pt i).toInt ∧ (pt i).toInt < cells.toInt)) (af : AL pf mo (20 * live.toNatClampNeg) passes.toInt) (at_ : AL pt mh (20 * live.toNatClampNeg) passes.toInt) : pj (f_X6_parts cells passes pf pt) (f_X7_parts live mc mp mo mh part) (fun a b => a = b.1) := by
  unfold f_X6_parts f_X7_parts
  exact pj_bb (j_bodies hl hmc hc hmp hp he af at_) (fun a b h => pj_ss h)
theorem j_bridges {live cells passes : Int32} {mc mp mo mh pf pt part : Nat → Int32} (hl : 0 ≤ live.toInt ∧ live.toInt ≤ 1) (hmc : mc live.toNatClampNeg = cells) (hc : 0 ≤ cells.toInt ∧ cells.toInt ≤ 12) (hmp : mp live.toNatClampNeg = passes) (hp : 0 ≤ passes.toInt ∧ passes.toInt ≤ 20) (he : ∀ i : Nat, (i : Int) < passes.toInt → (0 ≤ (pf i).toInt ∧ (pf i).toInt < cells.toInt) ∧ (0 ≤ (pt i).toInt ∧ (pt i).toInt < cells.toInt)) (af : AL pf mo (20 * live.toNatClampNeg) passes.toInt) (at_ : AL pt mh (20 * live.toNatClampNeg) passes.toInt) : pj (f_X6_bridges cells passes pf pt) (f_X7_bridges live mc mp mo mh part) (fun a b => a = b.1) := by
  unfold f_X6_bridges f_X7_bridges
  refine pj_bb (j_bodies hl hmc hc hmp hp he af at_) (fun a b h => ?_)
  subst h
  obtain ⟨b1, b2⟩ := b
  show pj (f_X6_bridges_b13 cells passes pf pt fuel b1 0 0) (f_X7_bridges_b10 live mc mp mo mh fuel b2 b1 0 0) _
  have go : ∀ (n m : Nat) (part : Nat → Int32) (x2 x3 : Int32), pj (f_X6_bridges_b13 cells passes pf pt n b1 x2 x3) (f_X7_bridges_b10 live mc mp mo mh m part b1 x2 x3) (fun a b => a = b.1) := by
    intro n
    induction n with
    | zero => intro m part x2 x3; exact pj_nl
    | succ n ih =>
      intro m part x2 x3
      cases m with
      | zero => exact pj_nr
      | succ m =>
        show pj (f_X6_bridges_b13_st (f_X6_bridges_b13 cells passes pf pt n) cells passes pf pt b1 x2 x3) (f_X7_bridges_b10_st (f_X7_bridges_b10 live mc mp mo mh m) live mc mp mo mh part b1 x2 x3) _
        unfold f_X6_bridges_b13_st f_X7_bridges_b10_st
        rw [hmp]
        refine pj_ckr (fun _ => pj_ifl (fun c => pj_ifr (fun _ => pj_ss rfl) (fun z => absurd c z)) (fun c => pj_ifr (fun z => absurd z c) (fun _ => pj_bb (j_bodies hl hmc hc hmp hp he af at_) (fun a b h => ?_))))
        obtain ⟨d1, d2⟩ := b
        have h : a = d1 := h
        subst h
        exact pj_ifl (fun q => pj_ifr (fun _ => ih m _ _ _) (fun z => absurd q z)) (fun q => pj_ifr (fun z => absurd z q) (fun _ => ih m _ _ _))
  exact go fuel fuel b2 0 0
