/-! a LAW on both sides: the descent and the row of signs that wait -/
abbrev PX (nm_ : Int32) (kd pl vl : Nat → Int32) (tn no : Nat → Int64) (na : Nat → Int32) (n m : Nat) (t op g gp w wp codes waiting : Int32) (code ci waits : Nat → Int32) : Option (Int32 × Int32 × Int32 × Int32 × Int32 × Int32 × Int32 × Int32 × (Nat → Int32) × (Nat → Int32) × (Nat → Int32)) := f_X7_expression_b23 (f_X7_expression_b12 nm_ kd pl vl tn no na n) nm_ kd pl vl tn no na m t op g gp w wp codes waiting code ci waits 0
abbrev QX (nm_ : Int32) (kd pl vl : Nat → Int32) (tn no : Nat → Int64) (na : Nat → Int32) (n m : Nat) (t op g gp w wp codes waiting : Int32) (code ci waits : Nat → Int32) : Option (Int32 × Int32 × Int32 × Int32 × Int32 × Int32 × Int32 × Int32 × (Nat → Int32) × (Nat → Int32) × (Nat → Int32)) := f_X7_expression_b96 (f_X7_expression_b12 nm_ kd pl vl tn no na n) nm_ kd pl vl tn no na m t op g gp w wp codes waiting code ci waits 0
/-- the class has read a piece of a LAW at depth D; the reference stands behind a unit, at the same token -/
def UU (K S : Nat → Int32) (nm_ : Int32) (kd pl vl : Nat → Int32) (tn no : Nat → Int64) (na : Nat → Int32) (D : Int) (n0 : Int32) (nx : Int32 → Prop) (a : Int32 × Int32 × Int32 × Int32 × Int32 × Int32 × Int32 × (Nat → Int32)) (b : Int32 × Int32 × Int32 × Int32 × Int32 × Int32 × Int32 × Int32 × (Nat → Int32) × (Nat → Int32) × (Nat → Int32)) : Prop :=
  (∃ (n m : Nat) (t op g gp w wp codes waiting : Int32) (code ci waits : Nat → Int32), PA K pl a.1 a.2.2.1 a.2.2.2.1 a.2.2.2.2.2.1 t g w wp ∧ op.toInt = D ∧ n0.toInt < a.1.toInt ∧ nx (K t.toNatClampNeg) ∧ QX nm_ kd pl vl tn no na n m t op g gp w wp codes waiting code ci waits = some b) ∨ PB K S a.1 a.2.2.1 a.2.2.2.1 a.2.2.2.2.1 b.2.2.1
-- the class, a FAULT known
theorem b_unit {K S kd pl vl : Nat → Int32} {V tn : Nat → Int64} (tk : TKR K S V kd pl vl tn) {cn : Nat → Int64} {ce own : Int32} {R : Int32 → (Nat → Int32) → (Nat → Int32) → (Nat → Int64) → (Nat → Int64) → Int32 → Int32 → Int32 → Int32 → Int32 → Int32 → Int32 → Int32 → (Nat → Int32) → Int32 → Option (Int32 × Int32 × Int32 × Int32 × Int32 × Int32 × Int32 × (Nat → Int32))} (hR : ∀ (n s f fp g cl lf lp q1 : Int32) (code : Nat → Int32), PB K S n s f fp g → pa (R own K S V cn ce n cl s f fp lf lp code q1) (fun a => PB K S a.1 a.2.2.1 a.2.2.2.1 a.2.2.2.2.1 g)) {n s f fp g cl lf lp q1 : Int32} {code : Nat → Int32} (h : PB K S n s f fp g) : pa (f_X5_readUnit R own K S V cn ce n cl s f fp lf lp code q1) (fun a => PB K S a.1 a.2.2.1 a.2.2.2.1 a.2.2.2.2.1 g) := by
  have stp : ∀ q, s = 0 → pa (f_X5_stop s f fp q (S n.toNatClampNeg)) (fun o => o = (1, f, fp)) := by
    intro q c
    obtain ⟨rfl, h1, h2⟩ := h
    have h3 := h2 c
    have en : (n.toNatClampNeg : Int) = n.toInt := cl_k (by omega)
    have so := tk.2.1 n.toNatClampNeg (by omega) h3.2.2.2.1 400 (by omega)
    exact b_stop (ne_0 h1) (by omega)
  have st1 : PB K S n 1 f fp g := ⟨h.1, h.2.1, fun z => absurd z (by decide)⟩
  unfold f_X5_readUnit
  refine pa_if (fun c => pa_ck (fun _ => ?_)) (fun _ => pa_some h)
  have acc : ∀ (x : Int32), K n.toNatClampNeg = x → ¬ x.toInt = 3 ∧ ¬ x.toInt = 4 → pa (f_X5_accept K S n s f fp (K n.toNatClampNeg)) (fun o => PB K S o.2.1 o.2.2.1 o.2.2.2.1 o.2.2.2.2 g ∧ (¬ o.1 = 0 → o.2.2.1 = 0)) := fun x e hx => b_accept tk h (by rw [e]; exact hx)
  refine pa_if (fun _ => pa_bd7 (b_number tk _ _ _ _ h) (fun _ _ _ _ _ _ _ k => pa_bd2 (pa_T _) (fun _ _ _ => pa_some k))) (fun _ => ?_)
  refine pa_if (fun e => pa_bd5 (acc 10 e (by decide)) (fun _ _ _ _ _ k => pa_bd7 (b_knownCell tk _ _ _ _ k.1) (fun _ _ _ _ _ _ _ k2 => pa_bd2 (pa_T _) (fun _ _ _ => pa_some k2.1)))) (fun _ => ?_)
  refine pa_if (fun e => pa_bd5 (acc 11 e (by decide)) (fun _ _ _ _ _ k => pa_bd2 (pa_T _) (fun _ _ _ => pa_some k.1))) (fun _ => ?_)
  refine pa_if (fun e => pa_bd5 (acc 12 e (by decide)) (fun _ _ _ _ _ k => pa_bd2 (pa_T _) (fun _ _ _ => pa_some k.1))) (fun _ => ?_)
  refine pa_if (fun e => pa_bd5 (acc 13 e (by decide)) (fun _ _ _ _ _ k => pa_bd2 (pa_T _) (fun _ _ _ => pa_some k.1))) (fun _ => ?_)
  refine pa_if (fun e => pa_bd5 (acc 14 e (by decide)) (fun _ _ _ _ _ k => pa_bd2 (pa_T _) (fun _ _ _ => pa_some k.1))) (fun _ => ?_)
  refine pa_if (fun e => pa_bd5 (acc 15 e (by decide)) (fun _ _ _ _ _ k => pa_bd2 (pa_T _) (fun _ _ _ => pa_some k.1))) (fun _ => ?_)
  refine pa_if (fun _ => ?_) (fun _ => pa_ck (fun _ => pa_bd3 (stp 1 c) (fun a0 a1 a2 hp => ?_)))
  · refine pa_bd8 (P := fun a => PB K S a.1 a.2.2.1 a.2.2.2.1 a.2.2.2.2.1 g) ?_ (fun _ _ _ _ _ _ _ _ k => pa_some k)
    unfold f_X5_readNested
    refine pa_if (fun _ => pa_bd5 (b_accept tk h (by decide)) (fun _ _ _ _ _ k => pa_bd8 (hR _ _ _ _ _ _ _ _ _ _ k.1) (fun _ _ _ _ _ _ _ _ k2 => pa_bd5 (b_accept tk k2 (by decide)) (fun _ _ _ _ _ k3 => pa_some k3.1)))) (fun _ => pa_ck (fun _ => pa_bd3 (stp 2 c) (fun a0 a1 a2 hp => ?_)))
    cases hp
    exact pa_some st1
  · cases hp
    exact pa_some st1
theorem b_prod7 {K S kd pl vl : Nat → Int32} {V tn : Nat → Int64} (tk : TKR K S V kd pl vl tn) {cn : Nat → Int64} {ce own : Int32} {R : Int32 → (Nat → Int32) → (Nat → Int32) → (Nat → Int64) → (Nat → Int64) → Int32 → Int32 → Int32 → Int32 → Int32 → Int32 → Int32 → Int32 → (Nat → Int32) → Int32 → Option (Int32 × Int32 × Int32 × Int32 × Int32 × Int32 × Int32 × (Nat → Int32))} (hR : ∀ (n s f fp g cl lf lp q1 : Int32) (code : Nat → Int32), PB K S n s f fp g → pa (R own K S V cn ce n cl s f fp lf lp code q1) (fun a => PB K S a.1 a.2.2.1 a.2.2.2.1 a.2.2.2.2.1 g)) {g : Int32} : ∀ (k : Nat) (n s f fp cl lf lp x1 x2 : Int32) (code : Nat → Int32), PB K S n s f fp g → pa (f_X5_readProduct_b7 R own K S V cn ce k n cl s f fp lf lp code x1 x2) (fun a => PB K S a.1 a.2.2.1 a.2.2.2.1 a.2.2.2.2.1 g) := by
  intro k
  induction k with
  | zero => intro n s f fp cl lf lp x1 x2 code _; exact pa_none
  | succ k ih =>
    intro n s f fp cl lf lp x1 x2 code h
    show pa (f_X5_readProduct_b7_st (f_X5_readProduct_b7 R own K S V cn ce k) R own K S V cn ce n cl s f fp lf lp code x1 x2) _
    unfold f_X5_readProduct_b7_st
    have go : ∀ t0, ¬ (K n.toNatClampNeg).toInt = 3 ∧ ¬ (K n.toNatClampNeg).toInt = 4 → pa (f_X5_readProduct_b70 R (f_X5_readProduct_b7 R own K S V cn ce k) own K S V cn ce n cl s f fp lf lp code x1 x2 t0) (fun a => PB K S a.1 a.2.2.1 a.2.2.2.1 a.2.2.2.2.1 g) := by
      intro t0 hk
      unfold f_X5_readProduct_b70
      exact pa_ck (fun _ => pa_bd5 (b_accept tk h hk) (fun _ _ _ _ _ k1 => pa_bd8 (b_unit tk hR k1.1) (fun _ _ _ _ _ _ _ _ k2 => pa_bd2 (pa_T _) (fun _ _ _ => ih _ _ _ _ _ _ _ _ _ _ k2))))
    have go2 : ¬ (K n.toNatClampNeg).toInt = 3 ∧ ¬ (K n.toNatClampNeg).toInt = 4 → pa (f_X5_readProduct_b49 R (f_X5_readProduct_b7 R own K S V cn ce k) own K S V cn ce n cl s f fp lf lp code x1 x2) (fun a => PB K S a.1 a.2.2.1 a.2.2.2.1 a.2.2.2.2.1 g) := by
      intro hk
      unfold f_X5_readProduct_b49
      exact pa_ck (fun _ => pa_if (fun _ => go _ hk) (fun _ => go _ hk))
    exact pa_if (fun _ => pa_some h) (fun _ => pa_if (fun _ => pa_ck (fun _ => pa_if (fun e => go2 (by rw [e]; decide)) (fun _ => pa_ck (fun _ => pa_if (fun e => go2 (by rw [e]; decide)) (fun _ => pa_some h))))) (fun _ => pa_some h))
theorem b_prod {K S kd pl vl : Nat → Int32} {V tn : Nat → Int64} (tk : TKR K S V kd pl vl tn) {cn : Nat → Int64} {ce own : Int32} {R : Int32 → (Nat → Int32) → (Nat → Int32) → (Nat → Int64) → (Nat → Int64) → Int32 → Int32 → Int32 → Int32 → Int32 → Int32 → Int32 → Int32 → (Nat → Int32) → Int32 → Option (Int32 × Int32 × Int32 × Int32 × Int32 × Int32 × Int32 × (Nat → Int32))} (hR : ∀ (n s f fp g cl lf lp q1 : Int32) (code : Nat → Int32), PB K S n s f fp g → pa (R own K S V cn ce n cl s f fp lf lp code q1) (fun a => PB K S a.1 a.2.2.1 a.2.2.2.1 a.2.2.2.2.1 g)) {n s f fp g cl lf lp q1 : Int32} {code : Nat → Int32} (h : PB K S n s f fp g) : pa (f_X5_readProduct R own K S V cn ce n cl s f fp lf lp code q1) (fun a => PB K S a.1 a.2.2.1 a.2.2.2.1 a.2.2.2.2.1 g) := by
  unfold f_X5_readProduct
  exact pa_bd8 (b_unit tk hR h) (fun _ _ _ _ _ _ _ _ k1 => b_prod7 tk hR fuel _ _ _ _ _ _ _ _ _ _ k1)
theorem b_sum7 {K S kd pl vl : Nat → Int32} {V tn : Nat → Int64} (tk : TKR K S V kd pl vl tn) {cn : Nat → Int64} {ce own : Int32} {R : Int32 → (Nat → Int32) → (Nat → Int32) → (Nat → Int64) → (Nat → Int64) → Int32 → Int32 → Int32 → Int32 → Int32 → Int32 → Int32 → Int32 → (Nat → Int32) → Int32 → Option (Int32 × Int32 × Int32 × Int32 × Int32 × Int32 × Int32 × (Nat → Int32))} (hR : ∀ (n s f fp g cl lf lp q1 : Int32) (code : Nat → Int32), PB K S n s f fp g → pa (R own K S V cn ce n cl s f fp lf lp code q1) (fun a => PB K S a.1 a.2.2.1 a.2.2.2.1 a.2.2.2.2.1 g)) {g : Int32} : ∀ (k : Nat) (n s f fp cl lf lp x1 x2 : Int32) (code : Nat → Int32), PB K S n s f fp g → pa (f_X5_readSum_b7 R own K S V cn ce k n cl s f fp lf lp code x1 x2) (fun a => PB K S a.1 a.2.2.1 a.2.2.2.1 a.2.2.2.2.1 g) := by
  intro k
  induction k with
  | zero => intro n s f fp cl lf lp x1 x2 code _; exact pa_none
  | succ k ih =>
    intro n s f fp cl lf lp x1 x2 code h
    show pa (f_X5_readSum_b7_st (f_X5_readSum_b7 R own K S V cn ce k) R own K S V cn ce n cl s f fp lf lp code x1 x2) _
    unfold f_X5_readSum_b7_st
    have go : ∀ t0, ¬ (K n.toNatClampNeg).toInt = 3 ∧ ¬ (K n.toNatClampNeg).toInt = 4 → pa (f_X5_readSum_b69 R (f_X5_readSum_b7 R own K S V cn ce k) own K S V cn ce n cl s f fp lf lp code x1 x2 t0) (fun a => PB K S a.1 a.2.2.1 a.2.2.2.1 a.2.2.2.2.1 g) := by
      intro t0 hk
      unfold f_X5_readSum_b69
      exact pa_ck (fun _ => pa_bd5 (b_accept tk h hk) (fun _ _ _ _ _ k1 => pa_bd8 (b_prod tk hR k1.1) (fun _ _ _ _ _ _ _ _ k2 => pa_bd2 (pa_T _) (fun _ _ _ => ih _ _ _ _ _ _ _ _ _ _ k2))))
    have go2 : ¬ (K n.toNatClampNeg).toInt = 3 ∧ ¬ (K n.toNatClampNeg).toInt = 4 → pa (f_X5_readSum_b49 R (f_X5_readSum_b7 R own K S V cn ce k) own K S V cn ce n cl s f fp lf lp code x1 x2) (fun a => PB K S a.1 a.2.2.1 a.2.2.2.1 a.2.2.2.2.1 g) := by
      intro hk
      unfold f_X5_readSum_b49
      exact pa_ck (fun _ => pa_if (fun _ => go _ hk) (fun _ => go _ hk))
    exact pa_if (fun _ => pa_some h) (fun _ => pa_if (fun _ => pa_ck (fun _ => pa_if (fun e => go2 (by rw [e]; decide)) (fun _ => pa_ck (fun _ => pa_if (fun e => go2 (by rw [e]; decide)) (fun _ => pa_some h))))) (fun _ => pa_some h))
theorem b_sum {K S kd pl vl : Nat → Int32} {V tn : Nat → Int64} (tk : TKR K S V kd pl vl tn) {cn : Nat → Int64} {ce own : Int32} {R : Int32 → (Nat → Int32) → (Nat → Int32) → (Nat → Int64) → (Nat → Int64) → Int32 → Int32 → Int32 → Int32 → Int32 → Int32 → Int32 → Int32 → (Nat → Int32) → Int32 → Option (Int32 × Int32 × Int32 × Int32 × Int32 × Int32 × Int32 × (Nat → Int32))} (hR : ∀ (n s f fp g cl lf lp q1 : Int32) (code : Nat → Int32), PB K S n s f fp g → pa (R own K S V cn ce n cl s f fp lf lp code q1) (fun a => PB K S a.1 a.2.2.1 a.2.2.2.1 a.2.2.2.2.1 g)) {n s f fp g cl lf lp q1 : Int32} {code : Nat → Int32} (h : PB K S n s f fp g) : pa (f_X5_readSum R own K S V cn ce n cl s f fp lf lp code q1) (fun a => PB K S a.1 a.2.2.1 a.2.2.2.1 a.2.2.2.2.1 g) := by
  unfold f_X5_readSum
  exact pa_bd8 (b_prod tk hR h) (fun _ _ _ _ _ _ _ _ k1 => b_sum7 tk hR fuel _ _ _ _ _ _ _ _ _ _ k1)
theorem b_fLr {K S kd pl vl : Nat → Int32} {V tn : Nat → Int64} (tk : TKR K S V kd pl vl tn) {cn : Nat → Int64} {ce own : Int32} : ∀ (d : Nat) (n s f fp g cl lf lp q1 : Int32) (code : Nat → Int32), PB K S n s f fp g → pa (fLr d own K S V cn ce n cl s f fp lf lp code q1) (fun a => PB K S a.1 a.2.2.1 a.2.2.2.1 a.2.2.2.2.1 g) := by
  intro d
  induction d with
  | zero => intro n s f fp g cl lf lp q1 code _; exact pa_none
  | succ d ih =>
    intro n s f fp g cl lf lp q1 code h
    show pa (f_X5_readSum (fLr d) own K S V cn ce n cl s f fp lf lp code q1) _
    exact b_sum tk ih h
-- the reference, a FAULT known
theorem r_12 {nm_ t op g gp w wp codes waiting x1 x2 c : Int32} {kd pl vl na code ci waits : Nat → Int32} {tn no : Nat → Int64} (h : FB g c) : ∀ n, pa (f_X7_expression_b12 nm_ kd pl vl tn no na n t op g gp w wp codes waiting code ci waits x1 x2) (fun b => FB b.2.2.1 c) := by
  intro n
  cases n with
  | zero => exact pa_none
  | succ n =>
    show pa (f_X7_expression_b12_st (f_X7_expression_b12 nm_ kd pl vl tn no na n) nm_ kd pl vl tn no na t op g gp w wp codes waiting code ci waits x1 x2) _
    unfold f_X7_expression_b12_st
    exact pa_if (fun _ => pa_some h) (fun _ => pa_if (fun z => absurd z (FB_eq h)) (fun _ => pa_some h))
theorem r_unit {nm_ t g gp w wp codes c : Int32} {kd pl vl na code ci : Nat → Int32} {tn no : Nat → Int64} (h : FB g c) : pa (f_X7_unit nm_ kd pl vl tn no na t g gp w wp codes code ci) (fun o => FB o.2.1 c) := by
  unfold f_X7_unit
  refine pa_bd (r_is h) (fun o ho => pa_if (fun _ => pa_if (fun z => absurd z (FB_eq h)) (fun _ => ?_)) (fun z => absurd ho z))
  unfold f_X7_unit_b88
  exact pa_bd (r_is h) (fun o ho => pa_if (fun _ => pa_bd2 (r_fail h) (fun _ _ k => pa_some k)) (fun z => absurd ho z))
theorem r_23 {k12 : Int32 → Int32 → Int32 → Int32 → Int32 → Int32 → Int32 → Int32 → (Nat → Int32) → (Nat → Int32) → (Nat → Int32) → Int32 → Int32 → Option (Int32 × Int32 × Int32 × Int32 × Int32 × Int32 × Int32 × Int32 × (Nat → Int32) × (Nat → Int32) × (Nat → Int32))} {nm_ t op g gp w wp codes waiting x1 c : Int32} {kd pl vl na code ci waits : Nat → Int32} {tn no : Nat → Int64} (h : FB g c) : ∀ n, pa (f_X7_expression_b23 k12 nm_ kd pl vl tn no na n t op g gp w wp codes waiting code ci waits x1) (fun b => FB b.2.2.1 c) := by
  intro n
  cases n with
  | zero => exact pa_none
  | succ n =>
    show pa (f_X7_expression_b23_st (f_X7_expression_b23 k12 nm_ kd pl vl tn no na n) k12 nm_ kd pl vl tn no na t op g gp w wp codes waiting code ci waits x1) _
    unfold f_X7_expression_b23_st
    exact pa_bd (r_is h) (fun o ho => pa_if (fun _ => pa_bd8 (r_unit h) (fun _ _ _ _ _ _ _ _ k => pa_if (fun z => absurd z (FB_le k)) (fun _ => pa_some k))) (fun z => absurd ho z))
theorem r_186 {k12 : Int32 → Int32 → Int32 → Int32 → Int32 → Int32 → Int32 → Int32 → (Nat → Int32) → (Nat → Int32) → (Nat → Int32) → Int32 → Int32 → Option (Int32 × Int32 × Int32 × Int32 × Int32 × Int32 × Int32 × Int32 × (Nat → Int32) × (Nat → Int32) × (Nat → Int32))} {nm_ t op g gp w wp codes waiting x1 c : Int32} {kd pl vl na code ci waits : Nat → Int32} {tn no : Nat → Int64} (h : FB g c) : pa (f_X7_expression_b186 k12 nm_ kd pl vl tn no na t op g gp w wp codes waiting code ci waits x1 0) (fun b => FB b.2.2.1 c) := by
  unfold f_X7_expression_b186 f_X7_expression_b204
  exact pa_if (fun _ => pa_if (fun _ => pa_bd4 (pa_T _) (fun _ _ _ _ _ => pa_some h)) (fun _ => pa_bd2 (r_fail h) (fun _ _ k => pa_bd4 (pa_T _) (fun _ _ _ _ _ => pa_some k)))) (fun z => absurd rfl z)
theorem r_96 {k12 : Int32 → Int32 → Int32 → Int32 → Int32 → Int32 → Int32 → Int32 → (Nat → Int32) → (Nat → Int32) → (Nat → Int32) → Int32 → Int32 → Option (Int32 × Int32 × Int32 × Int32 × Int32 × Int32 × Int32 × Int32 × (Nat → Int32) × (Nat → Int32) × (Nat → Int32))} {nm_ t op g gp w wp codes waiting x1 c : Int32} {kd pl vl na code ci waits : Nat → Int32} {tn no : Nat → Int64} (h : FB g c) : ∀ n, pa (f_X7_expression_b96 k12 nm_ kd pl vl tn no na n t op g gp w wp codes waiting code ci waits x1) (fun b => FB b.2.2.1 c) := by
  intro n
  cases n with
  | zero => exact pa_none
  | succ n =>
    show pa (f_X7_expression_b96_st (f_X7_expression_b96 k12 nm_ kd pl vl tn no na n) k12 nm_ kd pl vl tn no na t op g gp w wp codes waiting code ci waits x1) _
    unfold f_X7_expression_b96_st
    refine pa_bd (r_is h) (fun o ho => pa_if (fun _ => ?_) (fun z => absurd ho z))
    unfold f_X7_expression_b145
    exact pa_bd (r_is h) (fun o ho => pa_if (fun _ => pa_bd (r_is h) (fun o ho => pa_if (fun _ => pa_bd (r_is h) (fun o ho => pa_if (fun _ => pa_bd (r_is h) (fun o ho => pa_if (fun _ => r_186 h) (fun z => absurd ho z))) (fun z => absurd ho z))) (fun z => absurd ho z))) (fun z => absurd ho z))
