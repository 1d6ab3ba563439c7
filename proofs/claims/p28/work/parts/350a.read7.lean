/-! the reference's reader: tokens, places, faults -/
theorem z_eq {x v : Int32} {k : Int} (hv : v.toInt = k) (h : x = v) : x.toInt = k := by rw [h, hv]
theorem z_ne {x v : Int32} {k : Int} (hv : v.toInt = k) (h : ¬ x = v) : ¬ x.toInt = k := fun q => h (Int32.toInt_inj.mp (by rw [q, hv]))
theorem z_of {x v : Int32} {k : Int} (hv : v.toInt = k) (h : x.toInt = k) : x = v := Int32.toInt_inj.mp (by rw [h, hv])
theorem le_k {x v : Int32} {k : Int} (hv : v.toInt = k) (h : x ≤ v) : x.toInt ≤ k := by have := ti_le h; omega
theorem k_le {x v : Int32} {k : Int} (hv : v.toInt = k) (h : v ≤ x) : k ≤ x.toInt := by have := ti_le h; omega
theorem lt_k {x v : Int32} {k : Int} (hv : v.toInt = k) (h : x < v) : x.toInt < k := by have := ti_lt h; omega
theorem k_lt {x v : Int32} {k : Int} (hv : v.toInt = k) (h : v < x) : k < x.toInt := by have := ti_lt h; omega
theorem nle_k {x v : Int32} {k : Int} (hv : v.toInt = k) (h : ¬ x ≤ v) : k < x.toInt := by have := ti_nle h; omega
theorem k_nle {x v : Int32} {k : Int} (hv : v.toInt = k) (h : ¬ v ≤ x) : x.toInt < k := by have := ti_nle h; omega
theorem nlt_k {x v : Int32} {k : Int} (hv : v.toInt = k) (h : ¬ x < v) : k ≤ x.toInt := by have := ti_nlt h; omega
theorem k_nlt {x v : Int32} {k : Int} (hv : v.toInt = k) (h : ¬ v < x) : x.toInt ≤ k := by have := ti_nlt h; omega
theorem add_k {x v : Int32} {k : Int} (hv : v.toInt = k) (h1 : -2147483648 ≤ x.toInt + k) (h2 : x.toInt + k ≤ 2147483647) : (x + v).toInt = x.toInt + k := by
  rw [Jvm.Kit.i32_add (by omega) (by omega), hv]
theorem sub_k {x v : Int32} {k : Int} (hv : v.toInt = k) (h1 : -2147483648 ≤ x.toInt - k) (h2 : x.toInt - k ≤ 2147483647) : (x - v).toInt = x.toInt - k := by
  rw [Jvm.Kit.i32_sub (by omega) (by omega), hv]
theorem inb_k {x : Int32} {n : Nat} (h0 : 0 ≤ x.toInt) (h1 : x.toInt < n) : inb x n = true := inb_rg (a := 0) (b := x.toInt) ⟨h0, Int.le_refl _⟩ (by decide) h1
theorem cl_k {x : Int32} (h0 : 0 ≤ x.toInt) : (x.toNatClampNeg : Int) = x.toInt := cl_e (a := 0) (b := x.toInt) ⟨h0, Int.le_refl _⟩ (by decide)
def Adv (k : Int) (t f t' f' : Int32) : Prop := (0 ≤ t'.toInt ∧ t'.toInt ≤ 400) ∧ (0 ≤ f'.toInt ∧ f'.toInt ≤ 9) ∧ t.toInt ≤ t'.toInt ∧ (f'.toInt = 0 → f.toInt = 0 ∧ t.toInt + k ≤ t'.toInt)
def T4 (t f : Int32) : Prop := (0 ≤ t.toInt ∧ t.toInt ≤ 400) ∧ (0 ≤ f.toInt ∧ f.toInt ≤ 9)
def W9 (w w' : Int32) : Prop := (0 ≤ w'.toInt ∧ w'.toInt ≤ 9) ∧ (w'.toInt = 0 → w.toInt = 0)
theorem Adv.t4 {k : Int} {t f t' f' : Int32} (h : Adv k t f t' f') : T4 t' f' := ⟨h.1, h.2.1⟩
theorem Adv.tr {k l m : Int} {t f t1 f1 t2 f2 : Int32} (h : Adv k t f t1 f1) (g : Adv l t1 f1 t2 f2) (hm : m = k + l) : Adv m t f t2 f2 := by
  unfold Adv at *
  omega
theorem Adv.rf {t f : Int32} (h : T4 t f) : Adv 0 t f t f := by
  unfold Adv T4 at *
  omega
theorem Adv.w {k l : Int} {t f t' f' : Int32} (h : Adv k t f t' f') (hl : l ≤ k) : Adv l t f t' f' := by
  unfold Adv at *
  omega
theorem W9.tr {w x y : Int32} (h : W9 w x) (g : W9 x y) : W9 w y := by
  unfold W9 at *
  omega
theorem s_X7_is (t f : Int32) (kind : Nat → Int32) (q : Int32) (h : T4 t f) : ok (f_X7_is t f kind q) (fun o => (0 ≤ o.toInt ∧ o.toInt ≤ 1) ∧ (o.toInt = 0 → ¬ f.toInt = 0 ∨ ¬ kind t.toNatClampNeg = q) ∧ (¬ o.toInt = 0 → f.toInt = 0 ∧ kind t.toNatClampNeg = q)) := by
  unfold f_X7_is
  have e0 : (0 : Int32).toInt = 0 := rfl
  have e1 : (1 : Int32).toInt = 1 := rfl
  have h1 := h.1
  refine ok_if (fun c => ?_) (fun c => ok_some ?_)
  · have c2 := z_eq (k := 0) rfl c
    refine ok_ck (inb_k h1.1 (by omega)) (ok_if (fun d => ok_some ?_) (fun d => ok_some ?_))
    · rw [e1]
      exact ⟨by omega, fun q => by omega, fun _ => ⟨c2, d⟩⟩
    · rw [e0]
      exact ⟨by omega, fun _ => Or.inr d, fun q => absurd rfl q⟩
  · have c2 := z_ne (k := 0) rfl c
    rw [e0]
    exact ⟨by omega, fun _ => Or.inl c2, fun q => absurd rfl q⟩
theorem s_X7_fail (t : Int32) (pl : Nat → Int32) (f fp q : Int32) (h : T4 t f) (hq : 1 ≤ q.toInt ∧ q.toInt ≤ 9) : ok (f_X7_fail t pl f fp q) (fun o => 1 ≤ o.1.toInt ∧ o.1.toInt ≤ 9) := by
  unfold f_X7_fail
  have h1 := h.1
  have h2 := h.2
  refine ok_if (fun c => ok_ck (inb_k h1.1 (by omega)) (ok_some hq)) (fun c => ok_some ?_)
  have c2 := nle_k (k := 0) rfl c
  exact ⟨by show 1 ≤ f.toInt; omega, h2.2⟩
theorem s_X7_failAt (pl : Nat → Int32) (f fp q q2 : Int32) (h : 0 ≤ f.toInt ∧ f.toInt ≤ 9) (hq : 1 ≤ q.toInt ∧ q.toInt ≤ 9) (h2 : 0 ≤ q2.toInt ∧ q2.toInt ≤ 400) : ok (f_X7_failAt pl f fp q q2) (fun o => 1 ≤ o.1.toInt ∧ o.1.toInt ≤ 9) := by
  unfold f_X7_failAt
  refine ok_if (fun c => ok_ck (inb_k h2.1 (by omega)) (ok_some hq)) (fun c => ok_some ?_)
  have c2 := nle_k (k := 0) rfl c
  exact ⟨by show 1 ≤ f.toInt; omega, h.2⟩
theorem s_X7_wrong (f : Int32) (pl : Nat → Int32) (w wp q q2 : Int32) (hf : 0 ≤ f.toInt ∧ f.toInt ≤ 9) (hw : 0 ≤ w.toInt ∧ w.toInt ≤ 9) (hq : 1 ≤ q.toInt ∧ q.toInt ≤ 9) (h2 : 0 ≤ q2.toInt ∧ q2.toInt ≤ 400) : ok (f_X7_wrong f pl w wp q q2) (fun o => W9 w o.1 ∧ (f.toInt = 0 → ¬ o.1.toInt = 0)) := by
  unfold f_X7_wrong f_X7_wrong_b46
  have a : (fun o : Int32 × Int32 => W9 w o.1 ∧ (f.toInt = 0 → ¬ o.1.toInt = 0)) (q, pl q2.toNatClampNeg) := ⟨⟨⟨by show 0 ≤ q.toInt; omega, hq.2⟩, fun z => by change q.toInt = 0 at z; omega⟩, fun _ z => by change q.toInt = 0 at z; omega⟩
  refine ok_ck (inb_k h2.1 (by omega)) (ok_if (fun c => ok_some ?_) (fun c => ok_if (fun d => ok_some a) (fun d => ?_)))
  · have c2 := k_lt (k := 0) rfl c
    exact ⟨⟨hw, fun z => z⟩, fun z => by omega⟩
  · have d2 := z_ne (k := 0) rfl d
    have b : (fun o : Int32 × Int32 => W9 w o.1 ∧ (f.toInt = 0 → ¬ o.1.toInt = 0)) (w, wp) := ⟨⟨hw, fun z => z⟩, fun _ => d2⟩
    exact ok_if (fun _ => ok_some b) (fun _ => ok_if (fun _ => ok_if (fun _ => ok_some a) (fun _ => ok_some b)) (fun _ => ok_some a))
theorem s_X7_goesOn (pl : Nat → Int32) (t f fp : Int32) (h : T4 t f) : ok (f_X7_goesOn pl t f fp) (fun o => Adv 1 t f o.1 o.2.1 ∧ o.1.toInt ≤ t.toInt + 1) := by
  unfold f_X7_goesOn
  have h1 := h.1
  have h2 := h.2
  refine ok_if (fun c => ?_) (fun c => ok_some ?_)
  · refine ok_bd2 (s_X7_fail t pl f fp 2 h (by decide)) (fun a b hp => ok_some ?_)
    unfold Adv
    change 1 ≤ a.toInt ∧ a.toInt ≤ 9 at hp
    show (((0 ≤ t.toInt ∧ t.toInt ≤ 400) ∧ (0 ≤ a.toInt ∧ a.toInt ≤ 9) ∧ t.toInt ≤ t.toInt ∧ (a.toInt = 0 → f.toInt = 0 ∧ t.toInt + 1 ≤ t.toInt)) ∧ t.toInt ≤ t.toInt + 1)
    omega
  · have c2 := z_ne (k := 400) rfl c
    have t1 := add_k (x := t) (v := 1) (k := 1) rfl (by omega) (by omega)
    unfold Adv
    show (((0 ≤ (t + 1).toInt ∧ (t + 1).toInt ≤ 400) ∧ (0 ≤ f.toInt ∧ f.toInt ≤ 9) ∧ t.toInt ≤ (t + 1).toInt ∧ (f.toInt = 0 → f.toInt = 0 ∧ t.toInt + 1 ≤ (t + 1).toInt)) ∧ (t + 1).toInt ≤ t.toInt + 1)
    omega
theorem Adv_f {k : Int} {t f f' : Int32} (h : T4 t f) (hp : 1 ≤ f'.toInt ∧ f'.toInt ≤ 9) : Adv k t f t f' := by
  unfold Adv T4 at *
  omega
theorem s_X7_must (kind pl : Nat → Int32) (t f fp q : Int32) (h : T4 t f) : ok (f_X7_must kind pl t f fp q) (fun o => Adv 1 t f o.1 o.2.1) := by
  unfold f_X7_must
  refine ok_bd (s_X7_is t f kind q h) (fun o _ => ok_if (fun c => ?_) (fun c => ?_))
  · exact ok_bd2 (s_X7_fail t pl f fp 1 h (by decide)) (fun a b hp => ok_some (Adv_f h hp))
  · exact ok_bd3 (s_X7_goesOn pl t f fp h) (fun a b d hp => ok_some hp.1)
theorem s_X7_roomFor (pl : Nat → Int32) (t f fp q1 q2 : Int32) (h : T4 t f) : ok (f_X7_roomFor pl t f fp q1 q2) (fun o => Adv 1 t f o.1 o.2.1 ∧ (o.2.1.toInt = 0 → ¬ q1 = q2)) := by
  unfold f_X7_roomFor f_X7_roomFor_b10
  refine ok_if (fun c => ?_) (fun c => ?_)
  · refine ok_bd2 (s_X7_fail t pl f fp 2 h (by decide)) (fun a b hp => ok_if (fun d => ?_) (fun d => ok_some ?_))
    · have d2 := z_eq (k := 0) rfl d
      change 1 ≤ a.toInt ∧ a.toInt ≤ 9 at hp
      omega
    · exact ⟨Adv_f h hp, fun z => by change a.toInt = 0 at z; change 1 ≤ a.toInt ∧ a.toInt ≤ 9 at hp; omega⟩
  · refine ok_if (fun d => ?_) (fun d => ok_some ?_)
    · exact ok_bd3 (s_X7_goesOn pl t f fp h) (fun a b e hp => ok_some ⟨hp.1, fun _ => c⟩)
    · have d2 := z_ne (k := 0) rfl d
      have h2 := h.2
      exact ⟨Adv_f h (show 1 ≤ f.toInt ∧ f.toInt ≤ 9 by omega), fun _ => c⟩
theorem s_X7_bounded (kind pl val : Nat → Int32) (t f fp w wp q1 q2 : Int32) (h : T4 t f) (hw : 0 ≤ w.toInt ∧ w.toInt ≤ 9) : ok (f_X7_bounded kind pl val t f fp w wp q1 q2) (fun o => Adv 1 t f o.2.1 o.2.2.1 ∧ W9 w o.2.2.2.2.1 ∧ (o.2.2.1.toInt = 0 → o.2.2.2.2.1.toInt = 0 → rg o.1 q1.toInt q2.toInt)) := by
  have b15 : ok (f_X7_bounded_b15 pl t f fp w wp q1) (fun o => Adv 1 t f o.2.1 o.2.2.1 ∧ W9 w o.2.2.2.2.1 ∧ (o.2.2.1.toInt = 0 → o.2.2.2.2.1.toInt = 0 → rg o.1 q1.toInt q2.toInt)) := by
    unfold f_X7_bounded_b15
    refine ok_bd2 (s_X7_fail t pl f fp 1 h (by decide)) (fun a b hp => ok_some ⟨Adv_f h hp, ⟨hw, fun z => z⟩, fun z => ?_⟩)
    change a.toInt = 0 at z
    change 1 ≤ a.toInt ∧ a.toInt ≤ 9 at hp
    omega
  unfold f_X7_bounded
  have h1 := h.1
  refine ok_if (fun _ => b15) (fun c => ok_bd (s_X7_is t f kind 2 h) (fun o ho => ok_if (fun _ => b15) (fun d => ?_)))
  have d2 := ho.2.2 (z_ne (k := 0) rfl d)
  have b42 : ok (f_X7_bounded_b42 pl t f fp w wp (val t.toNatClampNeg)) (fun o => Adv 1 t f o.2.1 o.2.2.1 ∧ W9 w o.2.2.2.2.1 ∧ (o.2.2.1.toInt = 0 → o.2.2.2.2.1.toInt = 0 → rg o.1 q1.toInt q2.toInt)) := by
    unfold f_X7_bounded_b42
    refine ok_bd2 (s_X7_wrong f pl w wp 5 t h.2 hw (by decide) h1) (fun a b hp => ?_)
    unfold f_X7_bounded_b51
    refine ok_bd3 (s_X7_goesOn pl t f fp h) (fun x y z hq => ok_some ⟨hq.1, hp.1, fun _ q => ?_⟩)
    exact absurd q (hp.2 d2.1)
  refine ok_ck (inb_k h1.1 (by omega)) (ok_if (fun _ => b42) (fun e => ok_if (fun e2 => ?_) (fun _ => b42)))
  unfold f_X7_bounded_b51
  refine ok_bd3 (s_X7_goesOn pl t f fp h) (fun x y z hq => ok_some ⟨hq.1, ⟨hw, fun z => z⟩, fun _ _ => ?_⟩)
  exact ⟨ti_nlt e, ti_le e2⟩
theorem s_na12 {nm_ : Int32} {pl : Nat → Int32} {tn no : Nat → Int64} {t f fp x1 w0 : Int32} (hf : 0 ≤ f.toInt ∧ f.toInt ≤ 9) (hn : 0 ≤ nm_.toInt ∧ nm_.toInt ≤ 20) (hx : 0 ≤ x1.toInt ∧ x1.toInt ≤ 400) : ∀ (n : Nat) (w wp x2 : Int32), W9 w0 w → 0 ≤ x2.toInt → x2.toInt ≤ 20 → (20 - x2.toInt).toNat < n → ok (f_X7_named_b12 nm_ pl tn no n t f fp w wp x1 x2) (fun o => o.1 = x1 ∧ o.2.1 = t ∧ o.2.2.1 = f ∧ W9 w0 o.2.2.2.2.1) := by
  intro n
  induction n with
  | zero => intro w wp x2 _ _ _ h; exact absurd h (Nat.not_lt_zero _)
  | succ n ih =>
    intro w wp x2 hw h0 h1 hm
    show ok (f_X7_named_b12_st (f_X7_named_b12 nm_ pl tn no n) nm_ pl tn no t f fp w wp x1 x2) _
    unfold f_X7_named_b12_st
    refine ok_if (fun c => ok_some ⟨rfl, rfl, rfl, hw⟩) (fun c => ok_if (fun d => ?_) (fun d => ok_some ⟨rfl, rfl, rfl, hw⟩))
    have c2 := ti_nle c
    have t1 := add_k (x := x2) (v := 1) (k := 1) rfl (by omega) (by omega)
    refine ok_ck (inb_k h0 (by omega)) (ok_ck (inb_k hx.1 (by omega)) (ok_if (fun e => ?_) (fun e => ?_)))
    · exact ok_bd2 (s_X7_wrong f pl w wp 3 x1 hf hw.1 (by decide) hx) (fun a b hp => ih a b (x2 + 1) (hw.tr hp.1) (by omega) (by omega) (by omega))
    · exact ih w wp (x2 + 1) hw (by omega) (by omega) (by omega)
theorem s_X7_named (nm_ : Int32) (kind pl : Nat → Int32) (tn no : Nat → Int64) (t f fp w wp : Int32) (h : T4 t f) (hw : 0 ≤ w.toInt ∧ w.toInt ≤ 9) (hn : 0 ≤ nm_.toInt ∧ nm_.toInt ≤ 20) : ok (f_X7_named nm_ kind pl tn no t f fp w wp) (fun o => o.1 = t ∧ Adv 1 t f o.2.1 o.2.2.1 ∧ W9 w o.2.2.2.2.1) := by
  unfold f_X7_named
  refine ok_bd3 (s_X7_must kind pl t f fp 1 h) (fun a b c hp => ?_)
  have e0 : (0 : Int32).toInt = 0 := rfl
  refine ok_w (s_na12 (w0 := w) hp.t4.2 hn h.1 fuel w wp 0 ⟨hw, fun z => z⟩ (by omega) (by omega) (by unfold fuel; omega)) (fun o ho => ?_)
  obtain ⟨e1, e2, e3, e4⟩ := ho
  refine ⟨e1, ?_, e4⟩
  rw [e2, e3]
  exact hp
/-- the cells that names stand for -/
def NT (nm_ : Int32) (na : Nat → Int32) (C : Int) : Prop := ∀ k : Nat, (k : Int) < nm_.toInt → -1 ≤ (na k).toInt ∧ (na k).toInt < C
theorem s_ca21 {nm_ : Int32} {pl na : Nat → Int32} {tn no : Nat → Int64} {t f fp x1 w wp : Int32} {C : Int} (hf : f.toInt = 0) (hn : 0 ≤ nm_.toInt ∧ nm_.toInt ≤ 20) (hx : 0 ≤ x1.toInt ∧ x1.toInt ≤ 400) (hw : 0 ≤ w.toInt ∧ w.toInt ≤ 9) (hC : 0 ≤ C) (hN : NT nm_ na C) : ∀ (n : Nat) (x2 : Int32), 0 ≤ x2.toInt → x2.toInt ≤ 20 → (20 - x2.toInt).toNat < n → ok (f_X7_cellAt_b21 nm_ pl tn no na n t f fp w wp x1 x2) (fun o => o.2.1 = t ∧ o.2.2.1 = f ∧ W9 w o.2.2.2.2.1 ∧ (-1 ≤ o.1.toInt ∧ o.1.toInt < C) ∧ (o.2.2.2.2.1.toInt = 0 → 0 ≤ o.1.toInt)) := by
  intro n
  induction n with
  | zero => intro x2 _ _ h; exact absurd h (Nat.not_lt_zero _)
  | succ n ih =>
    intro x2 h0 h1 hm
    show ok (f_X7_cellAt_b21_st (f_X7_cellAt_b21 nm_ pl tn no na n) nm_ pl tn no na t f fp w wp x1 x2) _
    unfold f_X7_cellAt_b21_st
    refine ok_if (fun c => ?_) (fun c => ?_)
    · refine ok_bd2 (s_X7_wrong f pl w wp 4 x1 (by omega) hw (by decide) hx) (fun a b hp => ok_some ⟨rfl, rfl, hp.1, ⟨show (-1 : Int) ≤ (-1 : Int32).toInt by decide, ?_⟩, fun q => absurd q (hp.2 hf)⟩)
      show (-1 : Int32).toInt < C
      have e : (-1 : Int32).toInt = -1 := by decide
      rw [e]
      omega
    have c2 := ti_nle c
    have t1 := add_k (x := x2) (v := 1) (k := 1) rfl (by omega) (by omega)
    have nx := ih (x2 + 1) (by omega) (by omega) (by omega)
    refine ok_ck (inb_k h0 (by omega)) (ok_ck (inb_k hx.1 (by omega)) (ok_if (fun e => ?_) (fun e => nx)))
    refine ok_ck (inb_k h0 (by omega)) (ok_if (fun d => nx) (fun d => ok_ck (inb_k h0 (by omega)) (ok_some ?_)))
    have d2 := nlt_k (k := 0) rfl d
    have k := hN x2.toNatClampNeg (by rw [cl_k h0]; exact c2)
    exact ⟨rfl, rfl, ⟨hw, fun z => z⟩, k, fun _ => d2⟩
theorem s_X7_cellAt (nm_ : Int32) (kind pl : Nat → Int32) (tn no : Nat → Int64) (na : Nat → Int32) (t f fp w wp : Int32) {C : Int} (h : T4 t f) (hw : 0 ≤ w.toInt ∧ w.toInt ≤ 9) (hn : 0 ≤ nm_.toInt ∧ nm_.toInt ≤ 20) (hC : 0 ≤ C) (hN : NT nm_ na C) : ok (f_X7_cellAt nm_ kind pl tn no na t f fp w wp) (fun o => Adv 1 t f o.2.1 o.2.2.1 ∧ W9 w o.2.2.2.2.1 ∧ (-1 ≤ o.1.toInt ∧ o.1.toInt < C) ∧ (o.2.2.1.toInt = 0 → o.2.2.2.2.1.toInt = 0 → 0 ≤ o.1.toInt)) := by
  unfold f_X7_cellAt
  refine ok_bd3 (s_X7_must kind pl t f fp 1 h) (fun a b c hp => ok_if (fun d => ?_) (fun d => ok_some ?_))
  · have d2 := le_k (k := 0) rfl d
    have e0 : (0 : Int32).toInt = 0 := rfl
    have b4 := hp.t4.2
    refine ok_w (s_ca21 (C := C) (by change b.toInt = 0; change 0 ≤ b.toInt ∧ b.toInt ≤ 9 at b4; omega) hn h.1 hw hC hN fuel 0 (by omega) (by omega) (by unfold fuel; omega)) (fun o ho => ?_)
    obtain ⟨e2, e3, e4, e5, e6⟩ := ho
    refine ⟨?_, e4, e5, fun _ => e6⟩
    rw [e2, e3]
    exact hp
  · have d2 := nle_k (k := 0) rfl d
    refine ⟨hp, ⟨hw, fun z => z⟩, ⟨show (-1 : Int) ≤ (-1 : Int32).toInt by decide, ?_⟩, fun z => ?_⟩
    · show (-1 : Int32).toInt < C
      have e : (-1 : Int32).toInt = -1 := by decide
      rw [e]
      omega
    · change b.toInt = 0 at z
      omega
theorem s_X7_notes (tn : Nat → Int64) (nm_ : Int32) (no : Nat → Int64) (na : Nat → Int32) (q1 q2 : Int32) (hn : 0 ≤ nm_.toInt ∧ nm_.toInt ≤ 19) (hq : 0 ≤ q1.toInt ∧ q1.toInt ≤ 400) {C : Int} (hN : NT nm_ na C) (h2 : -1 ≤ q2.toInt ∧ q2.toInt < C) : ok (f_X7_notes tn nm_ no na q1 q2) (fun o => o.1.toInt = nm_.toInt + 1 ∧ NT o.1 o.2.2 C) := by
  unfold f_X7_notes
  have t1 := add_k (x := nm_) (v := 1) (k := 1) rfl (by omega) (by omega)
  refine ok_ck (inb_k hq.1 (by omega)) (ok_ck (inb_k hn.1 (by omega)) (ok_nm (fun a _ => ok_ck (inb_k hn.1 (by omega)) (ok_nm (fun b eb => ok_some ⟨t1, ?_⟩)))))
  intro k hk
  change (k : Int) < (nm_ + 1).toInt at hk
  show -1 ≤ (b k).toInt ∧ (b k).toInt < C
  rw [eb, upd]
  have ck_ := cl_k hn.1
  by_cases e : k = nm_.toNatClampNeg
  · rw [if_pos e]; exact h2
  · rw [if_neg e]; exact hN k (by omega)
/-- what makesWay does to a cell's ways -/
theorem s_X7_makesWay (side : Int32) (pl : Nat → Int32) (f fp : Int32) (ways : Nat → Int32) (q1 q2 : Int32) (hs : rg side 0 1) (hf : 0 ≤ f.toInt ∧ f.toInt ≤ 9) (h1 : -1 ≤ q1.toInt ∧ q1.toInt < 12) (h2 : 0 ≤ q2.toInt ∧ q2.toInt ≤ 400) : ok (f_X7_makesWay side pl f fp ways q1 q2) (fun o => (0 ≤ o.1.toInt ∧ o.1.toInt ≤ 9) ∧ (o.1.toInt = 0 → f.toInt = 0 ∧ (0 ≤ q1.toInt → ¬ rO side ways q1 = 8)) ∧ ((0 ≤ q1.toInt ∧ o.2.2 = upd ways (((12 : Int32) * side) + q1).toNatClampNeg (rO side ways q1 + 1)) ∨ ((q1.toInt < 0 ∨ ¬ f.toInt = 0) ∧ o.2.2 = ways))) := by
  unfold f_X7_makesWay
  refine ok_if (fun c => ok_some ?_) (fun c => ok_if (fun d => ?_) (fun d => ok_some ?_))
  · have c2 := k_lt (k := 0) rfl c
    exact ⟨hf, fun z => by change f.toInt = 0 at z; omega, Or.inr ⟨Or.inr (by omega), rfl⟩⟩
  · have c2 := k_nlt (k := 0) rfl c
    have d2 := k_le (k := 0) rfl d
    have hi := in_side (K := 12) (k := 12) (m := 11) rfl (by decide) hs (⟨d2, by omega⟩ : rg q1 0 11) (by decide)
    have i0 := hi.1
    have i1 := hi.2
    refine ok_ck (inb_k i0 (by omega)) (ok_if (fun e => ?_) (fun e => ?_))
    · refine ok_bd2 (s_X7_failAt pl f fp 2 q2 hf (by decide) h2) (fun a b hp => ?_)
      change 1 ≤ a.toInt ∧ a.toInt ≤ 9 at hp
      unfold f_X7_makesWay_b39
      refine ok_ck (inb_k i0 (by omega)) (ok_ck (inb_k i0 (by omega)) (ok_nm (fun y ey => ok_some ⟨?_, fun z => ?_, Or.inl ⟨d2, ey⟩⟩)))
      · show 0 ≤ a.toInt ∧ a.toInt ≤ 9
        omega
      · change a.toInt = 0 at z
        omega
    · unfold f_X7_makesWay_b39
      refine ok_ck (inb_k i0 (by omega)) (ok_ck (inb_k i0 (by omega)) (ok_nm (fun y ey => ok_some ⟨hf, fun z => ⟨z, fun _ => e⟩, Or.inl ⟨d2, ey⟩⟩)))
  · have d2 := k_nle (k := 0) rfl d
    exact ⟨hf, fun z => ⟨z, fun q => absurd q (by omega)⟩, Or.inr ⟨Or.inl d2, rfl⟩⟩
