/-! the reference's expressions: what waits, what has come out -/
/-- n wait, o of them open, p signs; m: what stands on top of the level (0 nothing, 1 a plus or minus, 2 a times or over) -/
def SH (w : Nat → Int32) : Nat → Nat → Nat → Nat → Prop
  | 0, o, p, m => o = 0 ∧ p = 0 ∧ m = 0
  | n + 1, o, p, m => (w n = 6 ∧ m = 0 ∧ ∃ o' m', o = o' + 1 ∧ SH w n o' p m') ∨ ((w n = 8 ∨ w n = 9) ∧ m = 1 ∧ ∃ p', p = p' + 1 ∧ SH w n o p' 0) ∨ ((w n = 10 ∨ w n = 15) ∧ m = 2 ∧ ∃ p' m', p = p' + 1 ∧ m' ≤ 1 ∧ SH w n o p' m')
theorem SH_n {w : Nat → Int32} : ∀ {n o p m : Nat}, SH w n o p m → n = o + p ∧ p ≤ 2 * o + m ∧ m ≤ 2 := by
  intro n
  induction n with
  | zero => intro o p m h; obtain ⟨rfl, rfl, rfl⟩ := h; omega
  | succ n ih =>
    intro o p m h
    rcases h with ⟨_, rfl, o', m', rfl, h⟩ | ⟨_, rfl, p', rfl, h⟩ | ⟨_, rfl, p', m', rfl, hm, h⟩
    · have := ih h; omega
    · have := ih h; omega
    · have := ih h; omega
theorem SH_cg {w v : Nat → Int32} : ∀ {n o p m : Nat}, SH w n o p m → (∀ i, i < n → v i = w i) → SH v n o p m := by
  intro n
  induction n with
  | zero => intro o p m h _; exact h
  | succ n ih =>
    intro o p m h e
    have en := e n (Nat.lt_succ_self n)
    have er : ∀ i, i < n → v i = w i := fun i hi => e i (by omega)
    rcases h with ⟨a, b, o', m', c, h⟩ | ⟨a, b, p', c, h⟩ | ⟨a, b, p', m', c, hm, h⟩
    · exact Or.inl ⟨by rw [en, a], b, o', m', c, ih h er⟩
    · exact Or.inr (Or.inl ⟨by rw [en]; exact a, b, p', c, ih h er⟩)
    · exact Or.inr (Or.inr ⟨by rw [en]; exact a, b, p', m', c, hm, ih h er⟩)
/-- the code from a up to b, which leaves d on the pile -/
def CW (code ci : Nat → Int32) (a b : Nat) (d : Int) : Prop := a ≤ b ∧ ∃ D : Nat → Int, D a = 0 ∧ D b = d ∧ ∀ i : Nat, a ≤ i → i < b → (code i).toInt ≤ 5 ∧ ((code i).toInt < 2 → 0 ≤ D i ∧ D i ≤ 399 ∧ D (i + 1) = D i + 1 ∧ (¬ code i = 0 → rg (ci i) 0 16)) ∧ (2 ≤ (code i).toInt → 2 ≤ D i ∧ D i ≤ 400 ∧ D (i + 1) = D i - 1)
theorem CW_0 (code ci : Nat → Int32) (a : Nat) : CW code ci a a 0 := ⟨Nat.le_refl a, fun _ => 0, rfl, rfl, fun i h1 h2 => by omega⟩
theorem CW_cg {code ci code' ci' : Nat → Int32} {a b : Nat} {d : Int} (h : CW code ci a b d) (e1 : ∀ i, a ≤ i → i < b → code' i = code i) (e2 : ∀ i, a ≤ i → i < b → ci' i = ci i) : CW code' ci' a b d := by
  obtain ⟨hab, D, h0, h1, h2⟩ := h
  refine ⟨hab, D, h0, h1, fun i ha hb => ?_⟩
  rw [e1 i ha hb, e2 i ha hb]
  exact h2 i ha hb
theorem CW_up {code ci code' ci' : Nat → Int32} {a b : Nat} {d d' : Int} {k v : Int32} (h : CW code ci a b d) (e1 : code' = upd code b k) (e2 : ci' = upd ci b v) (hk : k.toInt ≤ 5) (hu : k.toInt < 2 → 0 ≤ d ∧ d ≤ 399 ∧ d' = d + 1 ∧ (¬ k = 0 → rg v 0 16)) (ho : 2 ≤ k.toInt → 2 ≤ d ∧ d ≤ 400 ∧ d' = d - 1) : CW code' ci' a (b + 1) d' := by
  obtain ⟨hab, D, h0, h1, h2⟩ := h
  refine ⟨by omega, fun i => if i ≤ b then D i else d', ?_, ?_, fun i ha hb => ?_⟩
  · show (if a ≤ b then D a else d') = 0
    rw [if_pos hab]; exact h0
  · show (if b + 1 ≤ b then D (b + 1) else d') = d'
    rw [if_neg (by omega)]
  · by_cases q : i = b
    · subst q
      have ec : code' i = k := by rw [e1, upd, if_pos rfl]
      have ei : ci' i = v := by rw [e2, upd, if_pos rfl]
      rw [ec, ei]
      show k.toInt ≤ 5 ∧ (k.toInt < 2 → 0 ≤ (if i ≤ i then D i else d') ∧ (if i ≤ i then D i else d') ≤ 399 ∧ (if i + 1 ≤ i then D (i + 1) else d') = (if i ≤ i then D i else d') + 1 ∧ (¬ k = 0 → rg v 0 16)) ∧ (2 ≤ k.toInt → 2 ≤ (if i ≤ i then D i else d') ∧ (if i ≤ i then D i else d') ≤ 400 ∧ (if i + 1 ≤ i then D (i + 1) else d') = (if i ≤ i then D i else d') - 1)
      rw [if_pos (Nat.le_refl i), if_neg (by omega), h1]
      exact ⟨hk, hu, ho⟩
    · have ec : code' i = code i := by rw [e1, upd, if_neg q]
      have ei : ci' i = ci i := by rw [e2, upd, if_neg q]
      rw [ec, ei]
      show (code i).toInt ≤ 5 ∧ ((code i).toInt < 2 → 0 ≤ (if i ≤ b then D i else d') ∧ (if i ≤ b then D i else d') ≤ 399 ∧ (if i + 1 ≤ b then D (i + 1) else d') = (if i ≤ b then D i else d') + 1 ∧ (¬ code i = 0 → rg (ci i) 0 16)) ∧ (2 ≤ (code i).toInt → 2 ≤ (if i ≤ b then D i else d') ∧ (if i ≤ b then D i else d') ≤ 400 ∧ (if i + 1 ≤ b then D (i + 1) else d') = (if i ≤ b then D i else d') - 1)
      rw [if_pos (show i ≤ b by omega), if_pos (show i + 1 ≤ b by omega)]
      exact h2 i ha (by omega)
theorem WF_of {code ci : Nat → Int32} {a b : Int32} {d : Int} (ha : rg a 0 840) (hb : rg b 0 840) (h : CW code ci a.toNatClampNeg b.toNatClampNeg d) : WF code ci a b := by
  obtain ⟨hab, D, h0, h1, h2⟩ := h
  have eb := cl_e hb (by decide)
  exact ⟨ha, hb, D, h0, fun i i1 i2 => h2 i i1 (by omega)⟩
/-- a row is as it was off [lo, hi) -/
def OFF (lo hi : Int) (a a0 : Nat → Int32) : Prop := ∀ i : Nat, ((i : Int) < lo ∨ hi ≤ (i : Int)) → a i = a0 i
theorem OFF_rf (lo hi : Int) (a : Nat → Int32) : OFF lo hi a a := fun _ _ => rfl
theorem OFF_tr {lo hi : Int} {a b c : Nat → Int32} (h : OFF lo hi a b) (g : OFF lo hi b c) : OFF lo hi a c := fun i q => by rw [h i q, g i q]
theorem OFF_w {lo hi lo' hi' : Int} {a b : Nat → Int32} (h : OFF lo hi a b) (h1 : lo' ≤ lo) (h2 : hi ≤ hi') : OFF lo' hi' a b := fun i q => h i (by omega)
theorem OFF_up {lo hi : Int} {a y : Nat → Int32} {i : Nat} {v : Int32} (e : y = upd a i v) (h1 : lo ≤ (i : Int)) (h2 : (i : Int) < hi) : OFF lo hi y a := by
  intro j q
  rw [e, upd, if_neg (by omega)]
theorem s_X7_emit (codes : Int32) (code ci : Nat → Int32) (q1 q2 : Int32) (h0 : 0 ≤ codes.toInt) (h1 : codes.toInt < 840) : ok (f_X7_emit codes code ci q1 q2) (fun o => o.1.toInt = codes.toInt + 1 ∧ o.2.1 = upd code codes.toNatClampNeg q1 ∧ o.2.2 = upd ci codes.toNatClampNeg q2) := by
  unfold f_X7_emit
  have t1 := add_k (x := codes) (v := 1) (k := 1) rfl (by omega) (by omega)
  exact ok_ck (inb_k h0 (by omega)) (ok_nm (fun a ea => ok_ck (inb_k h0 (by omega)) (ok_nm (fun b eb => ok_some ⟨t1, ea, eb⟩))))
/-- the codes of one law so far: from a, with p signs that wait and e values more -/
def CO (s : Int32) (code0 ci0 : Nat → Int32) (a : Int32) (codes : Int32) (code ci : Nat → Int32) (p : Nat) (e : Int) (t : Int) : Prop := 420 * s.toInt ≤ a.toInt ∧ a.toInt ≤ codes.toInt ∧ codes.toInt + p ≤ 420 * s.toInt + t ∧ CW code ci a.toNatClampNeg codes.toNatClampNeg (p + e) ∧ OFF a.toInt (420 * s.toInt + 420) code code0 ∧ OFF a.toInt (420 * s.toInt + 420) ci ci0
theorem CO_emit {s : Int32} {code0 ci0 : Nat → Int32} {a codes codes' : Int32} {code ci code' ci' : Nat → Int32} {p p' : Nat} {e e' t t' : Int} {k v : Int32} (hs : rg s 0 1) (h : CO s code0 ci0 a codes code ci p e t) (ht : t ≤ 401) (hc : codes'.toInt = codes.toInt + 1) (e1 : code' = upd code codes.toNatClampNeg k) (e2 : ci' = upd ci codes.toNatClampNeg v) (hk : k.toInt ≤ 5) (hu : k.toInt < 2 → 0 ≤ p + e ∧ p + e ≤ 399 ∧ p' + e' = p + e + 1 ∧ (¬ k = 0 → rg v 0 16)) (ho : 2 ≤ k.toInt → 2 ≤ p + e ∧ p + e ≤ 400 ∧ p' + e' = p + e - 1) (hp : p' + t ≤ p + t' - 1) : CO s code0 ci0 a codes' code' ci' p' e' t' := by
  obtain ⟨h1, h2, h3, h4, h5, h6⟩ := h
  have s0 := hs.1
  have s1 := hs.2
  have ck0 := cl_k (x := codes) (by omega)
  have ck1 := cl_k (x := codes') (by omega)
  have en : codes'.toNatClampNeg = codes.toNatClampNeg + 1 := by omega
  refine ⟨h1, by omega, by omega, ?_, ?_, ?_⟩
  · rw [en]
    exact CW_up h4 e1 e2 hk hu ho
  · exact OFF_tr (OFF_up e1 (by omega) (by omega)) h5
  · exact OFF_tr (OFF_up e2 (by omega) (by omega)) h6
theorem CO_w {s : Int32} {code0 ci0 : Nat → Int32} {a codes : Int32} {code ci : Nat → Int32} {p p' : Nat} {e e' t t' : Int} (h : CO s code0 ci0 a codes code ci p e t) (he : p' + e' = p + e) (ht : t + p' ≤ t' + p) : CO s code0 ci0 a codes code ci p' e' t' := by
  obtain ⟨h1, h2, h3, h4, h5, h6⟩ := h
  refine ⟨h1, h2, by omega, ?_, h5, h6⟩
  rw [he]
  exact h4
/-- all that comes out -/
theorem s_co0 {s : Int32} {waits : Nat → Int32} {code0 ci0 : Nat → Int32} {a x1 : Int32} {o : Nat} {t : Int} (hs : rg s 0 1) (ho : o ≤ 7) (ht : t ≤ 400) : ∀ (n : Nat) (w p m : Nat) (codes waiting : Int32) (code ci : Nat → Int32), waiting.toInt = w → SH waits w o p m → CO s code0 ci0 a codes code ci p 1 t → w < n → ok (f_X7_comesOut_b0 waits n codes waiting code ci x1) (fun r => ∃ w' p' m' : Nat, r.2.1.toInt = w' ∧ SH waits w' o p' m' ∧ w' ≤ w ∧ m' ≤ 1 ∧ (x1 = 0 → m' = 0) ∧ CO s code0 ci0 a r.1 r.2.2.1 r.2.2.2 p' 1 t) := by
  intro n
  induction n with
  | zero => intro w p m codes waiting code ci _ _ _ h; exact absurd h (Nat.not_lt_zero _)
  | succ n ih =>
    intro w p m codes waiting code ci hw hS hC hn
    show ok (f_X7_comesOut_b0_st (f_X7_comesOut_b0 waits n) waits codes waiting code ci x1) _
    unfold f_X7_comesOut_b0_st
    have hb := SH_n hS
    have s0 := hs.1
    have s1 := hs.2
    refine ok_if (fun c => ok_some ?_) (fun c => ?_)
    · have c2 := le_k (k := 0) rfl c
      have : w = 0 := by omega
      subst this
      obtain ⟨e1, e2, e3⟩ := hS
      exact ⟨0, p, 0, hw, ⟨e1, e2, rfl⟩, Nat.le_refl _, by omega, fun _ => rfl, hC⟩
    · have c2 := nle_k (k := 0) rfl c
      obtain ⟨v, rfl⟩ : ∃ v, w = v + 1 := ⟨w - 1, by omega⟩
      have t1 := sub_k (x := waiting) (v := 1) (k := 1) rfl (by omega) (by omega)
      have ck := cl_k (x := waiting - 1) (by omega)
      have ew : (waiting - 1).toNatClampNeg = v := by omega
      -- a sign comes out
      have outs : ∀ (p' m' : Nat) (k : Int32), p = p' + 1 → SH waits v o p' m' → 2 ≤ k.toInt → k.toInt ≤ 5 → ok (f_X7_comesOut_b84 (f_X7_comesOut_b0 waits n) waits codes (waiting - 1) code ci x1 k) (fun r => ∃ w' p' m' : Nat, r.2.1.toInt = w' ∧ SH waits w' o p' m' ∧ w' ≤ v + 1 ∧ m' ≤ 1 ∧ (x1 = 0 → m' = 0) ∧ CO s code0 ci0 a r.1 r.2.2.1 r.2.2.2 p' 1 t) := by
        intro p' m' k ep hS' k1 k2
        unfold f_X7_comesOut_b84
        have g1 := hC.1
        have g2 := hC.2.1
        have g3 := hC.2.2.1
        refine ok_bd3 (s_X7_emit codes code ci k 0 (by omega) (by omega)) (fun r0 r1 r2 hr => ?_)
        obtain ⟨q1, q2, q3⟩ := hr
        have hC' : CO s code0 ci0 a r0 r1 r2 p' 1 t := CO_emit hs hC (by omega) q1 q2 q3 k2 (fun z => by omega) (fun _ => by omega) (by omega)
        refine ok_w (ih v p' m' r0 (waiting - 1) r1 r2 (by omega) hS' hC' (by omega)) (fun r hr => ?_)
        obtain ⟨w2, p2, m2, z1, z2, z3, z4, z5, z6⟩ := hr
        exact ⟨w2, p2, m2, z1, z2, by omega, z4, z5, z6⟩
      have outs4 : ∀ (p' m' : Nat) (x2 : Int32), p = p' + 1 → SH waits v o p' m' → ok (f_X7_comesOut_b42 (f_X7_comesOut_b0 waits n) waits codes waiting code ci x1 x2) (fun r => ∃ w' p' m' : Nat, r.2.1.toInt = w' ∧ SH waits w' o p' m' ∧ w' ≤ v + 1 ∧ m' ≤ 1 ∧ (x1 = 0 → m' = 0) ∧ CO s code0 ci0 a r.1 r.2.2.1 r.2.2.2 p' 1 t) := by
        intro p' m' x2 ep hS'
        unfold f_X7_comesOut_b42
        exact ok_if (fun _ => outs p' m' 2 ep hS' (by decide) (by decide)) (fun _ => ok_if (fun _ => outs p' m' 3 ep hS' (by decide) (by decide)) (fun _ => ok_if (fun _ => outs p' m' 4 ep hS' (by decide) (by decide)) (fun _ => outs p' m' 5 ep hS' (by decide) (by decide))))
      refine ok_ck (inb_k (by omega) (by omega)) (ok_nm (fun e3 h3 => ?_))
      rw [ew] at h3
      rcases hS with ⟨a1, rfl, o', m', eo, h⟩ | ⟨a1, rfl, p', ep, h⟩ | ⟨a1, rfl, p', m', ep, hm, h⟩
      · rw [h3, a1, if_pos rfl]
        exact ok_some ⟨v + 1, p, 0, hw, Or.inl ⟨a1, rfl, o', m', eo, h⟩, Nat.le_refl _, by omega, fun _ => rfl, hC⟩
      · have keep : x1 ≠ 0 → ok (some (codes, waiting, code, ci)) (fun r => ∃ w' p' m' : Nat, r.2.1.toInt = w' ∧ SH waits w' o p' m' ∧ w' ≤ v + 1 ∧ m' ≤ 1 ∧ (x1 = 0 → m' = 0) ∧ CO s code0 ci0 a r.1 r.2.2.1 r.2.2.2 p' 1 t) := fun hx => ok_some ⟨v + 1, p, 1, hw, Or.inr (Or.inl ⟨a1, rfl, p', ep, h⟩), Nat.le_refl _, by omega, fun q => absurd q hx, hC⟩
        have n6 : ¬ e3 = 6 := by
          rw [h3]
          rcases a1 with q | q <;> rw [q] <;> decide
        rw [if_neg n6]
        refine ok_if (fun _ => outs4 p' 0 e3 ep h) (fun x0 => ok_if (fun _ => keep x0) (fun n8 => ok_if (fun _ => keep x0) (fun n9 => ?_)))
        rw [h3] at n8 n9
        rcases a1 with q | q
        · exact absurd q n8
        · exact absurd q n9
      · have n6 : ¬ e3 = 6 := by
          rw [h3]
          rcases a1 with q | q <;> rw [q] <;> decide
        have n8 : ¬ e3 = 8 := by
          rw [h3]
          rcases a1 with q | q <;> rw [q] <;> decide
        have n9 : ¬ e3 = 9 := by
          rw [h3]
          rcases a1 with q | q <;> rw [q] <;> decide
        rw [if_neg n6, if_neg n8, if_neg n9]
        exact ok_if (fun _ => outs4 p' m' e3 ep h) (fun _ => outs4 p' m' e3 ep h)
theorem s_X7_comesOut {s : Int32} (waits : Nat → Int32) {code0 ci0 : Nat → Int32} {a : Int32} {o : Nat} {t : Int} (codes waiting : Int32) (code ci : Nat → Int32) (x1 : Int32) (hs : rg s 0 1) (ho : o ≤ 7) (ht : t ≤ 400) {w p m : Nat} (hw : waiting.toInt = w) (hS : SH waits w o p m) (hC : CO s code0 ci0 a codes code ci p 1 t) : ok (f_X7_comesOut waits codes waiting code ci x1) (fun r => ∃ w' p' m' : Nat, r.2.1.toInt = w' ∧ SH waits w' o p' m' ∧ w' ≤ w ∧ m' ≤ 1 ∧ (x1 = 0 → m' = 0) ∧ CO s code0 ci0 a r.1 r.2.2.1 r.2.2.2 p' 1 t) := by
  unfold f_X7_comesOut
  have hb := SH_n hS
  exact s_co0 hs ho ht fuel w p m codes waiting code ci hw hS hC (by unfold fuel; omega)
