/-! the reference's plain, begins, goesFrom, keeps -/
abbrev nA (live : Int32) (a : Nat → Int32) (x : Int32) : Int32 := a (((14 : Int32) * live) + x).toNatClampNeg
theorem up_in {a y : Nat → Int32} {x v : Int32} {Q : Int32 → Int32 → Prop} (e : y = upd a x.toNatClampNeg v) (hx : 0 ≤ x.toInt) (h : ∀ c : Int32, 0 ≤ c.toInt → c.toInt < x.toInt → Q c (a c.toNatClampNeg)) (hv : Q x v) : ∀ c : Int32, 0 ≤ c.toInt → c.toInt < x.toInt + 1 → Q c (y c.toNatClampNeg) := by
  intro c h0 h1
  rw [e, upd]
  by_cases w : c = x
  · rw [w, if_pos rfl]; exact hv
  · rw [if_neg (fun q => w (cl_inj h0 hx q))]
    have : c.toInt ≠ x.toInt := fun q => w (Int32.toInt_inj.mp q)
    exact h c h0 (by omega)
theorem upL_in {a y : Nat → Int64} {x : Int32} {v : Int64} {Q : Int32 → Int64 → Prop} (e : y = vp_updL a x.toNatClampNeg v) (hx : 0 ≤ x.toInt) (h : ∀ c : Int32, 0 ≤ c.toInt → c.toInt < x.toInt → Q c (a c.toNatClampNeg)) (hv : Q x v) : ∀ c : Int32, 0 ≤ c.toInt → c.toInt < x.toInt + 1 → Q c (y c.toNatClampNeg) := by
  intro c h0 h1
  rw [e, vp_updL]
  by_cases w : c = x
  · rw [w, if_pos rfl]; exact hv
  · rw [if_neg (fun q => w (cl_inj h0 hx q))]
    have : c.toInt ≠ x.toInt := fun q => w (Int32.toInt_inj.mp q)
    exact h c h0 (by omega)
def PQ (live : Int32) (pw rn : Nat → Int32) (o : Int32 × Int32 × Int64 × Int64 × (Nat → Int32) × (Nat → Int32) × (Nat → Int32) × (Nat → Int32)) : Prop := o.1 = -1 ∧ o.2.1 = -1 ∧ (∀ c : Int32, 0 ≤ c.toInt → c.toInt < 6 → o.2.2.2.2.1 c.toNatClampNeg = -1) ∧ (∀ c : Int32, 0 ≤ c.toInt → c.toInt < 20 → o.2.2.2.2.2.2.1 c.toNatClampNeg = pA live pw c) ∧ (∀ c : Int32, 0 ≤ c.toInt → c.toInt < 14 → o.2.2.2.2.2.2.2 c.toNatClampNeg = nA live rn c)
theorem s_pl74 {live : Int32} {pw rn : Nat → Int32} (hl : rg live 0 1) : ∀ (n : Nat) (ta ra : Int64) (wants off wide rain : Nat → Int32) (x1 : Int32), rg x1 0 14 → (∀ c : Int32, 0 ≤ c.toInt → c.toInt < 6 → wants c.toNatClampNeg = -1) → (∀ c : Int32, 0 ≤ c.toInt → c.toInt < 20 → wide c.toNatClampNeg = pA live pw c) → (∀ c : Int32, 0 ≤ c.toInt → c.toInt < x1.toInt → rain c.toNatClampNeg = nA live rn c) → (14 - x1.toInt).toNat < n → ok (f_X7_plain_b74 live rn n (-1) (-1) ta ra wants off wide rain x1) (PQ live pw rn) := by
  intro n
  induction n with
  | zero => intro ta ra wants off wide rain x1 _ _ _ _ h; exact absurd h (Nat.not_lt_zero _)
  | succ n ih =>
    intro ta ra wants off wide rain x1 hx h1 h2 h3 hn
    show ok (f_X7_plain_b74_st (f_X7_plain_b74 live rn n) live rn (-1) (-1) ta ra wants off wide rain x1) _
    unfold f_X7_plain_b74_st
    have e14 : (14 : Int32).toInt = 14 := rfl
    refine ok_if (fun c => ok_some ⟨rfl, rfl, h1, h2, fun y q0 q1 => h3 y q0 (by have := ti_le c; omega)⟩) (fun c => ?_)
    have c2 := ti_nle c
    have hx' : rg x1 0 13 := ⟨hx.1, by omega⟩
    have s1 := x_suc hx' (by decide)
    have hxa := hx'.1
    have hxb := hx'.2
    have hi := in_side (K := 14) (k := 14) rfl (by decide) hl hx' (by decide)
    refine ok_ck (inb_rg hi (by decide) (by decide)) (ok_ck (inb_rg hx' (by decide) (by decide)) (ok_nm (fun a4 e4 => ?_)))
    refine ih ta ra wants off wide a4 (x1 + 1) ⟨by have := hx.1; omega, by omega⟩ h1 h2 ?_ (by have := hx.1; omega)
    rw [s1.1]
    exact up_in (Q := fun c v => v = nA live rn c) e4 hx.1 h3 rfl
theorem s_pl40 {live : Int32} {pw rn : Nat → Int32} (hl : rg live 0 1) : ∀ (n : Nat) (ta ra : Int64) (wants off wide rain : Nat → Int32) (x1 : Int32), rg x1 0 20 → (∀ c : Int32, 0 ≤ c.toInt → c.toInt < 6 → wants c.toNatClampNeg = -1) → (∀ c : Int32, 0 ≤ c.toInt → c.toInt < x1.toInt → wide c.toNatClampNeg = pA live pw c) → (20 - x1.toInt).toNat < n → ok (f_X7_plain_b40 live pw rn n (-1) (-1) ta ra wants off wide rain x1) (PQ live pw rn) := by
  intro n
  induction n with
  | zero => intro ta ra wants off wide rain x1 _ _ _ h; exact absurd h (Nat.not_lt_zero _)
  | succ n ih =>
    intro ta ra wants off wide rain x1 hx h1 h2 hn
    show ok (f_X7_plain_b40_st (f_X7_plain_b40 live pw rn n) live pw rn (-1) (-1) ta ra wants off wide rain x1) _
    unfold f_X7_plain_b40_st
    have e20 : (20 : Int32).toInt = 20 := rfl
    have e0 : (0 : Int32).toInt = 0 := rfl
    refine ok_if (fun c => s_pl74 hl _ _ _ _ _ _ _ _ ⟨by decide, by decide⟩ h1 (fun y q0 q1 => h2 y q0 (by have := ti_le c; omega)) (fun y q0 q1 => absurd q1 (by omega)) (by decide)) (fun c => ?_)
    have c2 := ti_nle c
    have hx' : rg x1 0 19 := ⟨hx.1, by omega⟩
    have s1 := x_suc hx' (by decide)
    have hxa := hx'.1
    have hxb := hx'.2
    have hi := in_side (K := 20) (k := 20) rfl (by decide) hl hx' (by decide)
    refine ok_ck (inb_rg hi (by decide) (by decide)) (ok_ck (inb_rg hx' (by decide) (by decide)) (ok_nm (fun a4 e4 => ?_)))
    refine ih ta ra wants off a4 rain (x1 + 1) ⟨by have := hx.1; omega, by omega⟩ h1 ?_ (by have := hx.1; omega)
    rw [s1.1]
    exact up_in (Q := fun c v => v = pA live pw c) e4 hx.1 h2 rfl
theorem s_pl12 {live : Int32} {pw rn : Nat → Int32} (hl : rg live 0 1) : ∀ (n : Nat) (ta ra : Int64) (wants off wide rain : Nat → Int32) (x1 : Int32), rg x1 0 6 → (∀ c : Int32, 0 ≤ c.toInt → c.toInt < x1.toInt → wants c.toNatClampNeg = -1) → (6 - x1.toInt).toNat < n → ok (f_X7_plain_b12 live pw rn n (-1) (-1) ta ra wants off wide rain x1) (PQ live pw rn) := by
  intro n
  induction n with
  | zero => intro ta ra wants off wide rain x1 _ _ h; exact absurd h (Nat.not_lt_zero _)
  | succ n ih =>
    intro ta ra wants off wide rain x1 hx h1 hn
    show ok (f_X7_plain_b12_st (f_X7_plain_b12 live pw rn n) live pw rn (-1) (-1) ta ra wants off wide rain x1) _
    unfold f_X7_plain_b12_st
    have e6 : (6 : Int32).toInt = 6 := rfl
    have e0 : (0 : Int32).toInt = 0 := rfl
    refine ok_if (fun c => s_pl40 hl _ _ _ _ _ _ _ _ ⟨by decide, by decide⟩ (fun y q0 q1 => h1 y q0 (by have := ti_le c; omega)) (fun y q0 q1 => absurd q1 (by omega)) (by decide)) (fun c => ?_)
    have c2 := ti_nle c
    have hx' : rg x1 0 5 := ⟨hx.1, by omega⟩
    have s1 := x_suc hx' (by decide)
    have hxa := hx'.1
    have hxb := hx'.2
    refine ok_ck (inb_rg hx' (by decide) (by decide)) (ok_nm (fun a3 e3 => ok_ck (inb_rg hx' (by decide) (by decide)) (ok_nm (fun a5 e5 => ?_))))
    refine ih ta ra a3 a5 wide rain (x1 + 1) ⟨by have := hx.1; omega, by omega⟩ ?_ (by have := hx.1; omega)
    rw [s1.1]
    exact up_in (Q := fun _ v => v = -1) e3 hx.1 h1 rfl
theorem s_X7_plain (live : Int32) (pw rn : Nat → Int32) (ch pc : Int32) (ta ra : Int64) (wants off wide rain : Nat → Int32) (hl : rg live 0 1) : ok (f_X7_plain live pw rn ch pc ta ra wants off wide rain) (PQ live pw rn) := by
  unfold f_X7_plain
  exact s_pl12 hl _ _ _ _ _ _ _ _ ⟨by decide, by decide⟩ (fun y q0 q1 => absurd q1 (by have e0 : (0 : Int32).toInt = 0 := rfl; omega)) (by decide)
/-- the live side's widths and rains -/
def GX (live : Int32) (passes pw rains rn : Nat → Int32) : Prop := (∀ x : Int32, 0 ≤ x.toInt → x.toInt < (passes live.toNatClampNeg).toInt → rg (pA live pw x) 0 10) ∧ (∀ x : Int32, 0 ≤ x.toInt → x.toInt < (rains live.toNatClampNeg).toInt → rg (nA live rn x) 0 99)
theorem PN_of {live : Int32} {cells passes rains pw rn : Nat → Int32} {o : Int32 × Int32 × Int64 × Int64 × (Nat → Int32) × (Nat → Int32) × (Nat → Int32) × (Nat → Int32)} {pm : Int32} (hc : rg (cells live.toNatClampNeg) 0 12) (hp : rg (passes live.toNatClampNeg) 0 20) (hr : rg (rains live.toNatClampNeg) 0 14) (x : GX live passes pw rains rn) (h : PQ live pw rn o) : PN live cells passes rains o.2.2.2.2.1 o.2.2.2.2.2.2.1 o.2.2.2.2.2.2.2 o.2.1 pm := by
  obtain ⟨h1, h2, h3, h4, h5⟩ := h
  refine ⟨fun y q0 q1 => ?_, fun y q0 q1 => ?_, fun y q => ?_, ?_, ?_⟩
  · rw [h4 y q0 (by have := hp.2; omega)]; exact x.1 y q0 q1
  · rw [h5 y q0 (by have := hr.2; omega)]; exact x.2 y q0 q1
  · rw [h3 y q.1 (by have := q.2; omega)]; exact ⟨by decide, by decide⟩
  · rw [h2]
    have e : (-1 : Int32).toInt = -1 := rfl
    have := hc.1
    unfold nC
    omega
  · rw [h2]
    intro q
    exact absurd q (by decide)
theorem s_gf6 {day : Int32} {now : Nat → Int64} : ∀ (n : Nat) (rd ch pc : Int32) (ta ra : Int64) (row : Nat → Int64) (wants off wide rain : Nat → Int32) (x1 : Int32), rg x1 0 60 → (∀ c : Int32, 0 ≤ c.toInt → c.toInt < x1.toInt → row c.toNatClampNeg = now c.toNatClampNeg) → (60 - x1.toInt).toNat < n → ok (f_X7_goesFrom_b6 day now n rd ch pc ta ra row wants off wide rain x1) (fun o => o.1 = day ∧ o.2.1 = ch ∧ o.2.2.1 = pc ∧ o.2.2.2.2.2.2.1 = wants ∧ o.2.2.2.2.2.2.2.2.1 = wide ∧ o.2.2.2.2.2.2.2.2.2 = rain ∧ ∀ c : Int32, 0 ≤ c.toInt → c.toInt < 60 → o.2.2.2.2.2.1 c.toNatClampNeg = now c.toNatClampNeg) := by
  intro n
  induction n with
  | zero => intro rd ch pc ta ra row wants off wide rain x1 _ _ h; exact absurd h (Nat.not_lt_zero _)
  | succ n ih =>
    intro rd ch pc ta ra row wants off wide rain x1 hx h1 hn
    show ok (f_X7_goesFrom_b6_st (f_X7_goesFrom_b6 day now n) day now rd ch pc ta ra row wants off wide rain x1) _
    unfold f_X7_goesFrom_b6_st
    have e6 : (60 : Int32).toInt = 60 := rfl
    refine ok_if (fun c => ok_some ⟨rfl, rfl, rfl, rfl, rfl, rfl, fun y q0 q1 => h1 y q0 (by have := ti_le c; omega)⟩) (fun c => ?_)
    have c2 := ti_nle c
    have hx' : rg x1 0 59 := ⟨hx.1, by omega⟩
    have s1 := x_suc hx' (by decide)
    have hxa := hx'.1
    have hxb := hx'.2
    refine ok_ck (inb_rg hx' (by decide) (by decide)) (ok_ck (inb_rg hx' (by decide) (by decide)) (ok_nm (fun a4 e4 => ?_)))
    refine ih rd ch pc ta ra a4 wants off wide rain (x1 + 1) ⟨by have := hx.1; omega, by omega⟩ ?_ (by have := hx.1; omega)
    rw [s1.1]
    exact upL_in (Q := fun c v => v = now c.toNatClampNeg) e4 hx.1 h1 rfl
theorem s_X7_goesFrom (live day : Int32) (cells room passes rains pw rn : Nat → Int32) (now : Nat → Int64) (rd ch pc : Int32) (ta ra : Int64) (row : Nat → Int64) (wants off wide rain : Nat → Int32) {M : Int} {pm : Int32} (g : GC live cells room) (hp : rg (passes live.toNatClampNeg) 0 20) (hr : rg (rains live.toNatClampNeg) 0 14) (x : GX live passes pw rains rn) (h : RW live cells room now M) : ok (f_X7_goesFrom live day pw rn now rd ch pc ta ra row wants off wide rain) (fun o => o.1 = day ∧ o.2.1 = -1 ∧ o.2.2.1 = -1 ∧ PN live cells passes rains o.2.2.2.2.2.2.1 o.2.2.2.2.2.2.2.2.1 o.2.2.2.2.2.2.2.2.2 o.2.2.1 pm ∧ RW live cells room o.2.2.2.2.2.1 M) := by
  unfold f_X7_goesFrom
  refine ok_bd8 (s_X7_plain live pw rn ch pc ta ra wants off wide rain g.1) (fun a0 a1 a2 a3 a4 a5 a6 a7 hq => ?_)
  have pn := PN_of (cells := cells) (pm := pm) g.2.1 hp hr x hq
  refine ok_w (s_gf6 _ _ _ _ _ _ _ _ _ _ _ _ ⟨by decide, by decide⟩ (fun y q0 q1 => absurd q1 (by have e0 : (0 : Int32).toInt = 0 := rfl; omega)) (by decide)) (fun o ho => ?_)
  obtain ⟨k1, k2, k3, k4, k5, k6, k7⟩ := ho
  refine ⟨k1, k2.trans hq.1, k3.trans hq.2.1, ?_, fun y q0 q1 => ?_⟩
  · rw [k3, k4, k5, k6]; exact pn
  · have hy := g.lt q0 q1
    rw [k7 y q0 (by have := hy.2; omega)]
    exact h y q0 q1
theorem s_ke2 {rd : Int32} {row : Nat → Int64} : ∀ (n : Nat) (day : Int32) (now : Nat → Int64) (x1 : Int32), rg x1 0 60 → (∀ c : Int32, 0 ≤ c.toInt → c.toInt < x1.toInt → now c.toNatClampNeg = row c.toNatClampNeg) → (60 - x1.toInt).toNat < n → ok (f_X7_keeps_b2 rd row n day now x1) (fun o => o.1 = rd ∧ ∀ c : Int32, 0 ≤ c.toInt → c.toInt < 60 → o.2 c.toNatClampNeg = row c.toNatClampNeg) := by
  intro n
  induction n with
  | zero => intro day now x1 _ _ h; exact absurd h (Nat.not_lt_zero _)
  | succ n ih =>
    intro day now x1 hx h1 hn
    show ok (f_X7_keeps_b2_st (f_X7_keeps_b2 rd row n) rd row day now x1) _
    unfold f_X7_keeps_b2_st
    have e6 : (60 : Int32).toInt = 60 := rfl
    refine ok_if (fun c => ok_some ⟨rfl, fun y q0 q1 => h1 y q0 (by have := ti_le c; omega)⟩) (fun c => ?_)
    have c2 := ti_nle c
    have hx' : rg x1 0 59 := ⟨hx.1, by omega⟩
    have s1 := x_suc hx' (by decide)
    have hxa := hx'.1
    have hxb := hx'.2
    refine ok_ck (inb_rg hx' (by decide) (by decide)) (ok_ck (inb_rg hx' (by decide) (by decide)) (ok_nm (fun a4 e4 => ?_)))
    refine ih day a4 (x1 + 1) ⟨by have := hx.1; omega, by omega⟩ ?_ (by have := hx.1; omega)
    rw [s1.1]
    exact upL_in (Q := fun c v => v = row c.toNatClampNeg) e4 hx.1 h1 rfl
theorem s_X7_keeps (live rd : Int32) (cells room : Nat → Int32) (row : Nat → Int64) (day : Int32) (now : Nat → Int64) {M : Int} (g : GC live cells room) (h : RW live cells room row M) : ok (f_X7_keeps rd row day now) (fun o => o.1 = rd ∧ RW live cells room o.2 M) := by
  unfold f_X7_keeps
  refine ok_w (s_ke2 _ _ _ _ ⟨by decide, by decide⟩ (fun y q0 q1 => absurd q1 (by have e0 : (0 : Int32).toInt = 0 := rfl; omega)) (by decide)) (fun o ho => ⟨ho.1, fun y q0 q1 => ?_⟩)
  have hy := g.lt q0 q1
  rw [ho.2 y q0 (by have := hy.2; omega)]
  exact h y q0 q1
theorem s_be64 {live : Int32} {cells room : Nat → Int32} {M : Int} (g : GC live cells room) : ∀ (n : Nat) (rd ch pc : Int32) (ta ra : Int64) (row : Nat → Int64) (wants off wide rain : Nat → Int32) (x1 : Int32), rg x1 0 6 → RW live cells room row M → (6 - x1.toInt).toNat < n → ok (f_X7_begins_b64 n rd ch pc ta ra row wants off wide rain x1) (fun o => o.1 = 0 ∧ o.2.1 = ch ∧ o.2.2.1 = pc ∧ o.2.2.2.2.2.2.1 = wants ∧ o.2.2.2.2.2.2.2.2.1 = wide ∧ o.2.2.2.2.2.2.2.2.2 = rain ∧ RW live cells room o.2.2.2.2.2.1 M) := by
  intro n
  induction n with
  | zero => intro rd ch pc ta ra row wants off wide rain x1 _ _ h; exact absurd h (Nat.not_lt_zero _)
  | succ n ih =>
    intro rd ch pc ta ra row wants off wide rain x1 hx hr hn
    show ok (f_X7_begins_b64_st (f_X7_begins_b64 n) rd ch pc ta ra row wants off wide rain x1) _
    unfold f_X7_begins_b64_st
    have e6 : (6 : Int32).toInt = 6 := rfl
    refine ok_if (fun c => ok_some ⟨rfl, rfl, rfl, rfl, rfl, rfl, hr⟩) (fun c => ?_)
    have c2 := ti_nle c
    have hx' : rg x1 0 5 := ⟨hx.1, by omega⟩
    have s1 := x_suc hx' (by decide)
    have hxa := hx'.1
    have hxb := hx'.2
    have h48 := in60 hx' (K := 48) rfl (by decide)
    refine ok_ck (inb_rg h48.1 (by decide) (by decide)) (ok_nm (fun a3 e3 => ?_))
    exact ih rd ch pc ta ra a3 wants off wide rain (x1 + 1) ⟨by have := hx.1; omega, by omega⟩ (RW_eq g hr (fun j hj => by rw [e3, uL_ne (by omega)])) (by have := hx.1; omega)
theorem s_be27 {live : Int32} {cells room water : Nat → Int32} {M : Int} (g : GC live cells room) (hw : ∀ x : Int32, 0 ≤ x.toInt → x.toInt < nC live cells → 0 ≤ (rO live water x).toInt ∧ (rO live water x).toInt < (M + 1) * (rO live room x).toInt) : ∀ (n : Nat) (rd ch pc : Int32) (ta ra : Int64) (row : Nat → Int64) (wants off wide rain : Nat → Int32) (x1 : Int32), rg x1 0 12 → (∀ c : Int32, 0 ≤ c.toInt → c.toInt < x1.toInt → c.toInt < nC live cells → 0 ≤ (row c.toNatClampNeg).toInt ∧ (row c.toNatClampNeg).toInt < (M + 1) * (rO live room c).toInt) → (12 - x1.toInt).toNat < n → ok (f_X7_begins_b27 live cells water n rd ch pc ta ra row wants off wide rain x1) (fun o => o.1 = 0 ∧ o.2.1 = ch ∧ o.2.2.1 = pc ∧ o.2.2.2.2.2.2.1 = wants ∧ o.2.2.2.2.2.2.2.2.1 = wide ∧ o.2.2.2.2.2.2.2.2.2 = rain ∧ RW live cells room o.2.2.2.2.2.1 M) := by
  intro n
  induction n with
  | zero => intro rd ch pc ta ra row wants off wide rain x1 _ _ h; exact absurd h (Nat.not_lt_zero _)
  | succ n ih =>
    intro rd ch pc ta ra row wants off wide rain x1 hx hI hn
    show ok (f_X7_begins_b27_st (f_X7_begins_b27 live cells water n) live cells water rd ch pc ta ra row wants off wide rain x1) _
    unfold f_X7_begins_b27_st
    refine ok_bd (s_X7_n live cells g.1) (fun o1 ho => ?_)
    subst ho
    have hc := g.2.1
    refine ok_if (fun c => s_be64 g _ _ _ _ _ _ _ _ _ _ _ _ ⟨by decide, by decide⟩ (fun y q0 q1 => hI y q0 (by have := ti_le c; unfold nC at q1; omega) q1) (by decide)) (fun c => ?_)
    have c2 := ti_nle c
    have hx' : rg x1 0 11 := ⟨hx.1, by have := hc.2; omega⟩
    have s1 := x_suc hx' (by decide)
    have hxa := hx'.1
    have hxb := hx'.2
    have hi := in_side (K := 12) (k := 12) rfl (by decide) g.1 hx' (by decide)
    refine ok_ck (inb_rg hi (by decide) (by decide)) (ok_ck (inb_rg hx' (by decide) (by decide)) (ok_nm (fun a5 e5 => ?_)))
    refine ih rd ch pc ta ra a5 wants off wide rain (x1 + 1) ⟨by have := hx.1; omega, by omega⟩ ?_ (by have := hx.1; omega)
    rw [s1.1]
    refine upL_in (Q := fun c v => c.toInt < nC live cells → 0 ≤ v.toInt ∧ v.toInt < (M + 1) * (rO live room c).toInt) e5 hx.1 hI (fun q => ?_)
    rw [Jvm.Kit.i64_of_i32]
    exact hw x1 hx.1 q
theorem s_be6 {live : Int32} {cells room water : Nat → Int32} {M : Int} (g : GC live cells room) (hw : ∀ x : Int32, 0 ≤ x.toInt → x.toInt < nC live cells → 0 ≤ (rO live water x).toInt ∧ (rO live water x).toInt < (M + 1) * (rO live room x).toInt) : ∀ (n : Nat) (rd ch pc : Int32) (ta ra : Int64) (row : Nat → Int64) (wants off wide rain : Nat → Int32) (x1 : Int32), rg x1 0 60 → (60 - x1.toInt).toNat < n → ok (f_X7_begins_b6 live cells water n rd ch pc ta ra row wants off wide rain x1) (fun o => o.1 = 0 ∧ o.2.1 = ch ∧ o.2.2.1 = pc ∧ o.2.2.2.2.2.2.1 = wants ∧ o.2.2.2.2.2.2.2.2.1 = wide ∧ o.2.2.2.2.2.2.2.2.2 = rain ∧ RW live cells room o.2.2.2.2.2.1 M) := by
  intro n
  induction n with
  | zero => intro rd ch pc ta ra row wants off wide rain x1 _ h; exact absurd h (Nat.not_lt_zero _)
  | succ n ih =>
    intro rd ch pc ta ra row wants off wide rain x1 hx hn
    show ok (f_X7_begins_b6_st (f_X7_begins_b6 live cells water n) live cells water rd ch pc ta ra row wants off wide rain x1) _
    unfold f_X7_begins_b6_st
    have e6 : (60 : Int32).toInt = 60 := rfl
    refine ok_if (fun c => s_be27 g hw _ _ _ _ _ _ _ _ _ _ _ _ ⟨by decide, by decide⟩ (fun y q0 q1 => absurd q1 (by have e0 : (0 : Int32).toInt = 0 := rfl; omega)) (by decide)) (fun c => ?_)
    have c2 := ti_nle c
    have hx' : rg x1 0 59 := ⟨hx.1, by omega⟩
    have s1 := x_suc hx' (by decide)
    have hxa := hx'.1
    have hxb := hx'.2
    refine ok_ck (inb_rg hx' (by decide) (by decide)) (ok_nm (fun a3 e3 => ?_))
    exact ih rd ch pc ta ra a3 wants off wide rain (x1 + 1) ⟨by have := hx.1; omega, by omega⟩ (by have := hx.1; omega)
theorem s_X7_begins (live : Int32) (cells room passes rains water pw rn : Nat → Int32) (rd ch pc : Int32) (ta ra : Int64) (row : Nat → Int64) (wants off wide rain : Nat → Int32) {M : Int} {pm : Int32} (g : GC live cells room) (hp : rg (passes live.toNatClampNeg) 0 20) (hr : rg (rains live.toNatClampNeg) 0 14) (x : GX live passes pw rains rn) (hw : ∀ x : Int32, 0 ≤ x.toInt → x.toInt < nC live cells → 0 ≤ (rO live water x).toInt ∧ (rO live water x).toInt < (M + 1) * (rO live room x).toInt) : ok (f_X7_begins live cells water pw rn rd ch pc ta ra row wants off wide rain) (fun o => o.1 = 0 ∧ o.2.1 = -1 ∧ o.2.2.1 = -1 ∧ PN live cells passes rains o.2.2.2.2.2.2.1 o.2.2.2.2.2.2.2.2.1 o.2.2.2.2.2.2.2.2.2 o.2.2.1 pm ∧ RW live cells room o.2.2.2.2.2.1 M) := by
  unfold f_X7_begins
  refine ok_bd8 (s_X7_plain live pw rn ch pc ta ra wants off wide rain g.1) (fun a0 a1 a2 a3 a4 a5 a6 a7 hq => ?_)
  have pn := PN_of (cells := cells) (pm := pm) g.2.1 hp hr x hq
  refine ok_w (s_be6 g hw _ _ _ _ _ _ _ _ _ _ _ _ ⟨by decide, by decide⟩ (by decide)) (fun o ho => ?_)
  obtain ⟨k1, k2, k3, k4, k5, k6, k7⟩ := ho
  refine ⟨k1, k2.trans hq.1, k3.trans hq.2.1, ?_, k7⟩
  rw [k3, k4, k5, k6]; exact pn
