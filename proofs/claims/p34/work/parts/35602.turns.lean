/-! what a village wants, its turn, the pump: on both sides -/
theorem px_bb {α β γ δ ε : Type} {f : Option δ} {k : δ → Option α} {K : α → Option β} {g : Option ε} {l : ε → Option γ} {J : δ → ε → Prop} {R : β → γ → Prop} (h : pj f g J) (q : ∀ a b, J a b → px (k a) K (l b) R) : px (bd f k) K (bd g l) R := by
  cases f with
  | none => exact pj_nl
  | some v =>
    cases g with
    | none => exact pj_nr
    | some u => exact q v u (h v u rfl rfl)
theorem px_b24 {A0 A1 B0 B1 B2 B3 α β γ : Type} {f : Option (A0 × A1)} {k : A0 → A1 → Option α} {K : α → Option β} {g : Option (B0 × B1 × B2 × B3)} {l : B0 → B1 → B2 → B3 → Option γ} {J : A0 × A1 → B0 × B1 × B2 × B3 → Prop} {R : β → γ → Prop} (h : pj f g J) (q : ∀ a0 a1 b0 b1 b2 b3, J (a0, a1) (b0, b1, b2, b3) → px (k a0 a1) K (l b0 b1 b2 b3) R) : px (bd f (fun o => un2 o k)) K (bd g (fun o => un4 o l)) R := px_bb h (fun a b hab => q a.1 a.2 b.1 b.2.1 b.2.2.1 b.2.2.2 hab)
theorem pj_two {α β γ δ ε : Type} {f : Option α} {t : α → Option δ} {k : α → δ → Option γ} {g : Option β} {l : β → Option ε} {J : α × δ → β → Prop} {R : γ → ε → Prop} (h : pj (bd f (fun o => bd (t o) (fun q => some (o, q)))) g J) (q : ∀ a c b, J (a, c) b → pj (k a c) (l b) R) : pj (bd f (fun o => bd (t o) (k o))) (bd g l) R := by
  cases f with
  | none => exact pj_nl
  | some a =>
    cases g with
    | none => exact pj_nr
    | some b =>
      cases e : t a with
      | none =>
        intro x y e1 e2
        have e3 : bd (t a) (k a) = some x := e1
        rw [e] at e3
        exact nomatch e3
      | some c =>
        intro x y e1 e2
        have e3 : bd (t a) (k a) = some x := e1
        rw [e] at e3
        have e4 : bd (t a) (fun q => some (a, q)) = some (a, c) := by rw [e]; rfl
        exact q a c b (h (a, c) b e4 rfl) x y e3 e2
theorem pj_two8 {A0 A1 A2 A3 A4 A5 A6 A7 β γ δ ε : Type} {f : Option (A0 × A1 × A2 × A3 × A4 × A5 × A6 × A7)} {t : A0 → A1 → A2 → A3 → A4 → A5 → A6 → A7 → Option δ} {k : A0 → A1 → A2 → A3 → A4 → A5 → A6 → A7 → δ → Option γ} {g : Option β} {l : β → Option ε} {J : (A0 × A1 × A2 × A3 × A4 × A5 × A6 × A7) × δ → β → Prop} {R : γ → ε → Prop} (h : pj (bd f (fun o => un8 o (fun a0 a1 a2 a3 a4 a5 a6 a7 => bd (t a0 a1 a2 a3 a4 a5 a6 a7) (fun q => some ((a0, a1, a2, a3, a4, a5, a6, a7), q))))) g J) (q : ∀ a0 a1 a2 a3 a4 a5 a6 a7 c b, J ((a0, a1, a2, a3, a4, a5, a6, a7), c) b → pj (k a0 a1 a2 a3 a4 a5 a6 a7 c) (l b) R) : pj (bd f (fun o => un8 o (fun a0 a1 a2 a3 a4 a5 a6 a7 => bd (t a0 a1 a2 a3 a4 a5 a6 a7) (k a0 a1 a2 a3 a4 a5 a6 a7)))) (bd g l) R :=
  pj_two (t := fun (o : A0 × A1 × A2 × A3 × A4 × A5 × A6 × A7) => t o.1 o.2.1 o.2.2.1 o.2.2.2.1 o.2.2.2.2.1 o.2.2.2.2.2.1 o.2.2.2.2.2.2.1 o.2.2.2.2.2.2.2) (k := fun (o : A0 × A1 × A2 × A3 × A4 × A5 × A6 × A7) => k o.1 o.2.1 o.2.2.1 o.2.2.2.1 o.2.2.2.2.1 o.2.2.2.2.2.1 o.2.2.2.2.2.2.1 o.2.2.2.2.2.2.2) h (fun a c b hj => q a.1 a.2.1 a.2.2.1 a.2.2.2.1 a.2.2.2.2.1 a.2.2.2.2.2.1 a.2.2.2.2.2.2.1 a.2.2.2.2.2.2.2 c b hj)
theorem c_lawBegin {le : Nat → Int32} {x : Int32} (h0 : 0 ≤ x.toInt) (h1 : x.toInt ≤ 5) : pa (f_X3_lawBegin le x) (fun o => o.toInt = LB le x.toNatClampNeg) := by
  have ex : (x.toNatClampNeg : Int) = x.toInt := cl_k h0
  unfold f_X3_lawBegin LB
  refine pa_if (fun z => pa_ck (fun _ => pa_some ?_)) (fun z => pa_some ?_)
  · have g := k_le (k := 1) rfl z
    have t := sub_k (x := x) (v := 1) (k := 1) rfl (by omega) (by omega)
    have e : ((x - 1).toNatClampNeg : Int) = (x - 1).toInt := cl_k (by omega)
    have e2 : (x - 1).toNatClampNeg = x.toNatClampNeg - 1 := by omega
    rw [if_neg (by omega), e2]
  · have g := k_nle (k := 1) rfl z
    rw [if_pos (by omega)]
    rfl
theorem m_homeOf {live x : Int32} {home : Nat → Int32} (hl : 0 ≤ live.toInt ∧ live.toInt ≤ 1) (h0 : 0 ≤ x.toInt) (h1 : x.toInt ≤ 100) : pa (f_X7_homeOf live home x) (fun o => o = home (6 * live.toNatClampNeg + x.toNatClampNeg)) := by
  unfold f_X7_homeOf
  refine pa_ck (fun _ => pa_some ?_)
  rw [cl_S (k := 6) rfl (by decide) hl h0 h1]
theorem m_needOf {live x : Int32} {need : Nat → Int32} (hl : 0 ≤ live.toInt ∧ live.toInt ≤ 1) (h0 : 0 ≤ x.toInt) (h1 : x.toInt ≤ 100) : pa (f_X7_needOf live need x) (fun o => o = need (6 * live.toNatClampNeg + x.toNatClampNeg)) := by
  unfold f_X7_needOf
  refine pa_ck (fun _ => pa_some ?_)
  rw [cl_S (k := 6) rfl (by decide) hl h0 h1]
set_option maxHeartbeats 4000000 in
theorem j_want {live rd today vi x ib : Int32} {le code5 wanting seen took dry stack vc rains home lf lt_ code ci wants rain va pi : Nat → Int32} {row : Nat → Int64} (hl : 0 ≤ live.toInt ∧ live.toInt ≤ 1) (hx : 0 ≤ x.toInt) (hx1 : x.toInt < vi.toInt) (hv6 : vi.toInt ≤ 6) (hL : LWS live vi le code5 lf lt_ code ci vc) (hh : home (6 * live.toNatClampNeg + x.toNatClampNeg) = vc x.toNatClampNeg) (hvc : 0 ≤ (vc x.toNatClampNeg).toInt ∧ (vc x.toNatClampNeg).toInt < 12) (hWF : WF code ci (hA live lf x) (hA live lt_ x)) (hw : wanting x.toNatClampNeg = wants x.toNatClampNeg) (hwr : -1 ≤ (wants x.toNatClampNeg).toInt) (hT : pa (f_X7_rainOf live rains rain rd) (fun o => o = today)) (h24 : ∀ c : Nat, c < 12 → row (24 + c) = (seen c).toInt64) (h36 : row (36 + x.toNatClampNeg) = (took x.toNatClampNeg).toInt64) (h42 : row (42 + x.toNatClampNeg) = (dry x.toNatClampNeg).toInt64) : pj (f_X0_wantOf today le code5 wanting rd seen took dry stack x) (f_X7_wantOf live rd rains home lf lt_ code ci row wants rain ib va pi x) (fun a b => a.1 = b.1) := by
  have ex : (x.toNatClampNeg : Int) = x.toInt := cl_k hx
  have el : (live.toNatClampNeg : Int) = live.toInt := cl_k hl.1
  have m1 : (-1 : Int32).toInt = -1 := by decide
  unfold f_X0_wantOf f_X7_wantOf
  refine pj_ckl (fun _ => pj_ckr (fun _ => pj_ifl (fun z => ?_) (fun z => ?_)))
  · have z1 := lt_k (k := 0) rfl z
    rw [hw] at z1
    have w1 : wants x.toNatClampNeg = -1 := z_of m1 (by omega)
    refine pj_ifr (fun _ => ?_) (fun y => absurd w1 y)
    have hq := hL x.toNatClampNeg (by omega)
    obtain ⟨⟨l0, l1, l2, l3, l4⟩, lc⟩ := hq
    obtain ⟨wa, wb, D, D0, D1, DD⟩ := hWF
    have s6 : (((6 : Int32) * live) + x).toNatClampNeg = 6 * live.toNatClampNeg + x.toNatClampNeg := cl_S (k := 6) rfl (by decide) hl hx (by omega)
    unfold hA at wa wb D0 D1 DD
    rw [s6] at wa wb D0 D1 DD
    have na : ((lf (6 * live.toNatClampNeg + x.toNatClampNeg)).toNatClampNeg : Int) = (lf (6 * live.toNatClampNeg + x.toNatClampNeg)).toInt := cl_k wa.1
    have nb : ((lt_ (6 * live.toNatClampNeg + x.toNatClampNeg)).toNatClampNeg : Int) = (lt_ (6 * live.toNatClampNeg + x.toNatClampNeg)).toInt := cl_k wb.1
    refine pj_ckl (fun _ => pj_nlg (fun e4 he4 => pj_bl (c_lawBegin hx (by omega)) (fun o5 ho5 => ?_)))
    have he4' : e4 = le x.toNatClampNeg := by
      rw [he4]
      refine if_neg (fun q => ?_)
      have := ti_lt q
      have e400 : (400 : Int32).toInt = 400 := rfl
      omega
    refine pj_br (m_homeOf hl hx (by omega)) (fun o3 ho3 => ?_)
    rw [hh] at ho3
    subst ho3
    have n24 : ((24 : Int32) + vc x.toNatClampNeg).toNatClampNeg = 24 + (vc x.toNatClampNeg).toNatClampNeg := cl_K (k := 24) rfl (by decide) hvc.1 (by omega)
    have n36 : ((36 : Int32) + x).toNatClampNeg = 36 + x.toNatClampNeg := cl_K (k := 36) rfl (by decide) hx (by omega)
    have n42 : ((42 : Int32) + x).toNatClampNeg = 42 + x.toNatClampNeg := cl_K (k := 42) rfl (by decide) hx (by omega)
    have ec : ((vc x.toNatClampNeg).toNatClampNeg : Int) = (vc x.toNatClampNeg).toInt := cl_k hvc.1
    rw [n24, n36, n42, h36, h42, h24 (vc x.toNatClampNeg).toNatClampNeg (by omega), l_32, l_32, l_32]
    refine pj_ckr (fun _ => pj_ckr (fun _ => pj_nrg (fun a6 e6 => pj_ckr (fun _ => pj_nrg (fun a8 e8 => pj_br hT (fun o9 ho9 => pj_ckr (fun _ => pj_nrg (fun a11 e11 => pj_ckr (fun _ => pj_ckr (fun _ => pj_nrg (fun a14 e14 => pj_ckr (fun _ => pj_ckr (fun _ => pj_nrg (fun a17 e17 => ?_))))))))))))))
    have k0 : (0 : Int32).toNatClampNeg = 0 := rfl
    have k1 : (1 : Int32).toNatClampNeg = 1 := rfl
    have k2 : (2 : Int32).toNatClampNeg = 2 := rfl
    have k3 : (3 : Int32).toNatClampNeg = 3 := rfl
    have k4 : (4 : Int32).toNatClampNeg = 4 := rfl
    rw [k0] at e6
    rw [k1] at e8
    rw [k2] at e11
    rw [k3] at e14
    rw [k4] at e17
    refine j_w95 (w0 := seen (vc x.toNatClampNeg).toNatClampNeg) (w1 := rd) (w2 := today) (w3 := took x.toNatClampNeg) (w4 := dry x.toNatClampNeg) (fun vars pile ib2 hv => ?_) fuel ib a17 pi 0 0 rfl (by decide) ⟨?_, ?_, ?_, ?_, ?_, fun c hc => absurd hc (Nat.not_lt_zero c)⟩
    · obtain ⟨v0, v1, v2, v3, v4, v5⟩ := hv
      unfold f_X7_termOf
      rw [s6]
      obtain ⟨e, he⟩ : ∃ e : Nat, (e : Int) = (le x.toNatClampNeg).toInt := ⟨(le x.toNatClampNeg).toInt.toNat, by omega⟩
      obtain ⟨a, ha⟩ : ∃ a : Nat, (a : Int) = LB le x.toNatClampNeg := ⟨(LB le x.toNatClampNeg).toNat, by omega⟩
      have qa : (lf (6 * live.toNatClampNeg + x.toNatClampNeg)).toNatClampNeg = 420 * live.toNatClampNeg + a := by omega
      have qb : (lt_ (6 * live.toNatClampNeg + x.toNatClampNeg)).toNatClampNeg = 420 * live.toNatClampNeg + e := by omega
      rw [qa] at D0 DD
      rw [qb] at D1
      refine j_term (own := vc x.toNatClampNeg) (v := x.toNatClampNeg) (B := 420 * live.toNatClampNeg) (a := a) (e := e) ⟨v0, v1, v2, v3, v4, fun c hc => ?_⟩ hvc rfl (by omega) (by rw [he4']; exact he.symm) (by omega) (by omega) D D1 (fun i i0 i1 => ?_) (fun i i0 i1 => lc i (by omega) (by omega)) fuel fuel stack pile 0 0 o5 _ a (by omega) (by omega) (Nat.le_refl _) (by omega) D0.symm (fun j hj => absurd hj (by show ¬ (j : Int) < 0; omega))
      · rw [v5 c hc, h24 c hc, l_32]
      · have d := DD i (by omega) (by omega)
        exact ⟨fun q => ⟨(d.2.1 q).1, (d.2.1 q).2.1, (d.2.1 q).2.2.1⟩, d.2.2⟩
    · rw [e17, up_ne (by decide), e14, up_ne (by decide), e11, up_ne (by decide), e8, up_ne (by decide), e6, up_at]
    · rw [e17, up_ne (by decide), e14, up_ne (by decide), e11, up_ne (by decide), e8, up_at]
    · rw [e17, up_ne (by decide), e14, up_ne (by decide), e11, up_at]
      exact ho9
    · rw [e17, up_ne (by decide), e14, up_at]
    · rw [e17, up_at]
  · have z1 := nlt_k (k := 0) rfl z
    rw [hw] at z1
    refine pj_ifr (fun y => ?_) (fun _ => pj_ckl (fun _ => pj_ckr (fun _ => pj_ss hw)))
    have := z_eq m1 y
    omega
/-- the reference's pump -/
def pump7 (day pc pm pf pt ib : Int32) (ta : Int64) (va pi : Nat → Int32) (row tk : Nat → Int64) (di wl : Nat → Int32) : Option MT := if pc < (0 : Int32) then (some (ib, ta, va, pi, row, tk, di, wl)) else (bd (f_X7_in day pf pt) (fun o_4 => if o_4 = (0 : Int32) then (some (ib, ta, va, pi, row, tk, di, wl)) else (ck (inb pc 60) (if (0 : Int32) ≤ (lg_cmp (row pc.toNatClampNeg) pm.toInt64) then (f_X7_takes_b319 ib ta va pi row tk di wl pc pm.toInt64) else (ck (inb pc 60) (f_X7_takes_b319 ib ta va pi row tk di wl pc (row pc.toNatClampNeg)))))))
set_option maxHeartbeats 8000000 in
theorem j_tk {γ : Type} {K : CT → Option γ} {R : γ → MT → Prop} {today vi day live ch ca_ pc pm pf pt ce : Int32} {B : Int} {vc nd le code5 wanting seen rains villages home need lf lt_ code ci wants off rain : Nat → Int32} (hl : 0 ≤ live.toInt ∧ live.toInt ≤ 1) (hvi : villages live.toNatClampNeg = vi) (hv6 : 0 ≤ vi.toInt ∧ vi.toInt ≤ 6) (hce : ce.toInt ≤ 12) (hB : 0 ≤ B ∧ B ≤ 2000000000) (hd : 0 ≤ day.toInt)
    (hvc : ∀ v : Nat, (v : Int) < vi.toInt → home (6 * live.toNatClampNeg + v) = vc v ∧ 0 ≤ (vc v).toInt ∧ (vc v).toInt < ce.toInt) (hnd : ∀ v : Nat, (v : Int) < vi.toInt → need (6 * live.toNatClampNeg + v) = nd v ∧ 0 ≤ (nd v).toInt ∧ (nd v).toInt ≤ 99)
    (hpl : ∀ y : Int32, 0 ≤ y.toInt → y.toInt < vi.toInt → (OF ch ca_ off y → wanting y.toNatClampNeg = -2) ∧ (¬ OF ch ca_ off y → ¬ wanting y.toNatClampNeg = -2))
    (hW : ∀ (x : Int32) (stack took dry : Nat → Int32) (row : Nat → Int64) (ib : Int32) (va pi : Nat → Int32), 0 ≤ x.toInt → x.toInt < vi.toInt → ¬ OF ch ca_ off x → (∀ c : Nat, c < 12 → row (24 + c) = (seen c).toInt64) → row (36 + x.toNatClampNeg) = (took x.toNatClampNeg).toInt64 → row (42 + x.toNatClampNeg) = (dry x.toNatClampNeg).toInt64 → pj (f_X0_wantOf today le code5 wanting day seen took dry stack x) (f_X7_wantOf live day rains home lf lt_ code ci row wants rain ib va pi x) (fun a b => a.1 = b.1 ∧ 0 ≤ a.1.toInt))
    (hend : ∀ (lacked stack water : Nat → Int32) (salt : Nat → Int64) (took dry first total : Nat → Int32) (ib : Int32) (ta : Int64) (va pi : Nat → Int32) (row tk : Nat → Int64) (di wl : Nat → Int32), IV ce.toInt vi.toInt B ch ca_ off vi.toInt lacked water salt seen took dry first total row tk di wl → pj (K (lacked, stack, water, salt, took, dry, first, total)) (pump7 day pc pm pf pt ib ta va pi row tk di wl) R) :
    ∀ (n m : Nat) (lacked stack water : Nat → Int32) (salt : Nat → Int64) (took dry first total : Nat → Int32) (ib : Int32) (ta : Int64) (va pi : Nat → Int32) (row tk : Nat → Int64) (di wl : Nat → Int32) (x : Int32), 0 ≤ x.toInt → x.toInt ≤ vi.toInt → IV ce.toInt vi.toInt B ch ca_ off x.toInt lacked water salt seen took dry first total row tk di wl → px (f_X0_takeTurns_b2 today vi vc nd le code5 wanting day seen n lacked stack water salt took dry first total x) K (f_X7_takes_b2 live day ch ca_ pc pm pf pt rains villages home need lf lt_ code ci wants off rain m ib ta va pi row tk di wl x) R := by
  intro n
  induction n with
  | zero => intro m lacked stack water salt took dry first total ib ta va pi row tk di wl x _ _ _; exact px_none
  | succ n ih =>
    intro m lacked stack water salt took dry first total ib ta va pi row tk di wl x hx0 hx1 hI
    cases m with
    | zero => exact px_nr
    | succ m =>
    show px (f_X0_takeTurns_b2_st (f_X0_takeTurns_b2 today vi vc nd le code5 wanting day seen n) today vi vc nd le code5 wanting day seen lacked stack water salt took dry first total x) K (f_X7_takes_b2_st (f_X7_takes_b2 live day ch ca_ pc pm pf pt rains villages home need lf lt_ code ci wants off rain m) live day ch ca_ pc pm pf pt rains villages home need lf lt_ code ci wants off rain ib ta va pi row tk di wl x) R
    have ex : (x.toNatClampNeg : Int) = x.toInt := cl_k hx0
    unfold f_X0_takeTurns_b2_st f_X7_takes_b2_st
    by_cases hx2 : x.toInt = vi.toInt
    · refine pj_ckr (fun _ => pj_ifr (fun _ => ?_) (fun z => ?_))
      · refine px_if (fun _ => px_some ?_) (fun z => ?_)
        · rw [hx2] at hI
          exact hend lacked stack water salt took dry first total ib ta va pi row tk di wl hI
        · have := ti_nle z
          omega
      · have := ti_nle z
        rw [hvi] at this
        omega
    have hx3 : x.toInt < vi.toInt := by omega
    have t1 := add_k (x := x) (v := 1) (k := 1) rfl (by omega) (by omega)
    obtain ⟨v1, v2, v3⟩ := hvc x.toNatClampNeg (by omega)
    obtain ⟨n1, n2, n3⟩ := hnd x.toNatClampNeg (by omega)
    have eC : ((vc x.toNatClampNeg).toNatClampNeg : Int) = (vc x.toNatClampNeg).toInt := cl_k v2
    obtain ⟨i1, i2, i3, i4, i5⟩ := id hI
    have w0 := i2 (vc x.toNatClampNeg).toNatClampNeg (by omega)
    have wr := (i1 (vc x.toNatClampNeg).toNatClampNeg (by omega)).1
    have wt : (row (vc x.toNatClampNeg).toNatClampNeg).toInt = (water (vc x.toNatClampNeg).toNatClampNeg).toInt := l_ti wr
    have DVx := i4 x.toNatClampNeg (by omega)
    have e64n := Jvm.Kit.i64_of_i32 (nd x.toNatClampNeg)
    have mneed : pa (f_X7_needOf live need x) (fun o => o = nd x.toNatClampNeg) := pa_w (m_needOf hl hx0 (by omega)) (fun o ho => ho.trans n1)
    obtain ⟨p1, p2⟩ := hpl x hx0 hx3
    refine pj_ckr (fun _ => pj_ifr (fun z => ?_) (fun z => ?_))
    · have := ti_le z
      rw [hvi] at this
      omega
    refine pj_br (pa_w (m_homeOf hl hx0 (by omega)) (fun o ho => ho.trans v1)) (fun o9 ho9 => pj_ckr (fun _ => pj_br mneed (fun o11 ho11 => ?_)))
    subst ho9
    subst ho11
    have b47 : ∀ t2 : Int32, (vp_nar .boolean t2 = 0 ↔ (nd x.toNatClampNeg).toInt ≤ (water (vc x.toNatClampNeg).toNatClampNeg).toInt) → px (if vi ≤ x then (some (lacked, stack, water, salt, took, dry, first, total)) else (ck (inb x 6) (ck (inb x 6) (if (wanting x.toNatClampNeg) = (-2 : Int32) then (f_X0_takeTurns_b42 (f_X0_takeTurns_b2 today vi vc nd le code5 wanting day seen n) today vi vc nd le code5 wanting day seen lacked stack water salt took dry first total x (vc x.toNatClampNeg) (0 : Int32)) else (f_X0_takeTurns_b42 (f_X0_takeTurns_b2 today vi vc nd le code5 wanting day seen n) today vi vc nd le code5 wanting day seen lacked stack water salt took dry first total x (vc x.toNatClampNeg) (1 : Int32)))))) K (f_X7_takes_b47 (f_X7_takes_b2 live day ch ca_ pc pm pf pt rains villages home need lf lt_ code ci wants off rain m) live day ch ca_ pc pm pf pt rains villages home need lf lt_ code ci wants off rain ib ta va pi row tk di wl x (vc x.toNatClampNeg) x t2) R := by
      intro t2 ht2
      unfold f_X7_takes_b47
      refine pj_ckr (fun _ => pj_nrg (fun wl' ewl => pj_ckr (fun _ => ?_)))
      have wl1 : wl' x.toNatClampNeg = vp_nar .boolean t2 := by rw [ewl, up_at]
      have wl2 : ∀ j, ¬ j = x.toNatClampNeg → wl' j = wl j := fun j hj => by rw [ewl, up_ne hj]
      by_cases hof : OF ch ca_ off x
      · have goal1 : px (if vi ≤ x then (some (lacked, stack, water, salt, took, dry, first, total)) else (ck (inb x 6) (ck (inb x 6) (if (wanting x.toNatClampNeg) = (-2 : Int32) then (f_X0_takeTurns_b42 (f_X0_takeTurns_b2 today vi vc nd le code5 wanting day seen n) today vi vc nd le code5 wanting day seen lacked stack water salt took dry first total x (vc x.toNatClampNeg) (0 : Int32)) else (f_X0_takeTurns_b42 (f_X0_takeTurns_b2 today vi vc nd le code5 wanting day seen n) today vi vc nd le code5 wanting day seen lacked stack water salt took dry first total x (vc x.toNatClampNeg) (1 : Int32)))))) K (f_X7_takes_b77 (f_X7_takes_b2 live day ch ca_ pc pm pf pt rains villages home need lf lt_ code ci wants off rain m) live day ch ca_ pc pm pf pt rains villages home need lf lt_ code ci wants off rain ib ta va pi row tk di wl' x (vc x.toNatClampNeg) (1 : Int32)) R := by
          refine px_if (fun q => ?_) (fun _ => px_ck (fun _ => px_ck (fun _ => px_if (fun _ => ?_) (fun q => absurd (p1 hof) q))))
          · have := ti_le q
            omega
          unfold f_X7_takes_b77 f_X0_takeTurns_b42
          refine pj_ifr (fun q => absurd q (by decide)) (fun _ => px_if (fun _ => ?_) (fun q => absurd rfl q))
          refine px_61 (u := 0) (by decide) w0 (fun _ => rfl) (fun q => absurd rfl q) (fun lacked' water' salt' took' dry' first' total' hs => ?_)
          refine pj_92 (u := (0 : Int32).toInt64) _ ⟨hx0, by omega⟩ ⟨v2, by omega⟩ mneed (fun _ => rfl) (fun q => absurd (Int64.le_iff_toInt_le.mpr (by rw [wt]; exact w0)) q) (fun row' tk' di' hr => ?_)
          have me := mi2_ti (water (vc x.toNatClampNeg).toNatClampNeg) 999
          have e9 : (999 : Int32).toInt = 999 := rfl
          rw [e9] at me
          refine ih m _ _ _ _ _ _ _ _ _ _ _ _ _ _ _ _ (x + 1) (by omega) (by omega) ?_
          rw [t1]
          refine IV_step hce hv6.2 ⟨hx0, by omega⟩ (by omega) hB hd hI hs hr ⟨fun q => absurd rfl q.1, fun q => absurd q.1 (by decide)⟩ ⟨by decide, w0⟩ ⟨fun _ => ⟨?_, ?_, ?_⟩, fun q => absurd hof q, ?_⟩ wl2
          · refine hs.2.2.1.trans (Iff.trans (b := (nd x.toNatClampNeg).toInt ≤ (water (vc x.toNatClampNeg).toNatClampNeg).toInt) ?_ (by rw [wl1]; exact ht2.symm))
            refine ⟨fun q => ?_, fun q => Int32.le_iff_toInt_le.mpr ?_⟩
            · have q1 := ti_le q
              by_cases y : (water (vc x.toNatClampNeg).toNatClampNeg).toInt < 999
              · rw [if_pos y] at me; omega
              · omega
            · by_cases y : (water (vc x.toNatClampNeg).toNatClampNeg).toInt < 999
              · rw [if_pos y] at me; omega
              · rw [if_neg y] at me; omega
          · exact hr.2.2.2.2.2.2.2.2.2.mpr (fun q => absurd q.1 (by decide))
          · exact hs.2.2.2.2.2.1
          · rw [hr.2.2.2.2.2.2.2.2.1, hs.2.2.2.2.2.1]
        refine pj_ifr (fun a => pj_ifr (fun b => pj_ifr (fun _ => goal1) (fun c => ?_)) (fun b => ?_)) (fun _ => goal1)
        · exact absurd hof (fun q => q.elim (fun k => k a) (fun k => c k.2))
        · exact absurd hof (fun q => q.elim (fun k => k a) (fun k => b k.1))
      · have goal0 : px (if vi ≤ x then (some (lacked, stack, water, salt, took, dry, first, total)) else (ck (inb x 6) (ck (inb x 6) (if (wanting x.toNatClampNeg) = (-2 : Int32) then (f_X0_takeTurns_b42 (f_X0_takeTurns_b2 today vi vc nd le code5 wanting day seen n) today vi vc nd le code5 wanting day seen lacked stack water salt took dry first total x (vc x.toNatClampNeg) (0 : Int32)) else (f_X0_takeTurns_b42 (f_X0_takeTurns_b2 today vi vc nd le code5 wanting day seen n) today vi vc nd le code5 wanting day seen lacked stack water salt took dry first total x (vc x.toNatClampNeg) (1 : Int32)))))) K (f_X7_takes_b77 (f_X7_takes_b2 live day ch ca_ pc pm pf pt rains villages home need lf lt_ code ci wants off rain m) live day ch ca_ pc pm pf pt rains villages home need lf lt_ code ci wants off rain ib ta va pi row tk di wl' x (vc x.toNatClampNeg) (0 : Int32)) R := by
          refine px_if (fun q => ?_) (fun _ => px_ck (fun _ => px_ck (fun _ => px_if (fun q => absurd q (p2 hof)) (fun _ => ?_))))
          · have := ti_le q
            omega
          unfold f_X7_takes_b77 f_X0_takeTurns_b42
          refine pj_ifr (fun _ => px_if (fun q => absurd q (by decide)) (fun _ => ?_)) (fun q => absurd rfl q)
          refine px_b24 (hW x stack took dry row ib va pi hx0 hx3 hof i3 DVx.1 DVx.2.1) (fun a0 a1 b0 b1 b2 b3 hab => ?_)
          obtain ⟨hab1, hab2⟩ := hab
          have hab1 : a0 = b0 := hab1
          have hab2 : 0 ≤ a0.toInt := hab2
          subst hab1
          have me := mi2_ti (water (vc x.toNatClampNeg).toNatClampNeg) a0
          have ea := Jvm.Kit.i64_of_i32 a0
          have em := Jvm.Kit.i64_of_i32 (mi2 (water (vc x.toNatClampNeg).toNatClampNeg) a0)
          refine px_61 (u := mi2 (water (vc x.toNatClampNeg).toNatClampNeg) a0) hab2 w0 (fun q => absurd q (by decide)) (fun _ => rfl) (fun lacked' water' salt' took' dry' first' total' hs => ?_)
          refine pj_92 (u := (mi2 (water (vc x.toNatClampNeg).toNatClampNeg) a0).toInt64) _ ⟨hx0, by omega⟩ ⟨v2, by omega⟩ mneed (fun q => ?_) (fun q => ?_) (fun row' tk' di' hr => ?_)
          · have q1 := Int64.le_iff_toInt_le.mp q
            rw [if_neg (by omega)] at me
            exact Int64.toInt_inj.mp (by omega)
          · have q1 : ¬ a0.toInt64.toInt ≤ (row (vc x.toNatClampNeg).toNatClampNeg).toInt := fun k => q (Int64.le_iff_toInt_le.mpr k)
            rw [if_pos (by omega)] at me
            exact Int64.toInt_inj.mp (by omega)
          have nm_ : nd x.toNatClampNeg ≤ mi2 (water (vc x.toNatClampNeg).toNatClampNeg) a0 ↔ (nd x.toNatClampNeg).toInt64 ≤ (mi2 (water (vc x.toNatClampNeg).toNatClampNeg) a0).toInt64 := by
            rw [Int32.le_iff_toInt_le, Int64.le_iff_toInt_le, e64n, em]
          refine ih m _ _ _ _ _ _ _ _ _ _ _ _ _ _ _ _ (x + 1) (by omega) (by omega) ?_
          rw [t1]
          refine IV_step hce hv6.2 ⟨hx0, by omega⟩ (by omega) hB hd hI hs hr ⟨fun q => ⟨rfl, fun k => q.2 (nm_.mpr k)⟩, fun q => ⟨by decide, fun k => q.2 (nm_.mp k)⟩⟩ ?_ ⟨fun q => absurd q hof, fun _ => ?_, ?_⟩ wl2
          · by_cases y : (water (vc x.toNatClampNeg).toNatClampNeg).toInt < a0.toInt
            · rw [if_pos y] at me; exact ⟨by omega, by omega⟩
            · rw [if_neg y] at me; exact ⟨by omega, by omega⟩
          · refine hs.2.2.1.trans (Iff.trans ?_ hr.2.2.2.2.2.2.2.2.2.symm)
            exact ⟨fun q k => k.2 (nm_.mp q), fun q => nm_.mpr (Decidable.byContradiction (fun k => q ⟨rfl, k⟩))⟩
          · rw [hr.2.2.2.2.2.2.2.2.1, hs.2.2.2.2.2.1]
        exact pj_ifr (fun a => pj_ifr (fun b => pj_ifr (fun c => absurd (Or.inr ⟨b, c⟩) hof) (fun _ => goal0)) (fun _ => goal0)) (fun a => absurd (Or.inl a) hof)
    refine pj_ifr (fun q => b47 0 ?_) (fun q => b47 1 ?_)
    · have q1 := Int64.le_iff_toInt_le.mp ((lg_cmp_ge _ _).mp q)
      exact ⟨fun _ => by omega, fun _ => nar0⟩
    · have q1 : ¬ (nd x.toNatClampNeg).toInt64.toInt ≤ (row (vc x.toNatClampNeg).toNatClampNeg).toInt := fun k => q ((lg_cmp_ge _ _).mpr (Int64.le_iff_toInt_le.mpr k))
      exact ⟨fun k => absurd (nar1.symm.trans k) (by decide), fun k => absurd k (by omega)⟩
