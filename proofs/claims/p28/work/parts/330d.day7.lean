theorem s_X7_takesOut (row : Nat → Int64) (q1 : Int32) (q2 : Int64) (hq : rg q1 0 11) (hn : ¬ q2.toInt = 0 → ¬ (row q1.toNatClampNeg).toInt = 0) : ok (f_X7_takesOut row q1 q2) (fun o => ∀ j, j < 12 → o j = if j = q1.toNatClampNeg then row j - q2 else row j) := by
  unfold f_X7_takesOut
  have h12 : rg ((12 : Int32) + q1) 12 23 := rg_add (e := 12) (f := 23) (show rg (12 : Int32) 12 12 from ⟨by decide, by decide⟩) hq (by decide) (by decide) (by decide) (by decide)
  have e12 := cl_12 hq
  refine ok_if (fun c => ok_some (fun j _ => ?_)) (fun c => ?_)
  · have e := (lg_cmp_eq _ _).mp c
    show row j = _
    by_cases w : j = q1.toNatClampNeg
    · rw [if_pos w, e]
      exact (Int64.sub_zero _).symm
    · rw [if_neg w]
  · have c2 : ¬ q2.toInt = 0 := fun q => c ((lg_cmp_eq _ _).mpr (Int64.toInt_inj.mp q))
    refine ok_ck (inb_rg h12 (by decide) (by decide)) (ok_ck (inb_rg h12 (by decide) (by decide)) (ok_ck (inb_rg hq (by decide) (by decide)) (ok_ck (nzl_of (hn c2)) (ok_ck (inb_rg h12 (by decide) (by decide)) (ok_nm (fun a7 e7 => ?_))))))
    refine ok_ck (inb_rg hq (by decide) (by decide)) (ok_ck (inb_rg hq (by decide) (by decide)) (ok_nm (fun a10 e10 => ok_some (fun j hj => ?_))))
    show a10 j = _
    have e1 := cl_e hq (by decide)
    have h11 := hq.2
    have n1 : q1.toNatClampNeg ≠ ((12 : Int32) + q1).toNatClampNeg := by omega
    have n2 : j ≠ ((12 : Int32) + q1).toNatClampNeg := by omega
    rw [e10, vp_updL]
    by_cases w : j = q1.toNatClampNeg
    · rw [if_pos w, if_pos w, e7, uL_ne n1, w]
    · rw [if_neg w, if_neg w, e7, uL_ne n2]
theorem RW_eq {live : Int32} {cells room : Nat → Int32} {row row' : Nat → Int64} {M : Int} (g : GC live cells room) (h : RW live cells room row M) (e : ∀ j, j < 12 → row' j = row j) : RW live cells room row' M := by
  intro x h0 h1
  have hx := g.lt h0 h1
  rw [e _ (cl_n hx (by decide) (by decide))]
  exact h x h0 h1
theorem RW_sub {live : Int32} {cells room : Nat → Int32} {row row' : Nat → Int64} {M : Int} {c : Int32} {u : Int64} (g : GC live cells room) (h : RW live cells room row M) (hM : M ≤ 1000000000) (hc0 : 0 ≤ c.toInt) (hc1 : c.toInt < nC live cells) (hu0 : 0 ≤ u.toInt) (hu : u.toInt ≤ (row c.toNatClampNeg).toInt) (e : ∀ j, j < 12 → row' j = if j = c.toNatClampNeg then row j - u else row j) : RW live cells room row' M := by
  intro x h0 h1
  have hx := g.lt h0 h1
  have k := h x h0 h1
  rw [e _ (cl_n hx (by decide) (by decide))]
  by_cases w : x = c
  · subst w
    have rr := g.2.2 x h0 h1
    have hb : (M + 1) * (rO live room x).toInt ≤ 1000000001 * 9 := Int.mul_le_mul (by omega) rr.2 (by have := rr.1; omega) (by decide)
    rw [if_pos rfl, Jvm.Kit.i64_sub (by omega) (by omega)]
    omega
  · rw [if_neg (fun q => w (cl_inj h0 hc0 q))]
    exact k
abbrev hA (live : Int32) (a : Nat → Int32) (x : Int32) : Int32 := a (((6 : Int32) * live) + x).toNatClampNeg
theorem s_X7_homeOf (live : Int32) (home : Nat → Int32) (q1 : Int32) (h : rg live 0 1) (hq : rg q1 0 5) : ok (f_X7_homeOf live home q1) (fun o => o = hA live home q1) := by
  unfold f_X7_homeOf
  exact ok_ck (inb_rg (in_side (k := 6) rfl (by decide) h hq (by decide)) (by decide) (by decide)) (ok_some rfl)
theorem s_X7_needOf (live : Int32) (need : Nat → Int32) (q1 : Int32) (h : rg live 0 1) (hq : rg q1 0 5) : ok (f_X7_needOf live need q1) (fun o => o = hA live need q1) := by
  unfold f_X7_needOf
  exact ok_ck (inb_rg (in_side (k := 6) rfl (by decide) h hq (by decide)) (by decide) (by decide)) (ok_some rfl)
abbrev K2 : Type := Int32 → Int64 → (Nat → Int32) → (Nat → Int32) → (Nat → Int64) → (Nat → Int64) → (Nat → Int32) → (Nat → Int32) → Int32 → Option (Int32 × Int64 × (Nat → Int32) × (Nat → Int32) × (Nat → Int64) × (Nat → Int64) × (Nat → Int32) × (Nat → Int32))
theorem in60 {x : Int32} (hx : rg x 0 5) {K : Int32} {k : Int} (hK : K.toInt = k) (hk : 36 ≤ k ∧ k ≤ 54) : rg (K + x) k (k + 5) ∧ 12 ≤ (K + x).toNatClampNeg := by
  have hKr : rg K k k := ⟨by omega, by omega⟩
  have h := rg_add (e := k) (f := k + 5) hKr hx (by omega) rfl (by omega) (by omega)
  have e := cl_e h (by omega)
  have := h.1
  exact ⟨h, by omega⟩
theorem s_tk166 {live rd ch ca_ pc pm pf pt : Int32} {rains villages home need lf lt_ code ci wants off rain : Nat → Int32} {ib : Int32} {ta : Int64} {va pi : Nat → Int32} {row tk : Nat → Int64} {di wl : Nat → Int32} {x1 : Int32} {x4 : Int64} {t2 : Int32} {P : Int32 × Int64 × (Nat → Int32) × (Nat → Int32) × (Nat → Int64) × (Nat → Int64) × (Nat → Int32) × (Nat → Int32) → Prop} (k2 : K2) (hx : rg x1 0 5) (hk : ∀ row' di', (∀ j, j < 12 → row' j = row j) → ok (k2 ib ta va pi row' tk di' wl (x1 + 1)) P) : ok (f_X7_takes_b166 k2 live rd ch ca_ pc pm pf pt rains villages home need lf lt_ code ci wants off rain ib ta va pi row tk di wl x1 x4 x1 t2) P := by
  unfold f_X7_takes_b166
  have h36 := in60 hx (K := 36) rfl (by decide)
  have h42 := in60 hx (K := 42) rfl (by decide)
  have h48 := in60 hx (K := 48) rfl (by decide)
  have h54 := in60 hx (K := 54) rfl (by decide)
  refine ok_ck (inb_rg hx (by decide) (by decide)) (ok_nm (fun a2 _ => ok_ck (inb_rg h36.1 (by decide) (by decide)) (ok_nm (fun a4 e4 => ?_))))
  refine ok_ck (inb_rg h54.1 (by decide) (by decide)) (ok_ck (inb_rg h54.1 (by decide) (by decide)) (ok_nm (fun a7 e7 => ?_)))
  have k7 : ∀ j, j < 12 → a7 j = row j := fun j hj => by rw [e7, uL_ne (by omega), e4, uL_ne (by omega)]
  refine ok_ck (inb_rg hx (by decide) (by decide)) (ok_if (fun _ => hk a7 a2 k7) (fun _ => ?_))
  refine ok_ck (inb_rg h42.1 (by decide) (by decide)) (ok_ck (inb_rg h42.1 (by decide) (by decide)) (ok_nm (fun a12 e12 => ?_)))
  have k12 : ∀ j, j < 12 → a12 j = row j := fun j hj => by rw [e12, uL_ne (by omega), k7 j hj]
  refine ok_ck (inb_rg h48.1 (by decide) (by decide)) (ok_if (fun _ => ?_) (fun _ => hk a12 a2 k12))
  refine ok_ck (inb_rg h48.1 (by decide) (by decide)) (ok_nm (fun a16 e16 => hk a16 a2 (fun j hj => ?_)))
  rw [e16, uL_ne (by omega), k12 j hj]
theorem s_tk92 {live rd ch ca_ pc pm pf pt : Int32} {cells room rains villages home need lf lt_ code ci wants off rain : Nat → Int32} {ib : Int32} {ta : Int64} {va pi : Nat → Int32} {row tk : Nat → Int64} {di wl : Nat → Int32} {x1 x2 x3 : Int32} {t0 : Int64} {M : Int} {P : Int32 × Int64 × (Nat → Int32) × (Nat → Int32) × (Nat → Int64) × (Nat → Int64) × (Nat → Int32) × (Nat → Int32) → Prop} (k2 : K2) (g : GC live cells room) (hr : RW live cells room row M) (hM : M ≤ 1000000000) (hx : rg x1 0 5) (h20 : 0 ≤ x2.toInt) (h21 : x2.toInt < nC live cells) (ht : 0 ≤ t0.toInt) (hk : ∀ ta' row' tk' di', RW live cells room row' M → ok (k2 ib ta' va pi row' tk' di' wl (x1 + 1)) P) : ok (f_X7_takes_b92 k2 live rd ch ca_ pc pm pf pt rains villages home need lf lt_ code ci wants off rain ib ta va pi row tk di wl x1 x2 x3 t0) P := by
  have h2 := g.lt h20 h21
  have hw := hr x2 h20 h21
  have b114 : ∀ u : Int64, 0 ≤ u.toInt → u.toInt ≤ (row x2.toNatClampNeg).toInt → ok (f_X7_takes_b114 k2 live rd ch ca_ pc pm pf pt rains villages home need lf lt_ code ci wants off rain ib ta va pi row tk di wl x1 x2 x3 u) P := by
    intro u u0 u1
    unfold f_X7_takes_b114
    refine ok_bd (s_X7_takesOut row x2 u h2 (fun _ => by omega)) (fun o1 ho => ?_)
    have r1 := RW_sub g hr hM h20 h21 u0 u1 ho
    refine ok_ck (inb_rg hx (by decide) (by decide)) (ok_nm (fun a3 _ => ?_))
    refine ok_if (fun _ => ok_bd (s_X7_needOf live need x1 g.1 hx) (fun o5 _ => ok_if (fun _ => ?_) (fun _ => ?_))) (fun _ => ?_)
    · exact s_tk166 k2 hx (fun row' di' e => hk _ _ _ _ (RW_eq g r1 e))
    · exact s_tk166 k2 hx (fun row' di' e => hk _ _ _ _ (RW_eq g r1 e))
    · exact s_tk166 k2 hx (fun row' di' e => hk _ _ _ _ (RW_eq g r1 e))
  have h60 : rg x2 0 59 := rg_w h2 (by decide) (by decide)
  unfold f_X7_takes_b92
  refine ok_ck (inb_rg h60 (by decide) (by decide)) (ok_if (fun d => ?_) (fun d => ok_ck (inb_rg h60 (by decide) (by decide)) (b114 _ hw.1 (Int.le_refl _))))
  exact b114 _ ht (Int64.le_iff_toInt_le.mp ((lg_cmp_le _ _).mp d))
theorem s_tk2 {live rd ch ca_ pc pm pf pt : Int32} {cells room rains villages home need lf lt_ code ci wants off rain : Nat → Int32} {M : Int} (g : GC live cells room) (hM : M ≤ 1000000000) (hv : rg (villages live.toNatClampNeg) 0 6) (hh : ∀ x : Int32, 0 ≤ x.toInt → x.toInt < (villages live.toNatClampNeg).toInt → 0 ≤ (hA live home x).toInt ∧ (hA live home x).toInt < nC live cells) (hW : ∀ (x : Int32) (row : Nat → Int64) (ib : Int32) (va pi : Nat → Int32), 0 ≤ x.toInt → x.toInt < (villages live.toNatClampNeg).toInt → ok (f_X7_wantOf live rd rains home lf lt_ code ci row wants rain ib va pi x) (fun o => rg o.1 0 9999)) (hp : pc.toInt < nC live cells) (hp0 : 0 ≤ pc.toInt → 0 ≤ pm.toInt) : ∀ (n : Nat) (ib : Int32) (ta : Int64) (va pi : Nat → Int32) (row tk : Nat → Int64) (di wl : Nat → Int32) (x1 : Int32), rg x1 0 6 → RW live cells room row M → (6 - x1.toInt).toNat < n → ok (f_X7_takes_b2 live rd ch ca_ pc pm pf pt rains villages home need lf lt_ code ci wants off rain n ib ta va pi row tk di wl x1) (fun o => RW live cells room o.2.2.2.2.1 M) := by
  intro n
  induction n with
  | zero => intro ib ta va pi row tk di wl x1 _ _ h; exact absurd h (Nat.not_lt_zero _)
  | succ n ih =>
    intro ib ta va pi row tk di wl x1 hx hr hn
    show ok (f_X7_takes_b2_st (f_X7_takes_b2 live rd ch ca_ pc pm pf pt rains villages home need lf lt_ code ci wants off rain n) live rd ch ca_ pc pm pf pt rains villages home need lf lt_ code ci wants off rain ib ta va pi row tk di wl x1) _
    unfold f_X7_takes_b2_st
    refine ok_ck (inb_rg g.1 (by decide) (by decide)) (ok_if (fun c => ?_) (fun c => ?_))
    · refine ok_if (fun _ => ok_some hr) (fun d => ?_)
      have d2 := ti_nlt d
      have e0 : (0 : Int32).toInt = 0 := rfl
      have p0 : 0 ≤ pc.toInt := by omega
      have hpc := g.lt p0 hp
      have hw := hr pc p0 hp
      have h60 : rg pc 0 59 := rg_w hpc (by decide) (by decide)
      have em := Jvm.Kit.i64_of_i32 pm
      have b319 : ∀ u : Int64, 0 ≤ u.toInt → u.toInt ≤ (row pc.toNatClampNeg).toInt → ok (f_X7_takes_b319 ib ta va pi row tk di wl pc u) (fun o => RW live cells room o.2.2.2.2.1 M) := by
        intro u u0 u1
        unfold f_X7_takes_b319
        exact ok_bd (s_X7_takesOut row pc u hpc (fun _ => by omega)) (fun o1 ho => ok_some (RW_sub g hr hM p0 hp u0 u1 ho))
      have hin : ok (f_X7_in rd pf pt) (fun _ => True) := by
        unfold f_X7_in
        exact ok_if (fun _ => ok_some trivial) (fun _ => ok_if (fun _ => ok_some trivial) (fun _ => ok_some trivial))
      refine ok_bd hin (fun o4 _ => ok_if (fun _ => ok_some hr) (fun _ => ok_ck (inb_rg h60 (by decide) (by decide)) (ok_if (fun q => ?_) (fun _ => ok_ck (inb_rg h60 (by decide) (by decide)) (b319 _ hw.1 (Int.le_refl _))))))
      have q2 := Int64.le_iff_toInt_le.mp ((lg_cmp_ge _ _).mp q)
      exact b319 _ (by rw [em]; exact hp0 p0) q2
    · have c2 := ti_nle c
      have hx' : rg x1 0 5 := ⟨hx.1, by have := hv.2; omega⟩
      have s1 := x_suc hx' (by decide)
      have hxa := hx'.1
      have hxb := hx'.2
      have h9 := hh x1 hx.1 c2
      refine ok_bd (s_X7_homeOf live home x1 g.1 hx') (fun o9 e9 => ?_)
      subst e9
      have h60 : rg (hA live home x1) 0 59 := rg_w (g.lt h9.1 h9.2) (by decide) (by decide)
      refine ok_ck (inb_rg h60 (by decide) (by decide)) (ok_bd (s_X7_needOf live need x1 g.1 hx') (fun o11 _ => ?_))
      have kk : ∀ ib ta va pi row' tk di wl, RW live cells room row' M → ok (f_X7_takes_b2 live rd ch ca_ pc pm pf pt rains villages home need lf lt_ code ci wants off rain n ib ta va pi row' tk di wl (x1 + 1)) (fun o => RW live cells room o.2.2.2.2.1 M) := fun ib ta va pi row' tk di wl h => ih ib ta va pi row' tk di wl (x1 + 1) ⟨by have := hx.1; omega, by omega⟩ h (by have := hx.1; omega)
      have b77 : ∀ (wl' : Nat → Int32) (t0 : Int32), ok (f_X7_takes_b77 (f_X7_takes_b2 live rd ch ca_ pc pm pf pt rains villages home need lf lt_ code ci wants off rain n) live rd ch ca_ pc pm pf pt rains villages home need lf lt_ code ci wants off rain ib ta va pi row tk di wl' x1 (hA live home x1) t0) (fun o => RW live cells room o.2.2.2.2.1 M) := by
        intro wl' t0
        unfold f_X7_takes_b77
        refine ok_if (fun _ => ok_bd4 (hW x1 row ib va pi hx.1 c2) (fun a b c' d hq => ?_)) (fun _ => ?_)
        · have ea := Jvm.Kit.i64_of_i32 a
          exact s_tk92 _ g hr hM hx' h9.1 h9.2 (by rw [ea]; exact hq.1) (fun ta' row' tk' di' h => kk _ _ _ _ _ _ _ _ h)
        · exact s_tk92 _ g hr hM hx' h9.1 h9.2 (by decide) (fun ta' row' tk' di' h => kk _ _ _ _ _ _ _ _ h)
      have b47 : ∀ t2 : Int32, ok (f_X7_takes_b47 (f_X7_takes_b2 live rd ch ca_ pc pm pf pt rains villages home need lf lt_ code ci wants off rain n) live rd ch ca_ pc pm pf pt rains villages home need lf lt_ code ci wants off rain ib ta va pi row tk di wl x1 (hA live home x1) x1 t2) (fun o => RW live cells room o.2.2.2.2.1 M) := by
        intro t2
        unfold f_X7_takes_b47
        refine ok_ck (inb_rg hx' (by decide) (by decide)) (ok_nm (fun a2 _ => ok_ck (inb_rg hx' (by decide) (by decide)) (ok_if (fun _ => ok_if (fun _ => ok_if (fun _ => b77 a2 _) (fun _ => b77 a2 _)) (fun _ => b77 a2 _)) (fun _ => b77 a2 _))))
      exact ok_if (fun _ => b47 _) (fun _ => b47 _)
theorem s_X7_takes (live rd ch ca_ pc pm pf pt : Int32) (cells room rains villages home need lf lt_ code ci wants off rain : Nat → Int32) (ib : Int32) (ta : Int64) (va pi : Nat → Int32) (row tk : Nat → Int64) (di wl : Nat → Int32) {M : Int} (g : GC live cells room) (hM : M ≤ 1000000000) (hr : RW live cells room row M) (hv : rg (villages live.toNatClampNeg) 0 6) (hh : ∀ x : Int32, 0 ≤ x.toInt → x.toInt < (villages live.toNatClampNeg).toInt → 0 ≤ (hA live home x).toInt ∧ (hA live home x).toInt < nC live cells) (hW : ∀ (x : Int32) (row : Nat → Int64) (ib : Int32) (va pi : Nat → Int32), 0 ≤ x.toInt → x.toInt < (villages live.toNatClampNeg).toInt → ok (f_X7_wantOf live rd rains home lf lt_ code ci row wants rain ib va pi x) (fun o => rg o.1 0 9999)) (hp : pc.toInt < nC live cells) (hp0 : 0 ≤ pc.toInt → 0 ≤ pm.toInt) : ok (f_X7_takes live rd ch ca_ pc pm pf pt rains villages home need lf lt_ code ci wants off rain ib ta va pi row tk di wl) (fun o => RW live cells room o.2.2.2.2.1 M) := by
  unfold f_X7_takes
  exact s_tk2 g hM hv hh hW hp hp0 _ _ _ _ _ _ _ _ _ _ ⟨by decide, by decide⟩ hr (by decide)
theorem s_X7_rainOf (live : Int32) (rains rain : Nat → Int32) (q1 : Int32) (hl : rg live 0 1) (hn : rg (rains live.toNatClampNeg) 0 14) (hq : 0 ≤ q1.toInt) (hv : ∀ x : Int32, 0 ≤ x.toInt → x.toInt < (rains live.toNatClampNeg).toInt → rg (rain x.toNatClampNeg) 0 99) : ok (f_X7_rainOf live rains rain q1) (fun o => rg o 0 99) := by
  unfold f_X7_rainOf
  refine ok_ck (inb_rg hl (by decide) (by decide)) (ok_if (fun _ => ok_some ⟨by decide, by decide⟩) (fun c => ?_))
  have e0 : (0 : Int32).toInt = 0 := rfl
  have hne : (rains live.toNatClampNeg).toInt ≠ 0 := fun q => c (Int32.toInt_inj.mp q)
  have h1 := hn.1
  have h2 := hn.2
  have r := rem_toInt q1 (rains live.toNatClampNeg)
  have r1 := Int.tmod_nonneg (rains live.toNatClampNeg).toInt hq
  have r2 := Int.tmod_lt_of_pos q1.toInt (show 0 < (rains live.toNatClampNeg).toInt by omega)
  have hi : rg (q1 - q1 / (rains live.toNatClampNeg) * (rains live.toNatClampNeg)) 0 13 := ⟨by omega, by omega⟩
  refine ok_ck (inb_rg hl (by decide) (by decide)) (ok_ck (nz_of c) (ok_ck (inb_rg hi (by decide) (by decide)) (ok_some ?_)))
  exact hv _ hi.1 (by omega)
theorem s_se42 {live rd : Int32} {cells room rains rain : Nat → Int32} {row0 : Nat → Int64} {M : Int} (g : GC live cells room) (hr : RW live cells room row0 M) (hM : M ≤ 1000000000) (hn : rg (rains live.toNatClampNeg) 0 14) (hd : 0 ≤ rd.toInt) (hv : ∀ x : Int32, 0 ≤ x.toInt → x.toInt < (rains live.toNatClampNeg).toInt → rg (rain x.toNatClampNeg) 0 99) : ∀ (n : Nat) (row : Nat → Int64) (x1 : Int32), rg x1 0 12 → (∀ c : Int32, 0 ≤ c.toInt → c.toInt < nC live cells → (c.toInt < x1.toInt → 0 ≤ (row c.toNatClampNeg).toInt ∧ (row c.toNatClampNeg).toInt < (M + 99 + 1) * (rO live room c).toInt) ∧ (x1.toInt ≤ c.toInt → row c.toNatClampNeg = row0 c.toNatClampNeg)) → (12 - x1.toInt).toNat < n → ok (f_X7_sees_b42 live rd cells rains rain n row x1) (fun o => RW live cells room o (M + 99)) := by
  intro n
  induction n with
  | zero => intro row x1 _ _ h; exact absurd h (Nat.not_lt_zero _)
  | succ n ih =>
    intro row x1 hx hI hn'
    show ok (f_X7_sees_b42_st (f_X7_sees_b42 live rd cells rains rain n) live rd cells rains rain row x1) _
    unfold f_X7_sees_b42_st
    refine ok_bd (s_X7_n live cells g.1) (fun o1 ho => ?_)
    subst ho
    have hc := g.2.1
    refine ok_if (fun c => ok_some ?_) (fun c => ?_)
    · have c2 := ti_le c
      intro y h0 h1
      exact (hI y h0 h1).1 (by unfold nC at h1; omega)
    · have c2 := ti_nle c
      have hx' : rg x1 0 11 := ⟨hx.1, by have := hc.2; omega⟩
      have s1 := x_suc hx' (by decide)
      have hxa := hx'.1
      have hxb := hx'.2
      refine ok_ck (inb_rg hx' (by decide) (by decide)) (ok_bd (s_X7_rainOf live rains rain rd g.1 hn hd hv) (fun o4 h4 => ok_ck (inb_rg hx' (by decide) (by decide)) (ok_nm (fun a6 e6 => ?_))))
      refine ih a6 (x1 + 1) ⟨by have := hx.1; omega, by omega⟩ ?_ (by have := hx.1; omega)
      intro y h0 h1
      rw [e6]
      have k := hI y h0 h1
      by_cases w : y = x1
      · subst w
        refine ⟨fun _ => ?_, fun q => absurd q (by omega)⟩
        have wr := hr y h0 h1
        have rr := g.2.2 y h0 h1
        have e := Jvm.Kit.i64_of_i32 o4
        have a1 := h4.1
        have a2 := h4.2
        have hb : (M + 1) * (rO live room y).toInt ≤ 1000000001 * 9 := Int.mul_le_mul (by omega) rr.2 (by have := rr.1; omega) (by decide)
        have e2 : (M + 99 + 1) * (rO live room y).toInt = (M + 1) * (rO live room y).toInt + 99 * (rO live room y).toInt := by
          rw [← Int.add_mul]
          congr 1
          omega
        have := rr.1
        rw [uL_eq, k.2 (Int.le_refl _), Jvm.Kit.i64_add (by omega) (by omega), e2]
        omega
      · rw [uL_ne (fun q => w (cl_inj h0 hx.1 q))]
        have hne2 : y.toInt ≠ x1.toInt := fun q => w (Int32.toInt_inj.mp q)
        exact ⟨fun q => k.1 (by omega), fun q => k.2 (by omega)⟩
theorem s_se12 {live rd : Int32} {cells room rains rain : Nat → Int32} {M : Int} (g : GC live cells room) (hM : M ≤ 1000000000) (hn : rg (rains live.toNatClampNeg) 0 14) (hd : 0 ≤ rd.toInt) (hv : ∀ x : Int32, 0 ≤ x.toInt → x.toInt < (rains live.toNatClampNeg).toInt → rg (rain x.toNatClampNeg) 0 99) : ∀ (n : Nat) (row : Nat → Int64) (x1 : Int32), rg x1 0 12 → RW live cells room row M → (12 - x1.toInt).toNat < n → ok (f_X7_sees_b12 live rd cells room rains rain n row x1) (fun o => RW live cells room o (M + 99)) := by
  intro n
  induction n with
  | zero => intro row x1 _ _ h; exact absurd h (Nat.not_lt_zero _)
  | succ n ih =>
    intro row x1 hx hr hn'
    show ok (f_X7_sees_b12_st (f_X7_sees_b12 live rd cells room rains rain n) live rd cells room rains rain row x1) _
    unfold f_X7_sees_b12_st
    refine ok_bd (s_X7_n live cells g.1) (fun o1 ho => ?_)
    subst ho
    have hc := g.2.1
    have e0 : (0 : Int32).toInt = 0 := rfl
    refine ok_if (fun c => ?_) (fun c => ?_)
    · exact s_se42 g hr hM hn hd hv _ _ _ ⟨by decide, by decide⟩ (fun y h0 h1 => ⟨fun q => absurd q (by omega), fun _ => rfl⟩) (by decide)
    · have c2 := ti_nle c
      have hx' : rg x1 0 11 := ⟨hx.1, by have := hc.2; omega⟩
      have s1 := x_suc hx' (by decide)
      have hxa := hx'.1
      have hxb := hx'.2
      have h24 : rg ((24 : Int32) + x1) 24 35 := rg_add (e := 24) (f := 35) (show rg (24 : Int32) 24 24 from ⟨by decide, by decide⟩) hx' (by decide) (by decide) (by decide) (by decide)
      have e24 := cl_24 hx'
      refine ok_bd (s_X7_level live room row x1 g.1 hx' (g.2.2 _ hx.1 c2) (hr x1 hx.1 c2).1) (fun o3 _ => ok_ck (inb_rg h24 (by decide) (by decide)) (ok_nm (fun a5 e5 => ?_)))
      exact ih a5 (x1 + 1) ⟨by have := hx.1; omega, by omega⟩ (RW_eq g hr (fun j hj => by rw [e5, uL_ne (by omega)])) (by have := hx.1; omega)
theorem s_X7_sees (live rd : Int32) (cells room rains rain : Nat → Int32) (row : Nat → Int64) {M : Int} (g : GC live cells room) (hM : M ≤ 1000000000) (hr : RW live cells room row M) (hn : rg (rains live.toNatClampNeg) 0 14) (hd : 0 ≤ rd.toInt) (hv : ∀ x : Int32, 0 ≤ x.toInt → x.toInt < (rains live.toNatClampNeg).toInt → rg (rain x.toNatClampNeg) 0 99) : ok (f_X7_sees live rd cells room rains rain row) (fun o => RW live cells room o (M + 99)) := by
  unfold f_X7_sees
  have e0 : (0 : Int32).toInt = 0 := rfl
  refine ok_if (fun _ => ?_) (fun _ => ?_)
  · exact s_se12 g hM hn hd hv _ _ _ ⟨by decide, by decide⟩ hr (by decide)
  · exact s_se42 g hr hM hn hd hv _ _ _ ⟨by decide, by decide⟩ (fun y h0 h1 => ⟨fun q => absurd q (by omega), fun _ => rfl⟩) (by decide)
