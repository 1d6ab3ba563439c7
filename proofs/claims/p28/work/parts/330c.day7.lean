theorem s_fl286 {live : Int32} {cells room : Nat → Int32} {row0 more ms : Nat → Int64} {M : Int} (g : GC live cells room) (hr : RW live cells room row0 M) (hM : M ≤ 1000000000) (hm : ∀ c : Int32, 0 ≤ c.toInt → c.toInt < nC live cells → -(8 * Lv live room row0 c) ≤ 10 * (more c.toNatClampNeg).toInt ∧ 10 * (more c.toNatClampNeg).toInt ≤ 8 * (M - Lv live room row0 c)) : ∀ (n : Nat) (ra : Int64) (row : Nat → Int64) (x1 : Int32), rg x1 0 12 → (∀ c : Int32, 0 ≤ c.toInt → c.toInt < nC live cells → (c.toInt < x1.toInt → 0 ≤ (row c.toNatClampNeg).toInt ∧ (row c.toNatClampNeg).toInt < (M + 1) * (rO live room c).toInt) ∧ (x1.toInt ≤ c.toInt → row c.toNatClampNeg = row0 c.toNatClampNeg)) → (12 - x1.toInt).toNat < n → ok (f_X7_flows_b286 live cells n ra row more ms x1) (fun o => RW live cells room o.2.1 M) := by
  intro n
  induction n with
  | zero => intro ra row x1 _ _ h; exact absurd h (Nat.not_lt_zero _)
  | succ n ih =>
    intro ra row x1 hx hI hn
    show ok (f_X7_flows_b286_st (f_X7_flows_b286 live cells n) live cells ra row more ms x1) _
    unfold f_X7_flows_b286_st
    refine ok_bd (s_X7_n live cells g.1) (fun o1 ho => ?_)
    subst ho
    have hc := g.2.1
    refine ok_if (fun c => ok_some ?_) (fun c => ?_)
    · have c2 := ti_le c
      intro y h0 h1
      exact (hI y h0 h1).1 (by unfold nC at h1; omega)
    · have c2 := ti_nle c
      have hx' : rg x1 0 11 := ⟨hx.1, by have := hc.2; omega⟩
      have h12 : rg ((12 : Int32) + x1) 12 23 := rg_add (e := 12) (f := 23) (show rg (12 : Int32) 12 12 from ⟨by decide, by decide⟩) hx' (by decide) (by decide) (by decide) (by decide)
      have s1 := x_suc hx' (by decide)
      have hxa := hx'.1
      have hxb := hx'.2
      refine ok_ck (inb_rg hx' (by decide) (by decide)) (ok_ck (inb_rg hx' (by decide) (by decide)) (ok_ck (inb_rg hx' (by decide) (by decide)) (ok_nm (fun a6 e6 => ?_))))
      refine ok_ck (inb_rg h12 (by decide) (by decide)) (ok_ck (inb_rg hx' (by decide) (by decide)) (ok_ck (inb_rg h12 (by decide) (by decide)) (ok_nm (fun a10 e10 => ?_))))
      refine ih ra a10 (x1 + 1) ⟨by have := hx.1; omega, by omega⟩ ?_ (by have := hx.1; omega)
      intro y h0 h1
      have hy := g.lt h0 h1
      have hne : y.toNatClampNeg ≠ ((12 : Int32) + x1).toNatClampNeg := by
        have := cl_12 hx'
        have e1 := cl_e hy (by decide)
        have := hy.2
        omega
      rw [e10, uL_ne hne, e6]
      by_cases w : y = x1
      · subst w
        refine ⟨fun _ => ?_, fun q => absurd q (by omega)⟩
        rw [uL_eq]
        have k := hI y h0 h1
        rw [k.2 (Int.le_refl _)]
        have b := hm y h0 h1
        have l := hr.lv g h0 h1
        have wr := hr y h0 h1
        have rr := g.2.2 y h0 h1
        have l2 := lev_le rr.1 wr.1 wr.2
        have f := fin_w rr.1 wr.1 l.2.2 l.2.1 l2.2.2.2 b.1 b.2
        have hb : (M + 1) * (rO live room y).toInt ≤ 1000000001 * 9 := Int.mul_le_mul (by omega) rr.2 (by have := rr.1; omega) (by decide)
        rw [Jvm.Kit.i64_add (by omega) (by omega)]
        exact f
      · rw [uL_ne (fun q => w (cl_inj h0 hx.1 q))]
        have k := hI y h0 h1
        have hne2 : y.toInt ≠ x1.toInt := fun q => w (Int32.toInt_inj.mp q)
        exact ⟨fun q => k.1 (by omega), fun q => k.2 (by omega)⟩
theorem s_fl179 {live ch ca_ : Int32} {cells room passes one oth rivers rc rl rw rs : Nat → Int32} {row : Nat → Int64} {M : Int} (g : GC live cells room) (w : GW live cells passes one oth rivers rc rl rw) (hr : RW live cells room row M) (hM0 : 999 ≤ M) (hM : M ≤ 1000000000) : ∀ (n : Nat) (ra : Int64) (more ms : Nat → Int64) (x1 : Int32), rg x1 0 3 → x1.toInt ≤ (rivers live.toNatClampNeg).toInt → MI live cells room row more M (fun c => dgP live one oth c (passes live.toNatClampNeg).toNatClampNeg + dgR live rc c x1.toNatClampNeg) → (3 - x1.toInt).toNat < n → ok (f_X7_flows_b179 live ch ca_ cells room rivers rc rl rw rs n ra row more ms x1) (fun o => RW live cells room o.2.1 M) := by
  intro n
  induction n with
  | zero => intro ra more ms x1 _ _ _ h; exact absurd h (Nat.not_lt_zero _)
  | succ n ih =>
    intro ra more ms x1 hx hle hI hn
    show ok (f_X7_flows_b179_st (f_X7_flows_b179 live ch ca_ cells room rivers rc rl rw rs n) live ch ca_ cells room rivers rc rl rw rs ra row more ms x1) _
    unfold f_X7_flows_b179_st
    refine ok_ck (inb_rg g.1 (by decide) (by decide)) ?_
    have hR := w.2.1
    have ex := cl_e hx (by decide)
    have eR := cl_e hR (by decide)
    have deg0 : ∀ c, 0 ≤ dgP live one oth c (passes live.toNatClampNeg).toNatClampNeg + dgR live rc c x1.toNatClampNeg := fun c => by
      have := dgP_0 live one oth c (passes live.toNatClampNeg).toNatClampNeg
      have := dgR_0 live rc c x1.toNatClampNeg
      omega
    refine ok_if (fun c => ?_) (fun c => ?_)
    · have c2 := ti_le c
      have e : x1.toNatClampNeg = (rivers live.toNatClampNeg).toNatClampNeg := by omega
      refine s_fl286 g hr hM ?_ _ _ _ _ ⟨by decide, by decide⟩ ?_ (by decide)
      · intro y h0 h1
        refine MI_b g hr hI h0 h1 (deg0 y) ?_
        have := w.2.2.2.2 y
        show dgP live one oth y (passes live.toNatClampNeg).toNatClampNeg + dgR live rc y x1.toNatClampNeg ≤ 8
        rw [e]
        exact this
      · intro y h0 h1
        have e0 : (0 : Int32).toInt = 0 := rfl
        exact ⟨fun q => absurd q (by omega), fun _ => rfl⟩
    · have c2 := ti_nle c
      have hx' : rg x1 0 2 := ⟨hx.1, by have := hR.2; omega⟩
      have r := w.2.2.2.1 x1 hx.1 c2
      have hi := in_side (K := 3) (k := 3) rfl (by decide) g.1 hx' (by decide)
      have hc := g.lt r.1 r.2.1
      have s1 := x_suc hx' (by decide)
      have hxa := hx'.1
      have hxb := hx'.2
      have hd : dgP live one oth (rA live rc x1) (passes live.toNatClampNeg).toNatClampNeg + dgR live rc (rA live rc x1) x1.toNatClampNeg ≤ 8 := by
        have a := w.2.2.2.2 (rA live rc x1)
        have b := dgR_mono live rc (rA live rc x1) x1.toNatClampNeg (rivers live.toNatClampNeg).toNatClampNeg (by omega)
        omega
      have eD : (fun c => dgP live one oth c (passes live.toNatClampNeg).toNatClampNeg + dgR live rc c (x1 + 1).toNatClampNeg) = (fun c => dgP live one oth c (passes live.toNatClampNeg).toNatClampNeg + dgR live rc c x1.toNatClampNeg + (if rA live rc x1 = c then 1 else 0)) := by
        funext c
        rw [s1.2, dgR, x_nat hx' (by decide)]
        omega
      have l := hr.lv g r.1 r.2.1
      refine ok_bd (s_X7_byRiver live ch ca_ cells room rc rl rw row x1 g hr hM hx' ⟨r.1, r.2.1⟩ r.2.2.1 r.2.2.2) (fun o3 ho => ?_)
      obtain ⟨f1, f2, f3, f4⟩ := ho
      have hl1 := r.2.2.1.1
      have hl2 := r.2.2.1.2
      refine ok_ck (inb_rg hi (by decide) (by decide)) (ok_nm (fun e5 ee => ?_))
      have ee : e5 = rA live rc x1 := ee
      subst ee
      refine ok_if (fun d => ?_) (fun d => ?_)
      · have d2 := Int64.le_iff_toInt_le.mp ((lg_cmp_ge _ _).mp d)
        have e0 : (0 : Int64).toInt = 0 := rfl
        refine ok_ck (inb_rg hc (by decide) (by decide)) (ok_ck (inb_rg hc (by decide) (by decide)) (ok_nm (fun a9 e9 => ?_)))
        refine ok_ck (inb_rg hc (by decide) (by decide)) (ok_ck (inb_rg hi (by decide) (by decide)) (ok_ck (inb_rg hc (by decide) (by decide)) (ok_nm (fun a13 e13 => ?_))))
        refine ih _ a9 a13 (x1 + 1) ⟨by have := hx.1; omega, by omega⟩ (by omega) ?_ (by have := hx.1; omega)
        rw [eD]
        exact MI_in g hr hM hI r.1 r.2.1 (deg0 _) hd (by omega) (by omega) e9
      · have d2 : o3.toInt < 0 := by
          rcases Int.lt_or_le o3.toInt 0 with q | q
          · exact q
          · exact absurd ((lg_cmp_ge _ _).mpr (Int64.le_iff_toInt_le.mpr (show (0 : Int64).toInt ≤ o3.toInt from q))) d
        have tn : (-o3).toInt = -o3.toInt := Jvm.Kit.i64_neg (by omega)
        refine ok_bd3 (s_X7_leaves row more ms _ (-o3) hc (fun _ => by omega)) (fun a b c' hp => ?_)
        refine ih _ b c' (x1 + 1) ⟨by have := hx.1; omega, by omega⟩ (by omega) ?_ (by have := hx.1; omega)
        rw [eD]
        exact MI_out g hr hM hI r.1 r.2.1 (deg0 _) hd (by omega) (by omega) hp
abbrev K30 : Type := Int64 → (Nat → Int64) → (Nat → Int64) → (Nat → Int64) → Int32 → Option (Int64 × (Nat → Int64) × (Nat → Int64) × (Nat → Int64))
theorem s_fl139 {live ch ca_ : Int32} {cells room passes one oth rivers rc rl rw rs wide : Nat → Int32} {row more ms : Nat → Int64} {ra : Int64} {M : Int} {d : Int32 → Int} {x1 a b : Int32} {u : Int64} {P : Int64 × (Nat → Int64) × (Nat → Int64) × (Nat → Int64) → Prop} (k30 : K30) (g : GC live cells room) (hr : RW live cells room row M) (hM : M ≤ 1000000000) (hI : MI live cells room row more M d) (ha : 0 ≤ a.toInt) (ha1 : a.toInt < nC live cells) (hb : 0 ≤ b.toInt) (hb1 : b.toInt < nC live cells) (hab : ¬ a = b) (hd0 : ∀ c, 0 ≤ d c) (hda : d a ≤ 8) (hdb : d b ≤ 8) (hu0 : 0 ≤ u.toInt) (hu : u.toInt = 0 ∨ 10 * u.toInt ≤ Lv live room row a - Lv live room row b) (hk : ∀ m' s', MI live cells room row m' M (fun c => d c + (if a = c then 1 else 0) + (if b = c then 1 else 0)) → ok (k30 ra row m' s' (x1 + 1)) P) : ok (f_X7_flows_b139 k30 live ch ca_ cells room passes one oth rivers rc rl rw rs wide ra row more ms x1 a b u) P := by
  have ra' := g.lt ha ha1
  have rb' := g.lt hb hb1
  have la := hr.lv g ha ha1
  have lb := hr.lv g hb hb1
  unfold f_X7_flows_b139
  refine ok_ck (inb_rg rb' (by decide) (by decide)) (ok_bd3 (s_X7_leaves row more ms a u ra' (fun _ => by omega)) (fun o0 o1 o2 hp => ?_))
  refine ok_ck (inb_rg rb' (by decide) (by decide)) (ok_nm (fun a4 e4 => ?_))
  refine ok_ck (inb_rg rb' (by decide) (by decide)) (ok_ck (inb_rg rb' (by decide) (by decide)) (ok_nm (fun a7 e7 => ?_)))
  exact hk a7 a4 (MI_pass g hr hM hI ha ha1 hb hb1 hab hd0 hda hdb hu0 hu hp e7)
theorem s_fl30 {live ch ca_ : Int32} {cells room passes one oth rivers rc rl rw rs wide : Nat → Int32} {row : Nat → Int64} {M : Int} (g : GC live cells room) (w : GW live cells passes one oth rivers rc rl rw) (hr : RW live cells room row M) (hM0 : 999 ≤ M) (hM : M ≤ 1000000000) (hw : ∀ x : Int32, 0 ≤ x.toInt → x.toInt < (passes live.toNatClampNeg).toInt → rg (wide x.toNatClampNeg) 0 10) : ∀ (n : Nat) (ra : Int64) (more ms : Nat → Int64) (x1 : Int32), rg x1 0 20 → x1.toInt ≤ (passes live.toNatClampNeg).toInt → MI live cells room row more M (fun c => dgP live one oth c x1.toNatClampNeg) → (20 - x1.toInt).toNat < n → ok (f_X7_flows_b30 live ch ca_ cells room passes one oth rivers rc rl rw rs wide n ra row more ms x1) (fun o => RW live cells room o.2.1 M) := by
  intro n
  induction n with
  | zero => intro ra more ms x1 _ _ _ h; exact absurd h (Nat.not_lt_zero _)
  | succ n ih =>
    intro ra more ms x1 hx hle hI hn
    show ok (f_X7_flows_b30_st (f_X7_flows_b30 live ch ca_ cells room passes one oth rivers rc rl rw rs wide n) live ch ca_ cells room passes one oth rivers rc rl rw rs wide ra row more ms x1) _
    unfold f_X7_flows_b30_st
    refine ok_ck (inb_rg g.1 (by decide) (by decide)) ?_
    have hP := w.1
    have ex := cl_e hx (by decide)
    have eP := cl_e hP (by decide)
    refine ok_if (fun c => ?_) (fun c => ?_)
    · have c2 := ti_le c
      have e : x1.toNatClampNeg = (passes live.toNatClampNeg).toNatClampNeg := by omega
      refine s_fl179 g w hr hM0 hM _ _ _ _ _ ⟨by decide, by decide⟩ (by have := w.2.1.1; have e0 : (0 : Int32).toInt = 0 := rfl; omega) ?_ (by decide)
      rw [e] at hI
      refine MI_w g hr hI (fun c => ?_)
      have := dgR_0 live rc c (0 : Int32).toNatClampNeg
      omega
    · have c2 := ti_nle c
      have hx' : rg x1 0 19 := ⟨hx.1, by have := hP.2; omega⟩
      obtain ⟨p1, p2, p3, p4, p5⟩ := w.2.2.1 x1 hx.1 c2
      have hi := in_side (K := 20) (k := 20) rfl (by decide) g.1 hx' (by decide)
      have s1 := x_suc hx' (by decide)
      have hxa := hx'.1
      have hxb := hx'.2
      have dg8 : ∀ c, dgP live one oth c x1.toNatClampNeg ≤ 8 := fun c => by
        have a := w.2.2.2.2 c
        have b := dgP_mono live one oth c x1.toNatClampNeg (passes live.toNatClampNeg).toNatClampNeg (by omega)
        have d := dgR_0 live rc c (rivers live.toNatClampNeg).toNatClampNeg
        omega
      have hk : ∀ m' s', MI live cells room row m' M (fun c => dgP live one oth c (x1 + 1).toNatClampNeg) → ok (f_X7_flows_b30 live ch ca_ cells room passes one oth rivers rc rl rw rs wide n ra row m' s' (x1 + 1)) (fun o => RW live cells room o.2.1 M) := fun m' s' h => ih ra m' s' (x1 + 1) ⟨by have := hx.1; omega, by omega⟩ (by omega) h (by have := hx.1; omega)
      refine ok_bd (s_X7_overPass live ch ca_ cells room one oth row wide x1 g hr hM hx' ⟨p1, p2⟩ ⟨p3, p4⟩ (hw x1 hx.1 c2)) (fun o3 ho => ?_)
      obtain ⟨f1, f2, f3, f4⟩ := ho
      have e0 : (0 : Int64).toInt = 0 := rfl
      refine ok_if (fun d => ok_ck (inb_rg hi (by decide) (by decide)) ?_) (fun d => ok_ck (inb_rg hi (by decide) (by decide)) ?_)
      · have d2 := Int64.le_iff_toInt_le.mp ((lg_cmp_le _ _).mp d)
        have tn : (-o3).toInt = -o3.toInt := Jvm.Kit.i64_neg (by omega)
        unfold f_X7_flows_b86
        rw [if_pos d]
        refine ok_ck (inb_rg hi (by decide) (by decide)) ?_
        unfold f_X7_flows_b125
        rw [if_pos d]
        refine s_fl139 _ g hr hM hI p3 p4 p1 p2 (fun q => p5 q.symm) (fun c => dgP_0 _ _ _ _ _) (dg8 _) (dg8 _) (by omega) (by
          by_cases q0 : (-o3).toInt = 0
          · exact Or.inl q0
          · right
            show 10 * (-o3).toInt ≤ Lv live room row (pA live oth x1) - Lv live room row (pA live one x1)
            omega) (fun m' s' h => hk m' s' (MI_w g hr h (fun c => ?_)))
        rw [s1.2, dgP, x_nat hx' (by decide)]
        show dgP live one oth c x1.toNatClampNeg + (if pA live oth x1 = c then 1 else 0) + (if pA live one x1 = c then 1 else 0) ≤ _
        omega
      · have d2 : 0 < o3.toInt := by
          rcases Int.lt_or_le 0 o3.toInt with q | q
          · exact q
          · exact absurd ((lg_cmp_le _ _).mpr (Int64.le_iff_toInt_le.mpr q)) d
        unfold f_X7_flows_b86
        rw [if_neg d]
        refine ok_ck (inb_rg hi (by decide) (by decide)) ?_
        unfold f_X7_flows_b125
        rw [if_neg d]
        refine s_fl139 _ g hr hM hI p1 p2 p3 p4 p5 (fun c => dgP_0 _ _ _ _ _) (dg8 _) (dg8 _) (by omega) (by first | omega | (right; show 10 * o3.toInt ≤ Lv live room row (pA live one x1) - Lv live room row (pA live oth x1); omega)) (fun m' s' h => hk m' s' (MI_w g hr h (fun c => ?_)))
        rw [s1.2, dgP, x_nat hx' (by decide)]
        exact Int.le_refl _
theorem s_fl2 {live ch ca_ : Int32} {cells room passes one oth rivers rc rl rw rs wide : Nat → Int32} {row : Nat → Int64} {M : Int} (g : GC live cells room) (w : GW live cells passes one oth rivers rc rl rw) (hr : RW live cells room row M) (hM0 : 999 ≤ M) (hM : M ≤ 1000000000) (hw : ∀ x : Int32, 0 ≤ x.toInt → x.toInt < (passes live.toNatClampNeg).toInt → rg (wide x.toNatClampNeg) 0 10) : ∀ (n : Nat) (ra : Int64) (more ms : Nat → Int64) (x1 : Int32), rg x1 0 12 → (∀ c : Int32, 0 ≤ c.toInt → c.toInt < x1.toInt → more c.toNatClampNeg = 0) → (12 - x1.toInt).toNat < n → ok (f_X7_flows_b2 live ch ca_ cells room passes one oth rivers rc rl rw rs wide n ra row more ms x1) (fun o => RW live cells room o.2.1 M) := by
  intro n
  induction n with
  | zero => intro ra more ms x1 _ _ h; exact absurd h (Nat.not_lt_zero _)
  | succ n ih =>
    intro ra more ms x1 hx hI hn
    show ok (f_X7_flows_b2_st (f_X7_flows_b2 live ch ca_ cells room passes one oth rivers rc rl rw rs wide n) live ch ca_ cells room passes one oth rivers rc rl rw rs wide ra row more ms x1) _
    unfold f_X7_flows_b2_st
    have e12 : (12 : Int32).toInt = 12 := rfl
    have e0 : (0 : Int32).toInt = 0 := rfl
    refine ok_if (fun c => ?_) (fun c => ?_)
    · have c2 := ti_le c
      refine s_fl30 g w hr hM0 hM hw _ _ _ _ _ ⟨by decide, by decide⟩ (by have := w.1.1; omega) ?_ (by decide)
      intro y h0 h1
      have hy := g.lt h0 h1
      rw [hI y h0 (by have := hy.2; omega)]
      have l := hr.lv g h0 h1
      show -((0 : Int) * _) ≤ 10 * (0 : Int) ∧ 10 * (0 : Int) ≤ (0 : Int) * _
      rw [Int.zero_mul, Int.zero_mul]
      omega
    · have c2 := ti_nle c
      have hx' : rg x1 0 11 := ⟨hx.1, by omega⟩
      have s1 := x_suc hx' (by decide)
      have hxa := hx'.1
      have hxb := hx'.2
      refine ok_ck (inb_rg hx' (by decide) (by decide)) (ok_nm (fun a3 e3 => ok_ck (inb_rg hx' (by decide) (by decide)) (ok_nm (fun a5 e5 => ?_))))
      refine ih ra a3 a5 (x1 + 1) ⟨by have := hx.1; omega, by omega⟩ ?_ (by have := hx.1; omega)
      intro y h0 h1
      rw [e3]
      by_cases q : y = x1
      · rw [q, uL_eq]
      · rw [uL_ne (fun z => q (cl_inj h0 hx.1 z))]
        have : y.toInt ≠ x1.toInt := fun z => q (Int32.toInt_inj.mp z)
        exact hI y h0 (by omega)
theorem s_X7_flows (live ch ca_ : Int32) (cells room passes one oth rivers rc rl rw rs wide : Nat → Int32) (ra : Int64) (row more ms : Nat → Int64) {M : Int} (g : GC live cells room) (w : GW live cells passes one oth rivers rc rl rw) (hr : RW live cells room row M) (hM0 : 999 ≤ M) (hM : M ≤ 1000000000) (hw : ∀ x : Int32, 0 ≤ x.toInt → x.toInt < (passes live.toNatClampNeg).toInt → rg (wide x.toNatClampNeg) 0 10) : ok (f_X7_flows live ch ca_ cells room passes one oth rivers rc rl rw rs wide ra row more ms) (fun o => RW live cells room o.2.1 M) := by
  unfold f_X7_flows
  exact s_fl2 g w hr hM0 hM hw _ _ _ _ _ ⟨by decide, by decide⟩ (fun c h0 h1 => absurd h1 (by have e0 : (0 : Int32).toInt = 0 := rfl; omega)) (by decide)
