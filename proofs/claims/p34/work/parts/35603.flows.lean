/-! what flows, on both sides -/
theorem w_sub (r m : Int64) (u : Int32) : (r + (m - u.toInt64)).toInt32 = (r + m).toInt32 - u := by
  rw [Int64.toInt32_add, Int64.toInt32_sub, l_32, Int64.toInt32_add, Int32.sub_eq_add_neg, Int32.sub_eq_add_neg, Int32.add_assoc]
theorem w_add (r m : Int64) (u : Int32) : (r + (m + u.toInt64)).toInt32 = (r + m).toInt32 + u := by
  rw [Int64.toInt32_add, Int64.toInt32_add, l_32, Int64.toInt32_add, Int32.add_assoc]
theorem s_sub (r m s : Int64) : r + (m - s) = r + m - s := by rw [Int64.sub_eq_add_neg, Int64.sub_eq_add_neg, Int64.add_assoc]
theorem s_add (r m s : Int64) : r + (m + s) = r + m + s := (Int64.add_assoc r m s).symm
theorem l_neg {x : Int32} (h : -2147483648 < x.toInt) : (-x).toInt64 = -x.toInt64 := by
  have a := Jvm.Kit.i64_of_i32 x
  have b := (rg_any x).2
  refine (l_of ?_).symm
  rw [Jvm.Kit.i64_neg (by omega), Jvm.Kit.i32_neg (by omega), a]
/-- what the class keeps of the cells, for the flows: LEVELS, WATER, SALT -/
def HK (live : Int32) (ce M : Int) (mro level kw : Nat → Int32) (ks row : Nat → Int64) : Prop := ∀ c : Nat, (c : Int) < ce → row c / (mro (12 * live.toNatClampNeg + c)).toInt64 = (level c).toInt64 ∧ row c = (kw c).toInt64 ∧ row (12 + c) = ks c ∧ 0 ≤ (level c).toInt ∧ (level c).toInt ≤ M ∧ (level c).toInt ≤ (kw c).toInt
/-- what stands now -/
def FN (ce : Int) (dw : Nat → Int32) (ds row more ms : Nat → Int64) : Prop := ∀ c : Nat, (c : Int) < ce → dw c = (row c + more c).toInt32 ∧ ds c = row (12 + c) + ms c
theorem FN_pass {ce : Int} {dw dw' : Nat → Int32} {ds ds' row more ms more' ms' : Nat → Int64} {F T : Nat} {u : Int32} {s : Int64} (h : FN ce dw ds row more ms) (hFT : ¬ F = T) (d0 : ∀ j, ¬ j = F → ¬ j = T → dw' j = dw j ∧ ds' j = ds j) (d1 : dw' F = dw F - u) (d2 : ds' F = ds F - s) (d3 : dw' T = dw T + u) (d4 : ds' T = ds T + s) (m0 : ∀ j, ¬ j = F → ¬ j = T → more' j = more j ∧ ms' j = ms j) (m1 : more' F = more F - u.toInt64) (m2 : ms' F = ms F - s) (m3 : more' T = more T + u.toInt64) (m4 : ms' T = ms T + s) : FN ce dw' ds' row more' ms' := by
  intro c hc
  obtain ⟨h1, h2⟩ := h c hc
  by_cases q : c = F
  · subst q
    exact ⟨by rw [d1, m1, w_sub, h1], by rw [d2, m2, s_sub, h2]⟩
  · by_cases r : c = T
    · subst r
      exact ⟨by rw [d3, m3, w_add, h1], by rw [d4, m4, s_add, h2]⟩
    · rw [(d0 c q r).1, (d0 c q r).2, (m0 c q r).1, (m0 c q r).2]
      exact ⟨h1, h2⟩
theorem FN_one {ce : Int} {dw dw' : Nat → Int32} {ds ds' row more ms more' ms' : Nat → Int64} {F : Nat} (h : FN ce dw ds row more ms) (d0 : ∀ j, ¬ j = F → dw' j = dw j ∧ ds' j = ds j) (m0 : ∀ j, ¬ j = F → more' j = more j ∧ ms' j = ms j) (k1 : dw F = (row F + more F).toInt32 → dw' F = (row F + more' F).toInt32) (k2 : ds F = row (12 + F) + ms F → ds' F = row (12 + F) + ms' F) : FN ce dw' ds' row more' ms' := by
  intro c hc
  obtain ⟨h1, h2⟩ := h c hc
  by_cases q : c = F
  · subst q
    exact ⟨k1 h1, k2 h2⟩
  · rw [(d0 c q).1, (d0 c q).2, (m0 c q).1, (m0 c q).2]
    exact ⟨h1, h2⟩
theorem c_saltAlong {kw : Nat → Int32} {ks : Nat → Int64} {c u : Int32} (h : 1 ≤ (kw c.toNatClampNeg).toInt) : pa (f_X0_saltAlong kw ks c u) (fun o => o = ks c.toNatClampNeg * u.toInt64 / (kw c.toNatClampNeg).toInt64) := by
  unfold f_X0_saltAlong
  refine pa_ck (fun _ => pa_if (fun z => pa_some ?_) (fun _ => pa_ck (fun _ => pa_if (fun _ => pa_ck (fun _ => pa_ck (fun _ => pa_ck (fun _ => pa_some rfl)))) (fun z => ?_))))
  · rw [(lg_cmp_eq _ _).mp z, Int64.zero_mul, Int64.zero_div]
  · have := k_nle (k := 1) rfl z
    omega
theorem c_move {kw dw : Nat → Int32} {ks ds : Nat → Int64} {a b u : Int32} (h : 1 ≤ (kw a.toNatClampNeg).toInt) (hab : ¬ a.toNatClampNeg = b.toNatClampNeg) : pa (f_X0_move kw ks dw ds a b u) (fun o => (∀ j, ¬ j = a.toNatClampNeg → ¬ j = b.toNatClampNeg → o.1 j = dw j ∧ o.2 j = ds j) ∧ o.1 a.toNatClampNeg = dw a.toNatClampNeg - u ∧ o.2 a.toNatClampNeg = ds a.toNatClampNeg - ks a.toNatClampNeg * u.toInt64 / (kw a.toNatClampNeg).toInt64 ∧ o.1 b.toNatClampNeg = dw b.toNatClampNeg + u ∧ o.2 b.toNatClampNeg = ds b.toNatClampNeg + ks a.toNatClampNeg * u.toInt64 / (kw a.toNatClampNeg).toInt64) := by
  have hba : ¬ b.toNatClampNeg = a.toNatClampNeg := fun q => hab q.symm
  unfold f_X0_move
  refine pa_bd (c_saltAlong h) (fun s hs => pa_ck (fun _ => pa_ck (fun _ => pa_nm (fun a4 e4 => pa_ck (fun _ => pa_ck (fun _ => pa_nm (fun a7 e7 => pa_ck (fun _ => pa_ck (fun _ => pa_nm (fun a10 e10 => pa_ck (fun _ => pa_ck (fun _ => pa_nm (fun a13 e13 => pa_some ⟨fun j h1 h2 => ⟨?_, ?_⟩, ?_, ?_, ?_, ?_⟩)))))))))))))
  · show a10 j = _
    rw [e10, up_ne h2, e4, up_ne h1]
  · show a13 j = _
    rw [e13, upL_ne h2, e7, upL_ne h1]
  · show a10 _ = _
    rw [e10, up_ne hab, e4, up_at]
  · show a13 _ = _
    rw [e13, upL_ne hab, e7, upL_at, hs]
  · show a10 _ = _
    rw [e10, up_at, e4, up_ne hba]
  · show a13 _ = _
    rw [e13, upL_at, e7, upL_ne hba, hs]
theorem l_z0 (s w : Int64) : s * 0 / w = 0 := by rw [Int64.mul_zero, Int64.zero_div]
theorem m_leaves {row more ms : Nat → Int64} {c : Int32} {u : Int64} (h0 : 0 ≤ c.toInt) (h1 : c.toInt ≤ 11) : pa (f_X7_leaves row more ms c u) (fun o => o.1 = row (12 + c.toNatClampNeg) * u / row c.toNatClampNeg ∧ (∀ j, ¬ j = c.toNatClampNeg → o.2.1 j = more j ∧ o.2.2 j = ms j) ∧ o.2.1 c.toNatClampNeg = more c.toNatClampNeg - u ∧ o.2.2 c.toNatClampNeg = ms c.toNatClampNeg - row (12 + c.toNatClampNeg) * u / row c.toNatClampNeg) := by
  have e12 : ((12 : Int32) + c).toNatClampNeg = 12 + c.toNatClampNeg := cl_K (k := 12) rfl (by decide) h0 (by omega)
  unfold f_X7_leaves
  refine pa_if (fun z => pa_some ⟨?_, fun j _ => ⟨rfl, rfl⟩, ?_, ?_⟩) (fun z => ?_)
  · rw [(lg_cmp_eq _ _).mp z]
    exact (l_z0 _ _).symm
  · rw [(lg_cmp_eq _ _).mp z]
    exact (Int64.sub_zero _).symm
  · rw [(lg_cmp_eq _ _).mp z, l_z0]
    exact (Int64.sub_zero _).symm
  · rw [e12]
    refine pa_ck (fun _ => pa_ck (fun _ => pa_ck (fun _ => pa_nm (fun e5 he5 => pa_ck (fun _ => pa_ck (fun _ => pa_nm (fun a8 e8 => pa_ck (fun _ => pa_ck (fun _ => pa_nm (fun a11 e11 => pa_some ⟨he5, fun j hj => ⟨?_, ?_⟩, ?_, ?_⟩))))))))))
    · show a8 j = _
      rw [e8, upL_ne hj]
    · show a11 j = _
      rw [e11, upL_ne hj]
    · show a8 _ = _
      rw [e8, upL_at]
    · show a11 _ = _
      rw [e11, upL_at, he5]
theorem pj_139 {α : Type} {f : Option α} {R : α → Int64 × (Nat → Int64) × (Nat → Int64) × (Nat → Int64) → Prop} {live ch ca_ : Int32} {cells room passes one oth rivers rc rl rw rs wide : Nat → Int32} {ra : Int64} {row more ms : Nat → Int64} {x1 a b : Int32} {u : Int64} (k30 : K30) (ha0 : 0 ≤ a.toInt) (ha1 : a.toInt ≤ 11) (hab : ¬ a.toNatClampNeg = b.toNatClampNeg) (hk : ∀ more' ms' : Nat → Int64, (∀ j, ¬ j = a.toNatClampNeg → ¬ j = b.toNatClampNeg → more' j = more j ∧ ms' j = ms j) → more' a.toNatClampNeg = more a.toNatClampNeg - u → ms' a.toNatClampNeg = ms a.toNatClampNeg - row (12 + a.toNatClampNeg) * u / row a.toNatClampNeg → more' b.toNatClampNeg = more b.toNatClampNeg + u → ms' b.toNatClampNeg = ms b.toNatClampNeg + row (12 + a.toNatClampNeg) * u / row a.toNatClampNeg → pj f (k30 ra row more' ms' (x1 + 1)) R) : pj f (f_X7_flows_b139 k30 live ch ca_ cells room passes one oth rivers rc rl rw rs wide ra row more ms x1 a b u) R := by
  have hba : ¬ b.toNatClampNeg = a.toNatClampNeg := fun q => hab q.symm
  unfold f_X7_flows_b139
  refine pj_ckr (fun _ => pj_br3 (m_leaves ha0 ha1) (fun o0 o1 o2 ho => pj_ckr (fun _ => pj_nrg (fun a4 e4 => pj_ckr (fun _ => pj_ckr (fun _ => pj_nrg (fun a7 e7 => ?_)))))))
  obtain ⟨h1, h2, h3, h4⟩ := ho
  have h1 : o0 = row (12 + a.toNatClampNeg) * u / row a.toNatClampNeg := h1
  have h2 : ∀ j, ¬ j = a.toNatClampNeg → o1 j = more j ∧ o2 j = ms j := h2
  have h3 : o1 a.toNatClampNeg = more a.toNatClampNeg - u := h3
  have h4 : o2 a.toNatClampNeg = ms a.toNatClampNeg - row (12 + a.toNatClampNeg) * u / row a.toNatClampNeg := h4
  refine hk a7 a4 (fun j j1 j2 => ⟨?_, ?_⟩) ?_ ?_ ?_ ?_
  · rw [e7, upL_ne j2, (h2 j j1).1]
  · rw [e4, upL_ne j2, (h2 j j1).2]
  · rw [e7, upL_ne hab, h3]
  · rw [e4, upL_ne hab, h4]
  · rw [e7, upL_at, (h2 _ hba).1]
  · rw [e4, upL_at, h1]
theorem fl_eq {a b w : Int32} {M : Int} (hM : M ≤ 200000000) (ha : 0 ≤ a.toInt ∧ a.toInt ≤ M) (hb : 0 ≤ b.toInt ∧ b.toInt ≤ M) (hw : rg w 0 10) : ((a - b) * w / (100 : Int32)).toInt64 = (a.toInt64 - b.toInt64) * w.toInt64 / (100 : Int64) ∧ ((a - b) * w / (100 : Int32)).toInt = ((a.toInt - b.toInt) * w.toInt).tdiv 100 := by
  have ea := Jvm.Kit.i64_of_i32 a
  have eb := Jvm.Kit.i64_of_i32 b
  have ew := Jvm.Kit.i64_of_i32 w
  have hm := mul_sm (d := a.toInt - b.toInt) (w := w.toInt) (by omega) hw
  have hm2 : -2000000000 ≤ (a.toInt - b.toInt) * w.toInt ∧ (a.toInt - b.toInt) * w.toInt ≤ 2000000000 := by
    obtain ⟨w0, w1⟩ := hw
    rcases Int.le_total 0 (a.toInt - b.toInt) with h | h
    · have a1 : 0 ≤ (a.toInt - b.toInt) * w.toInt := Int.mul_nonneg h w0
      have a2 : (a.toInt - b.toInt) * w.toInt ≤ (a.toInt - b.toInt) * 10 := Int.mul_le_mul_of_nonneg_left w1 h
      omega
    · have e : (a.toInt - b.toInt) * w.toInt = -((-(a.toInt - b.toInt)) * w.toInt) := by rw [Int.neg_mul, Int.neg_neg]
      have a1 : 0 ≤ (-(a.toInt - b.toInt)) * w.toInt := Int.mul_nonneg (by omega) w0
      have a2 : (-(a.toInt - b.toInt)) * w.toInt ≤ (-(a.toInt - b.toInt)) * 10 := Int.mul_le_mul_of_nonneg_left w1 (by omega)
      omega
  have h100 : (100 : Int32).toInt = 100 := rfl
  have h164 : (100 : Int64).toInt = 100 := rfl
  have t1 : (a - b).toInt = a.toInt - b.toInt := Jvm.Kit.i32_sub (by omega) (by omega)
  have t2 : ((a - b) * w).toInt = (a.toInt - b.toInt) * w.toInt := by rw [Jvm.Kit.i32_mul (by rw [t1]; omega) (by rw [t1]; omega), t1]
  have t3 : ((a - b) * w / (100 : Int32)).toInt = ((a.toInt - b.toInt) * w.toInt).tdiv 100 := by rw [Jvm.Kit.i32_div (by rw [h100]; omega), t2, h100]
  have u1 : (a.toInt64 - b.toInt64).toInt = a.toInt - b.toInt := by rw [Jvm.Kit.i64_sub (by omega) (by omega), ea, eb]
  have u2 : ((a.toInt64 - b.toInt64) * w.toInt64).toInt = (a.toInt - b.toInt) * w.toInt := by rw [Jvm.Kit.i64_mul (by rw [u1, ew]; omega) (by rw [u1, ew]; omega), u1, ew]
  refine ⟨(l_of ?_).symm, t3⟩
  rw [Jvm.Kit.i64_div (by rw [h164]; omega), u2, h164, t3]
/-- what is said of a flow: both sides alike, and where it comes from -/
theorem fl_sign {a b w : Int32} {M : Int} (hM : M ≤ 200000000) (ha : 0 ≤ a.toInt ∧ a.toInt ≤ M) (hb : 0 ≤ b.toInt ∧ b.toInt ≤ M) (hw : rg w 0 10) : (0 < ((a - b) * w / (100 : Int32)).toInt → 1 ≤ a.toInt) ∧ (((a - b) * w / (100 : Int32)).toInt < 0 → 1 ≤ b.toInt) ∧ -200000000 ≤ ((a - b) * w / (100 : Int32)).toInt ∧ ((a - b) * w / (100 : Int32)).toInt ≤ 200000000 := by
  rw [(fl_eq hM ha hb hw).2]
  have k := tenth (d := a.toInt - b.toInt) hw.1 hw.2
  rcases Int.lt_or_le (a.toInt - b.toInt) 0 with h | h
  · have g := k.2 h
    omega
  · have g := k.1 h
    omega
theorem c_passFlow {level pf pt pw : Nat → Int32} {x : Int32} : pa (f_X0_passFlow level pf pt pw x) (fun o => o = (level (pf x.toNatClampNeg).toNatClampNeg - level (pt x.toNatClampNeg).toNatClampNeg) * pw x.toNatClampNeg / (100 : Int32)) := by
  unfold f_X0_passFlow
  exact pa_ck (fun _ => pa_ck (fun _ => pa_ck (fun _ => pa_ck (fun _ => pa_nx (pa_ck (fun _ => pa_some rfl))))))
theorem c_riverFlow {level rc rl rw : Nat → Int32} {x : Int32} : pa (f_X0_riverFlow level rc rl rw x) (fun o => o = (rl x.toNatClampNeg - level (rc x.toNatClampNeg).toNatClampNeg) * rw x.toNatClampNeg / (100 : Int32)) := by
  unfold f_X0_riverFlow
  exact pa_ck (fun _ => pa_ck (fun _ => pa_ck (fun _ => pa_nx (pa_ck (fun _ => pa_some rfl)))))
theorem s_mz (s : Int64) : s * 0 / (100 : Int64) = 0 := l_z0 s 100
/-- a PASS on both sides: pw what the class goes by -/
theorem m_overPass {live ch ca_ x fa fb : Int32} {level mro one oth wide : Nat → Int32} {row : Nat → Int64} {pw : Int32} (hl : 0 ≤ live.toInt ∧ live.toInt ≤ 1) (hx0 : 0 ≤ x.toInt) (hx1 : x.toInt ≤ 19) (ea : one (20 * live.toNatClampNeg + x.toNatClampNeg) = fa) (eb : oth (20 * live.toNatClampNeg + x.toNatClampNeg) = fb) (ha : 0 ≤ fa.toInt ∧ fa.toInt ≤ 11) (hb : 0 ≤ fb.toInt ∧ fb.toInt ≤ 11) (la : row fa.toNatClampNeg / (mro (12 * live.toNatClampNeg + fa.toNatClampNeg)).toInt64 = (level fa.toNatClampNeg).toInt64) (lb : row fb.toNatClampNeg / (mro (12 * live.toNatClampNeg + fb.toNatClampNeg)).toInt64 = (level fb.toNatClampNeg).toInt64) (hp0 : ch = 1 ∧ ca_ = x → pw = 0) (hp1 : ¬ (ch = 1 ∧ ca_ = x) → pw = wide x.toNatClampNeg) : pa (f_X7_overPass live ch ca_ mro one oth row wide x) (fun o => o = ((level fa.toNatClampNeg).toInt64 - (level fb.toNatClampNeg).toInt64) * pw.toInt64 / (100 : Int64)) := by
  have s20 : (((20 : Int32) * live) + x).toNatClampNeg = 20 * live.toNatClampNeg + x.toNatClampNeg := cl_S (k := 20) rfl (by decide) hl hx0 (by omega)
  have b18 : ¬ (ch = 1 ∧ ca_ = x) → pa (f_X7_overPass_b18 live mro one oth row wide x) (fun o => o = ((level fa.toNatClampNeg).toInt64 - (level fb.toNatClampNeg).toInt64) * pw.toInt64 / (100 : Int64)) := by
    intro hn
    unfold f_X7_overPass_b18
    rw [s20, ea, eb, hp1 hn]
    refine pa_ck (fun _ => pa_bd (m_lev hl ha.1 (by omega)) (fun o2 h2 => pa_ck (fun _ => pa_bd (m_lev hl hb.1 (by omega)) (fun o4 h4 => pa_ck (fun _ => pa_some ?_)))))
    rw [h2, h4, la, lb]
  unfold f_X7_overPass
  refine pa_if (fun z => pa_if (fun y => pa_some ?_) (fun y => b18 (fun q => y q.2))) (fun z => b18 (fun q => z q.1))
  rw [hp0 ⟨z, y⟩]
  exact (s_mz _).symm
theorem m_byRiver {live ch ca_ x fc fl rw0 : Int32} {level mro rc rl rw : Nat → Int32} {row : Nat → Int64} (hl : 0 ≤ live.toInt ∧ live.toInt ≤ 1) (hx0 : 0 ≤ x.toInt) (hx1 : x.toInt ≤ 2) (ec : rc (3 * live.toNatClampNeg + x.toNatClampNeg) = fc) (el : rl (3 * live.toNatClampNeg + x.toNatClampNeg) = fl) (hc : 0 ≤ fc.toInt ∧ fc.toInt ≤ 11) (lc : row fc.toNatClampNeg / (mro (12 * live.toNatClampNeg + fc.toNatClampNeg)).toInt64 = (level fc.toNatClampNeg).toInt64) (hp0 : ch = 2 ∧ ca_ = x → rw0 = 0) (hp1 : ¬ (ch = 2 ∧ ca_ = x) → rw0 = rw (3 * live.toNatClampNeg + x.toNatClampNeg)) : pa (f_X7_byRiver live ch ca_ mro rc rl rw row x) (fun o => o = (fl.toInt64 - (level fc.toNatClampNeg).toInt64) * rw0.toInt64 / (100 : Int64)) := by
  have s3 : (((3 : Int32) * live) + x).toNatClampNeg = 3 * live.toNatClampNeg + x.toNatClampNeg := cl_S (k := 3) rfl (by decide) hl hx0 (by omega)
  have b18 : ¬ (ch = 2 ∧ ca_ = x) → pa (f_X7_byRiver_b18 live mro rc rl rw row x) (fun o => o = (fl.toInt64 - (level fc.toNatClampNeg).toInt64) * rw0.toInt64 / (100 : Int64)) := by
    intro hn
    unfold f_X7_byRiver_b18
    rw [s3, ec, el, hp1 hn]
    refine pa_ck (fun _ => pa_ck (fun _ => pa_bd (m_lev hl hc.1 (by omega)) (fun o3 h3 => pa_ck (fun _ => pa_some ?_))))
    rw [h3, lc]
  unfold f_X7_byRiver
  refine pa_if (fun z => pa_if (fun y => pa_some ?_) (fun y => b18 (fun q => y q.2))) (fun z => b18 (fun q => z q.1))
  rw [hp0 ⟨z, y⟩]
  exact (s_mz _).symm
theorem m_286 {live ce : Int32} {cells : Nat → Int32} {row0 more ms : Nat → Int64} (hm : cells live.toNatClampNeg = ce) (hc : 0 ≤ ce.toInt ∧ ce.toInt ≤ 12) : ∀ (n : Nat) (ra : Int64) (row : Nat → Int64) (x1 : Int32) (i : Nat), x1.toInt = (i : Int) → (i : Int) ≤ ce.toInt → (∀ j, j < 12 → row j = if j < i then row0 j + more j else row0 j) → (∀ j, j < 12 → row (12 + j) = if j < i then row0 (12 + j) + ms j else row0 (12 + j)) → (∀ j, 24 ≤ j → row j = row0 j) → pa (f_X7_flows_b286 live cells n ra row more ms x1) (fun o => o.1 = ra ∧ (∀ j : Nat, (j : Int) < ce.toInt → o.2.1 j = row0 j + more j ∧ o.2.1 (12 + j) = row0 (12 + j) + ms j) ∧ ∀ j, 24 ≤ j → o.2.1 j = row0 j) := by
  intro n
  induction n with
  | zero => intro ra row x1 i _ _ _ _ _; exact pa_none
  | succ n ih =>
    intro ra row x1 i h1 hi ha hb hd
    show pa (f_X7_flows_b286_st (f_X7_flows_b286 live cells n) live cells ra row more ms x1) _
    unfold f_X7_flows_b286_st
    refine pa_bd (m_nn hm) (fun o ho => ?_)
    subst ho
    refine pa_if (fun z => pa_some ⟨rfl, fun j hj => ⟨?_, ?_⟩, hd⟩) (fun z => ?_)
    · have g := ti_le z
      show row j = _
      rw [ha j (by omega), if_pos (by omega)]
    · have g := ti_le z
      show row (12 + j) = _
      rw [hb j (by omega), if_pos (by omega)]
    · have g := ti_nle z
      have t1 := add_k (x := x1) (v := 1) (k := 1) rfl (by omega) (by omega)
      have e : x1.toNatClampNeg = i := by have : (x1.toNatClampNeg : Int) = x1.toInt := cl_k (by omega); omega
      have e12 : ((12 : Int32) + x1).toNatClampNeg = 12 + i := by rw [cl_K (k := 12) rfl (by decide) (by omega) (by omega), e]
      rw [e12, e]
      refine pa_ck (fun _ => pa_ck (fun _ => pa_ck (fun _ => pa_nm (fun a6 e6 => pa_ck (fun _ => pa_ck (fun _ => pa_ck (fun _ => pa_nm (fun a10 e10 => ?_))))))))
      have q6 : ∀ j, ¬ j = i → a6 j = row j := fun j hj => by rw [e6, upL_ne hj]
      have q10 : ∀ j, ¬ j = 12 + i → a10 j = a6 j := fun j hj => by rw [e10, upL_ne hj]
      refine ih ra a10 (x1 + 1) (i + 1) (by omega) (by omega) (fun j hj => ?_) (fun j hj => ?_) (fun j hj => ?_)
      · rw [q10 j (by omega)]
        by_cases q : j = i
        · rw [q, e6, upL_at, ha i (by omega), if_neg (Nat.lt_irrefl i), if_pos (by omega)]
        · rw [q6 j q, ha j hj]
          by_cases r : j < i
          · rw [if_pos r, if_pos (by omega)]
          · rw [if_neg r, if_neg (by omega)]
      · by_cases q : j = i
        · rw [q, e10, upL_at, q6 _ (by omega), hb i (by omega), if_neg (Nat.lt_irrefl i), if_pos (by omega)]
        · rw [q10 _ (by omega), q6 _ (by omega), hb j hj]
          by_cases r : j < i
          · rw [if_pos r, if_pos (by omega)]
          · rw [if_neg r, if_neg (by omega)]
      · rw [q10 _ (by omega), q6 _ (by omega), hd j hj]
theorem c_flowByRiver {level kw rcc rlc rsc rwc dw : Nat → Int32} {ks ds : Nat → Int64} {x u : Int32} (hu : (rlc x.toNatClampNeg - level (rcc x.toNatClampNeg).toNatClampNeg) * rwc x.toNatClampNeg / (100 : Int32) = u) (hw : u.toInt < 0 → 1 ≤ (kw (rcc x.toNatClampNeg).toNatClampNeg).toInt) : pa (f_X0_flowByRiver level kw ks rcc rlc rsc rwc dw ds x) (fun o => (∀ j, ¬ j = (rcc x.toNatClampNeg).toNatClampNeg → o.1 j = dw j ∧ o.2 j = ds j) ∧ o.1 (rcc x.toNatClampNeg).toNatClampNeg = dw (rcc x.toNatClampNeg).toNatClampNeg + u ∧ (0 < u.toInt → o.2 (rcc x.toNatClampNeg).toNatClampNeg = ds (rcc x.toNatClampNeg).toNatClampNeg + u.toInt64 * (rsc x.toNatClampNeg).toInt64) ∧ (u.toInt = 0 → o.2 (rcc x.toNatClampNeg).toNatClampNeg = ds (rcc x.toNatClampNeg).toNatClampNeg) ∧ (u.toInt < 0 → o.2 (rcc x.toNatClampNeg).toNatClampNeg = ds (rcc x.toNatClampNeg).toNatClampNeg - ks (rcc x.toNatClampNeg).toNatClampNeg * (-u).toInt64 / (kw (rcc x.toNatClampNeg).toNatClampNeg).toInt64)) := by
  have b70 : ∀ ds' : Nat → Int64, (∀ j, ¬ j = (rcc x.toNatClampNeg).toNatClampNeg → ds' j = ds j) → (0 < u.toInt → ds' (rcc x.toNatClampNeg).toNatClampNeg = ds (rcc x.toNatClampNeg).toNatClampNeg + u.toInt64 * (rsc x.toNatClampNeg).toInt64) → (u.toInt = 0 → ds' (rcc x.toNatClampNeg).toNatClampNeg = ds (rcc x.toNatClampNeg).toNatClampNeg) → (u.toInt < 0 → ds' (rcc x.toNatClampNeg).toNatClampNeg = ds (rcc x.toNatClampNeg).toNatClampNeg - ks (rcc x.toNatClampNeg).toNatClampNeg * (-u).toInt64 / (kw (rcc x.toNatClampNeg).toNatClampNeg).toInt64) → pa (f_X0_flowByRiver_b70 dw ds' (rcc x.toNatClampNeg) u) (fun o => (∀ j, ¬ j = (rcc x.toNatClampNeg).toNatClampNeg → o.1 j = dw j ∧ o.2 j = ds j) ∧ o.1 (rcc x.toNatClampNeg).toNatClampNeg = dw (rcc x.toNatClampNeg).toNatClampNeg + u ∧ (0 < u.toInt → o.2 (rcc x.toNatClampNeg).toNatClampNeg = ds (rcc x.toNatClampNeg).toNatClampNeg + u.toInt64 * (rsc x.toNatClampNeg).toInt64) ∧ (u.toInt = 0 → o.2 (rcc x.toNatClampNeg).toNatClampNeg = ds (rcc x.toNatClampNeg).toNatClampNeg) ∧ (u.toInt < 0 → o.2 (rcc x.toNatClampNeg).toNatClampNeg = ds (rcc x.toNatClampNeg).toNatClampNeg - ks (rcc x.toNatClampNeg).toNatClampNeg * (-u).toInt64 / (kw (rcc x.toNatClampNeg).toNatClampNeg).toInt64)) := by
    intro ds' h0 h1 h2 h3
    unfold f_X0_flowByRiver_b70
    refine pa_ck (fun _ => pa_ck (fun _ => pa_nm (fun a3 e3 => pa_some ⟨fun j hj => ⟨?_, h0 j hj⟩, ?_, h1, h2, h3⟩)))
    · show a3 j = _
      rw [e3, up_ne hj]
    · show a3 _ = _
      rw [e3, up_at]
  unfold f_X0_flowByRiver
  refine pa_ck (fun _ => pa_bd c_riverFlow (fun o2 h2 => ?_))
  have h2 : o2 = u := h2.trans hu
  subst h2
  refine pa_if (fun z => pa_if (fun y => ?_) (fun y => pa_ck (fun _ => ?_))) (fun z => pa_ck (fun _ => pa_ck (fun _ => pa_ck (fun _ => pa_nm (fun a12 e12 => ?_)))))
  · have z1 := le_k (k := 0) rfl z
    have y1 := k_le (k := 0) rfl y
    exact b70 ds (fun j _ => rfl) (fun q => absurd q (by omega)) (fun _ => rfl) (fun q => absurd q (by omega))
  · have y1 := k_nle (k := 0) rfl y
    refine pa_bd (c_saltAlong (hw y1)) (fun o6 h6 => pa_ck (fun _ => pa_nm (fun a8 e8 => b70 a8 (fun j hj => by rw [e8, upL_ne hj]) (fun q => absurd q (by omega)) (fun q => absurd q (by omega)) (fun _ => by rw [e8, upL_at, h6]))))
  · have z1 := nle_k (k := 0) rfl z
    exact b70 a12 (fun j hj => by rw [e12, upL_ne hj]) (fun _ => by rw [e12, upL_at]) (fun q => absurd q (by omega)) (fun q => absurd q (by omega))
abbrev OT : Type := Int32 × Int32 × (Nat → Int32) × (Nat → Int32) × (Nat → Int32) × (Nat → Int64) × (Nat → Int32) × Int32 × (Nat → Int32) × (Nat → Int64) × (Nat → Int32) × (Nat → Int32) × (Nat → Int32) × (Nat → Int32) × (Nat → Int32)
/-- behind all flows -/
def FE (ce : Int) (pumped today : Int32) (lacked level kw : Nat → Int32) (ks : Nat → Int64) (stack : Nat → Int32) (day : Int32) (seen took dry first total : Nat → Int32) (row : Nat → Int64) (a : OT) (b : Int64 × (Nat → Int64) × (Nat → Int64) × (Nat → Int64)) : Prop := ∃ (dw : Nat → Int32) (ds : Nat → Int64), a = (pumped, today, lacked, level, kw, ks, stack, day + 1, dw, ds, seen, took, dry, first, total) ∧ (∀ c : Nat, (c : Int) < ce → dw c = (b.2.1 c).toInt32 ∧ ds c = b.2.1 (12 + c)) ∧ ∀ j, 24 ≤ j → b.2.1 j = row j
set_option maxHeartbeats 8000000 in
theorem j_fl107 {live ch ca_ ce ri pumped today day : Int32} {M : Int} {lacked level kw stack seen took dry first total rcc rlc rsc rwc cells mro rivers rc rl rw rs : Nat → Int32} {ks row : Nat → Int64} (hl : 0 ≤ live.toInt ∧ live.toInt ≤ 1) (hm : cells live.toNatClampNeg = ce) (hc : 0 ≤ ce.toInt ∧ ce.toInt ≤ 12) (hM : M ≤ 200000000) (hM0 : 999 ≤ M) (hK : HK live ce.toInt M mro level kw ks row) (hri : rivers live.toNatClampNeg = ri) (hr3 : 0 ≤ ri.toInt ∧ ri.toInt ≤ 3)
    (hR : ∀ x : Int32, 0 ≤ x.toInt → x.toInt < ri.toInt → rc (3 * live.toNatClampNeg + x.toNatClampNeg) = rcc x.toNatClampNeg ∧ rl (3 * live.toNatClampNeg + x.toNatClampNeg) = rlc x.toNatClampNeg ∧ rs (3 * live.toNatClampNeg + x.toNatClampNeg) = rsc x.toNatClampNeg ∧ 0 ≤ (rcc x.toNatClampNeg).toInt ∧ (rcc x.toNatClampNeg).toInt < ce.toInt ∧ rg (rlc x.toNatClampNeg) 0 999 ∧ rg (rwc x.toNatClampNeg) 0 10 ∧ (ch = 2 ∧ ca_ = x → rwc x.toNatClampNeg = 0) ∧ (¬ (ch = 2 ∧ ca_ = x) → rwc x.toNatClampNeg = rw (3 * live.toNatClampNeg + x.toNatClampNeg))) :
    ∀ (n m : Nat) (dw : Nat → Int32) (ds : Nat → Int64) (ra : Int64) (more ms : Nat → Int64) (x : Int32), 0 ≤ x.toInt → x.toInt ≤ ri.toInt → FN ce.toInt dw ds row more ms → pj (f_X0_oneDay_b107 ri rcc rlc rsc rwc n pumped today lacked level kw ks stack day dw ds seen took dry first total x) (f_X7_flows_b179 live ch ca_ cells mro rivers rc rl rw rs m ra row more ms x) (FE ce.toInt pumped today lacked level kw ks stack day seen took dry first total row) := by
  intro n
  induction n with
  | zero => intro m dw ds ra more ms x _ _ _; exact pj_nl
  | succ n ih =>
    intro m dw ds ra more ms x hx0 hx1 hF
    cases m with
    | zero => exact pj_nr
    | succ m =>
    show pj (f_X0_oneDay_b107_st (f_X0_oneDay_b107 ri rcc rlc rsc rwc n) ri rcc rlc rsc rwc pumped today lacked level kw ks stack day dw ds seen took dry first total x) (f_X7_flows_b179_st (f_X7_flows_b179 live ch ca_ cells mro rivers rc rl rw rs m) live ch ca_ cells mro rivers rc rl rw rs ra row more ms x) _
    unfold f_X0_oneDay_b107_st f_X7_flows_b179_st
    by_cases hx2 : x.toInt = ri.toInt
    · refine pj_ckr (fun _ => pj_ifl (fun _ => pj_ifr (fun _ => ?_) (fun z => ?_)) (fun z => ?_))
      · refine pj_of (P := fun a => a = (pumped, today, lacked, level, kw, ks, stack, day + 1, dw, ds, seen, took, dry, first, total)) (pa_some rfl) (m_286 (row0 := row) hm hc fuel ra row 0 0 rfl hc.1 (fun j _ => by rw [if_neg (Nat.not_lt_zero j)]) (fun j _ => by rw [if_neg (Nat.not_lt_zero j)]) (fun j _ => rfl)) (fun a b ha hb => ?_)
        obtain ⟨_, b2, b3⟩ := hb
        refine ⟨dw, ds, ha, fun c hc2 => ?_, b3⟩
        rw [(b2 c hc2).1, (b2 c hc2).2]
        exact hF c hc2
      · have := ti_nle z
        rw [hri] at this
        omega
      · have := ti_nle z
        omega
    have hx3 : x.toInt < ri.toInt := by omega
    obtain ⟨r1, r2, r3, r4, r5, r6, r7, r8, r9⟩ := hR x hx0 hx3
    have t1 := add_k (x := x) (v := 1) (k := 1) rfl (by omega) (by omega)
    have eC : ((rcc x.toNatClampNeg).toNatClampNeg : Int) = (rcc x.toNatClampNeg).toInt := cl_k r4
    obtain ⟨k1, k2, k3, k4, k5, k6⟩ := hK (rcc x.toNatClampNeg).toNatClampNeg (by omega)
    have s3 : (((3 : Int32) * live) + x).toNatClampNeg = 3 * live.toNatClampNeg + x.toNatClampNeg := cl_S (k := 3) rfl (by decide) hl hx0 (by omega)
    obtain ⟨q1, q2⟩ := fl_eq (a := rlc x.toNatClampNeg) (b := level (rcc x.toNatClampNeg).toNatClampNeg) (w := rwc x.toNatClampNeg) hM ⟨r6.1, Int.le_trans r6.2 hM0⟩ ⟨k4, k5⟩ r7
    obtain ⟨g1, g2, g3, g4⟩ := fl_sign (a := rlc x.toNatClampNeg) (b := level (rcc x.toNatClampNeg).toNatClampNeg) (w := rwc x.toNatClampNeg) hM ⟨r6.1, Int.le_trans r6.2 hM0⟩ ⟨k4, k5⟩ r7
    have mr := m_byRiver (ch := ch) (ca_ := ca_) (level := level) (mro := mro) (row := row) (rw0 := rwc x.toNatClampNeg) (rw := rw) hl hx0 (by omega) r1 r2 ⟨r4, by omega⟩ k1 r8 r9
    rw [← q1] at mr
    rw [s3, r1, r3]
    refine pj_ckr (fun _ => pj_ifl (fun z => ?_) (fun _ => pj_ifr (fun z => ?_) (fun _ => ?_)))
    · have := ti_le z
      omega
    · have := ti_le z
      rw [hri] at this
      omega
    obtain ⟨u, hu⟩ : ∃ u, (rlc x.toNatClampNeg - level (rcc x.toNatClampNeg).toNatClampNeg) * rwc x.toNatClampNeg / (100 : Int32) = u := ⟨_, rfl⟩
    rw [hu] at mr g1 g2 g3 g4
    have eu := Jvm.Kit.i64_of_i32 u
    have e00 : (0 : Int64).toInt = 0 := rfl
    refine pj_bl2 (c_flowByRiver hu (fun q => by have := g2 q; omega)) (fun w' s' hd => pj_br mr (fun o3 h3 => pj_ckr (fun _ => pj_nrg (fun e5 he5 => ?_))))
    subst h3
    subst he5
    obtain ⟨d1, d2, d3, d4, d5⟩ := hd
    have d1 : ∀ j, ¬ j = (rcc x.toNatClampNeg).toNatClampNeg → w' j = dw j ∧ s' j = ds j := d1
    have d2 : w' (rcc x.toNatClampNeg).toNatClampNeg = dw (rcc x.toNatClampNeg).toNatClampNeg + u := d2
    refine pj_ifr (fun z => ?_) (fun z => ?_)
    · have z1 := Int64.le_iff_toInt_le.mp ((lg_cmp_ge _ _).mp z)
      rw [e00, eu] at z1
      refine pj_ckr (fun _ => pj_ckr (fun _ => pj_nrg (fun a9 e9 => pj_ckr (fun _ => pj_ckr (fun _ => pj_ckr (fun _ => pj_nrg (fun a13 e13 => ?_)))))))
      refine ih m w' s' _ a9 a13 (x + 1) (by omega) (by omega) (FN_one hF d1 (fun j hj => ⟨by rw [e9, upL_ne hj], by rw [e13, upL_ne hj]⟩) (fun q => ?_) (fun q => ?_))
      · rw [d2, e9, upL_at, w_add, q]
      · rw [e13, upL_at, s_add, ← q]
        by_cases y : u.toInt = 0
        · have d6 : s' (rcc x.toNatClampNeg).toNatClampNeg = ds (rcc x.toNatClampNeg).toNatClampNeg := d4 y
          rw [d6, l_0 y, Int64.zero_mul, Int64.add_zero]
        · exact d3 (by omega)
    · have z1 : ¬ (0 : Int64).toInt ≤ u.toInt64.toInt := fun q => z ((lg_cmp_ge _ _).mpr (Int64.le_iff_toInt_le.mpr q))
      rw [e00, eu] at z1
      rw [← l_neg (by omega)]
      refine pj_br3 (m_leaves r4 (by omega)) (fun o0 o1 o2 ho => ?_)
      obtain ⟨_, h2, h3, h4⟩ := ho
      refine ih m w' s' _ o1 o2 (x + 1) (by omega) (by omega) (FN_one hF d1 h2 (fun q => ?_) (fun q => ?_))
      · have h3 : o1 (rcc x.toNatClampNeg).toNatClampNeg = more (rcc x.toNatClampNeg).toNatClampNeg - (-u).toInt64 := h3
        rw [d2, h3, w_sub, q, Int32.sub_neg]
      · have h4 : o2 (rcc x.toNatClampNeg).toNatClampNeg = ms (rcc x.toNatClampNeg).toNatClampNeg - row (12 + (rcc x.toNatClampNeg).toNatClampNeg) * (-u).toInt64 / row (rcc x.toNatClampNeg).toNatClampNeg := h4
        have d6 : s' (rcc x.toNatClampNeg).toNatClampNeg = ds (rcc x.toNatClampNeg).toNatClampNeg - ks (rcc x.toNatClampNeg).toNatClampNeg * (-u).toInt64 / (kw (rcc x.toNatClampNeg).toNatClampNeg).toInt64 := d5 (by omega)
        rw [d6, h4, s_sub, ← q, k3, k2]
theorem FN_same {ce : Int} {dw : Nat → Int32} {ds row more ms more' ms' : Nat → Int64} {F T : Nat} {u s : Int64} (h : FN ce dw ds row more ms) (hu : u = 0) (hs : s = 0) (m0 : ∀ j, ¬ j = F → ¬ j = T → more' j = more j ∧ ms' j = ms j) (m1 : more' F = more F - u) (m2 : ms' F = ms F - s) (m3 : more' T = more T + u) (m4 : ms' T = ms T + s) : FN ce dw ds row more' ms' := by
  intro c hc
  obtain ⟨h1, h2⟩ := h c hc
  by_cases q : c = F
  · subst q
    exact ⟨by rw [m1, hu, Int64.sub_zero]; exact h1, by rw [m2, hs, Int64.sub_zero]; exact h2⟩
  · by_cases r : c = T
    · subst r
      exact ⟨by rw [m3, hu, Int64.add_zero]; exact h1, by rw [m4, hs, Int64.add_zero]; exact h2⟩
    · rw [(m0 c q r).1, (m0 c q r).2]
      exact ⟨h1, h2⟩
set_option maxHeartbeats 8000000 in
theorem j_fl22 {live ch ca_ ce ri pp pumped today day : Int32} {M : Int} {lacked level kw stack seen took dry first total pfc ptc pwc rcc rlc rsc rwc cells mro passes one oth wide rivers rc rl rw rs : Nat → Int32} {ks row : Nat → Int64} (hl : 0 ≤ live.toInt ∧ live.toInt ≤ 1) (hm : cells live.toNatClampNeg = ce) (hc : 0 ≤ ce.toInt ∧ ce.toInt ≤ 12) (hM : M ≤ 200000000) (hM0 : 999 ≤ M) (hK : HK live ce.toInt M mro level kw ks row) (hri : rivers live.toNatClampNeg = ri) (hr3 : 0 ≤ ri.toInt ∧ ri.toInt ≤ 3) (hpp : passes live.toNatClampNeg = pp) (hp20 : 0 ≤ pp.toInt ∧ pp.toInt ≤ 20)
    (hP : ∀ x : Int32, 0 ≤ x.toInt → x.toInt < pp.toInt → one (20 * live.toNatClampNeg + x.toNatClampNeg) = pfc x.toNatClampNeg ∧ oth (20 * live.toNatClampNeg + x.toNatClampNeg) = ptc x.toNatClampNeg ∧ (0 ≤ (pfc x.toNatClampNeg).toInt ∧ (pfc x.toNatClampNeg).toInt < ce.toInt) ∧ (0 ≤ (ptc x.toNatClampNeg).toInt ∧ (ptc x.toNatClampNeg).toInt < ce.toInt) ∧ ¬ pfc x.toNatClampNeg = ptc x.toNatClampNeg ∧ rg (pwc x.toNatClampNeg) 0 10 ∧ (ch = 1 ∧ ca_ = x → pwc x.toNatClampNeg = 0) ∧ (¬ (ch = 1 ∧ ca_ = x) → pwc x.toNatClampNeg = wide x.toNatClampNeg))
    (hR : ∀ x : Int32, 0 ≤ x.toInt → x.toInt < ri.toInt → rc (3 * live.toNatClampNeg + x.toNatClampNeg) = rcc x.toNatClampNeg ∧ rl (3 * live.toNatClampNeg + x.toNatClampNeg) = rlc x.toNatClampNeg ∧ rs (3 * live.toNatClampNeg + x.toNatClampNeg) = rsc x.toNatClampNeg ∧ 0 ≤ (rcc x.toNatClampNeg).toInt ∧ (rcc x.toNatClampNeg).toInt < ce.toInt ∧ rg (rlc x.toNatClampNeg) 0 999 ∧ rg (rwc x.toNatClampNeg) 0 10 ∧ (ch = 2 ∧ ca_ = x → rwc x.toNatClampNeg = 0) ∧ (¬ (ch = 2 ∧ ca_ = x) → rwc x.toNatClampNeg = rw (3 * live.toNatClampNeg + x.toNatClampNeg))) :
    ∀ (n m : Nat) (dw : Nat → Int32) (ds : Nat → Int64) (ra : Int64) (more ms : Nat → Int64) (x : Int32), 0 ≤ x.toInt → x.toInt ≤ pp.toInt → FN ce.toInt dw ds row more ms → pj (f_X0_oneDay_b22 pp ri pfc ptc rcc rlc rsc pwc rwc n pumped today lacked level kw ks stack day dw ds seen took dry first total x) (f_X7_flows_b30 live ch ca_ cells mro passes one oth rivers rc rl rw rs wide m ra row more ms x) (FE ce.toInt pumped today lacked level kw ks stack day seen took dry first total row) := by
  intro n
  induction n with
  | zero => intro m dw ds ra more ms x _ _ _; exact pj_nl
  | succ n ih =>
    intro m dw ds ra more ms x hx0 hx1 hF
    cases m with
    | zero => exact pj_nr
    | succ m =>
    show pj (f_X0_oneDay_b22_st (f_X0_oneDay_b22 pp ri pfc ptc rcc rlc rsc pwc rwc n) pp ri pfc ptc rcc rlc rsc pwc rwc pumped today lacked level kw ks stack day dw ds seen took dry first total x) (f_X7_flows_b30_st (f_X7_flows_b30 live ch ca_ cells mro passes one oth rivers rc rl rw rs wide m) live ch ca_ cells mro passes one oth rivers rc rl rw rs wide ra row more ms x) _
    unfold f_X0_oneDay_b22_st f_X7_flows_b30_st
    by_cases hx2 : x.toInt = pp.toInt
    · refine pj_ckr (fun _ => pj_ifl (fun _ => pj_ifr (fun _ => ?_) (fun z => ?_)) (fun z => ?_))
      · exact j_fl107 hl hm hc hM hM0 hK hri hr3 hR fuel fuel dw ds ra more ms 0 (by decide) hr3.1 hF
      · have := ti_nle z
        rw [hpp] at this
        omega
      · have := ti_nle z
        omega
    have hx3 : x.toInt < pp.toInt := by omega
    obtain ⟨r1, r2, r3, r4, r5, r6, r7, r8⟩ := hP x hx0 hx3
    have t1 := add_k (x := x) (v := 1) (k := 1) rfl (by omega) (by omega)
    have eA : ((pfc x.toNatClampNeg).toNatClampNeg : Int) = (pfc x.toNatClampNeg).toInt := cl_k r3.1
    have eB : ((ptc x.toNatClampNeg).toNatClampNeg : Int) = (ptc x.toNatClampNeg).toInt := cl_k r4.1
    have hAB : ¬ (pfc x.toNatClampNeg).toNatClampNeg = (ptc x.toNatClampNeg).toNatClampNeg := fun q => r5 (Int32.toInt_inj.mp (by omega))
    have hBA : ¬ (ptc x.toNatClampNeg).toNatClampNeg = (pfc x.toNatClampNeg).toNatClampNeg := fun q => hAB q.symm
    obtain ⟨k1, k2, k3, k4, k5, k6⟩ := hK (pfc x.toNatClampNeg).toNatClampNeg (by omega)
    obtain ⟨n1, n2, n3, n4, n5, n6⟩ := hK (ptc x.toNatClampNeg).toNatClampNeg (by omega)
    have s20 : (((20 : Int32) * live) + x).toNatClampNeg = 20 * live.toNatClampNeg + x.toNatClampNeg := cl_S (k := 20) rfl (by decide) hl hx0 (by omega)
    obtain ⟨q1, q2⟩ := fl_eq (a := level (pfc x.toNatClampNeg).toNatClampNeg) (b := level (ptc x.toNatClampNeg).toNatClampNeg) (w := pwc x.toNatClampNeg) hM ⟨k4, k5⟩ ⟨n4, n5⟩ r6
    obtain ⟨g1, g2, g3, g4⟩ := fl_sign (a := level (pfc x.toNatClampNeg).toNatClampNeg) (b := level (ptc x.toNatClampNeg).toNatClampNeg) (w := pwc x.toNatClampNeg) hM ⟨k4, k5⟩ ⟨n4, n5⟩ r6
    have mr := m_overPass (ch := ch) (ca_ := ca_) (level := level) (mro := mro) (row := row) (pw := pwc x.toNatClampNeg) (wide := wide) hl hx0 (by omega) r1 r2 ⟨r3.1, by omega⟩ ⟨r4.1, by omega⟩ k1 n1 r7 r8
    rw [← q1] at mr
    obtain ⟨u, hu⟩ : ∃ u, (level (pfc x.toNatClampNeg).toNatClampNeg - level (ptc x.toNatClampNeg).toNatClampNeg) * pwc x.toNatClampNeg / (100 : Int32) = u := ⟨_, rfl⟩
    rw [hu] at mr g1 g2 g3 g4
    have eu := Jvm.Kit.i64_of_i32 u
    have e00 : (0 : Int64).toInt = 0 := rfl
    have z32 : (0 : Int32).toInt = 0 := rfl
    refine pj_ckr (fun _ => pj_ifl (fun z => ?_) (fun _ => pj_ifr (fun z => ?_) (fun _ => ?_)))
    · have := ti_le z
      omega
    · have := ti_le z
      rw [hpp] at this
      omega
    refine pj_bl c_passFlow (fun o2 h2 => pj_br mr (fun o3 h3 => ?_))
    have h2 : o2 = u := h2.trans hu
    subst h2
    subst h3
    have en : -o2.toInt64 = (-o2).toInt64 := (l_neg (by omega)).symm
    have tn : (-o2).toInt = -o2.toInt := Jvm.Kit.i32_neg (by omega)
    rw [s20, r1, r2]
    by_cases hs : o2.toInt ≤ 0
    · have hc0 : lg_cmp o2.toInt64 (0 : Int64) ≤ (0 : Int32) := (lg_cmp_le _ _).mpr (Int64.le_iff_toInt_le.mpr (by rw [eu, e00]; exact hs))
      refine pj_ifr (fun _ => pj_ckr (fun _ => ?_)) (fun z => absurd hc0 z)
      unfold f_X7_flows_b86
      rw [s20, r1, r2]
      refine pj_ifr (fun _ => pj_ckr (fun _ => ?_)) (fun z => absurd hc0 z)
      unfold f_X7_flows_b125
      refine pj_ifr (fun _ => ?_) (fun z => absurd hc0 z)
      rw [en]
      refine pj_139 _ r4.1 (by omega) hBA (fun more' ms' m0 m1 m2 m3 m4 => ?_)
      refine pj_ifl (fun _ => pj_ifl (fun y => ?_) (fun y => pj_ckl (fun _ => pj_ckl (fun _ => ?_)))) (fun z => absurd (Int32.le_iff_toInt_le.mpr (by rw [z32]; exact hs)) z)
      · have y1 := k_le (k := 0) rfl y
        have z0 : (-o2).toInt64 = 0 := l_0 (by omega)
        exact ih m dw ds ra more' ms' (x + 1) (by omega) (by omega) (FN_same hF z0 (by rw [z0, l_z0]) m0 m1 m2 m3 m4)
      · have y1 := k_nle (k := 0) rfl y
        refine pj_bl2 (c_move (by have := g2 y1; omega) hBA) (fun w' s' hd => ?_)
        obtain ⟨d0, d1, d2, d3, d4⟩ := hd
        rw [n3, n2] at m2 m4
        exact ih m w' s' ra more' ms' (x + 1) (by omega) (by omega) (FN_pass hF hBA d0 d1 d2 d3 d4 m0 m1 m2 m3 m4)
    · have hc0 : ¬ lg_cmp o2.toInt64 (0 : Int64) ≤ (0 : Int32) := fun q => hs (by have := Int64.le_iff_toInt_le.mp ((lg_cmp_le _ _).mp q); rw [eu, e00] at this; exact this)
      refine pj_ifr (fun z => absurd z hc0) (fun _ => pj_ckr (fun _ => ?_))
      unfold f_X7_flows_b86
      rw [s20, r1, r2]
      refine pj_ifr (fun z => absurd z hc0) (fun _ => pj_ckr (fun _ => ?_))
      unfold f_X7_flows_b125
      refine pj_ifr (fun z => absurd z hc0) (fun _ => ?_)
      refine pj_139 _ r3.1 (by omega) hAB (fun more' ms' m0 m1 m2 m3 m4 => ?_)
      refine pj_ifl (fun z => absurd (le_k (k := 0) rfl z) hs) (fun _ => pj_ckl (fun _ => pj_ckl (fun _ => ?_)))
      refine pj_bl2 (c_move (by have := g1 (by omega); omega) hAB) (fun w' s' hd => ?_)
      obtain ⟨d0, d1, d2, d3, d4⟩ := hd
      rw [k3, k2] at m2 m4
      exact ih m w' s' ra more' ms' (x + 1) (by omega) (by omega) (FN_pass hF hAB d0 d1 d2 d3 d4 m0 m1 m2 m3 m4)
theorem j_fl2 {α : Type} {f : Option α} {R : α → Int64 × (Nat → Int64) × (Nat → Int64) × (Nat → Int64) → Prop} {live ch ca_ : Int32} {cells mro passes one oth wide rivers rc rl rw rs : Nat → Int32} {row : Nat → Int64} (h : ∀ (m : Nat) (ra : Int64) (more ms : Nat → Int64), (∀ c : Nat, c < 12 → more c = 0 ∧ ms c = 0) → pj f (f_X7_flows_b30 live ch ca_ cells mro passes one oth rivers rc rl rw rs wide m ra row more ms 0) R) : ∀ (m : Nat) (ra : Int64) (more ms : Nat → Int64) (x1 : Int32) (i : Nat), x1.toInt = (i : Int) → i ≤ 12 → (∀ c : Nat, c < i → more c = 0 ∧ ms c = 0) → pj f (f_X7_flows_b2 live ch ca_ cells mro passes one oth rivers rc rl rw rs wide m ra row more ms x1) R := by
  intro m
  induction m with
  | zero => intro ra more ms x1 i _ _ _; exact pj_nr
  | succ m ih =>
    intro ra more ms x1 i h1 hi hz
    show pj f (f_X7_flows_b2_st (f_X7_flows_b2 live ch ca_ cells mro passes one oth rivers rc rl rw rs wide m) live ch ca_ cells mro passes one oth rivers rc rl rw rs wide ra row more ms x1) R
    unfold f_X7_flows_b2_st
    refine pj_ifr (fun z => h fuel ra more ms (fun c hc => hz c ?_)) (fun z => pj_ckr (fun _ => pj_nrg (fun a3 e3 => pj_ckr (fun _ => pj_nrg (fun a5 e5 => ?_)))))
    · have := k_le (k := 12) rfl z
      omega
    · have g := k_nle (k := 12) rfl z
      have t1 := add_k (x := x1) (v := 1) (k := 1) rfl (by omega) (by omega)
      have e : x1.toNatClampNeg = i := by have : (x1.toNatClampNeg : Int) = x1.toInt := cl_k (by omega); omega
      rw [e] at e3 e5
      refine ih ra a3 a5 (x1 + 1) (i + 1) (by omega) (by omega) (fun c hc => ?_)
      by_cases q : c = i
      · rw [q, e3, e5, upL_at, upL_at]
        exact ⟨rfl, rfl⟩
      · rw [e3, e5, upL_ne q, upL_ne q]
        exact hz c (by omega)
theorem c_look {ce : Int32} {room dw : Nat → Int32} {ds : Nat → Int64} (hc : 0 ≤ ce.toInt ∧ ce.toInt ≤ 12) (hr : ∀ c : Nat, (c : Int) < ce.toInt → 1 ≤ (room c).toInt) : ∀ (n : Nat) (lev kw : Nat → Int32) (ks : Nat → Int64) (x2 : Int32) (i : Nat), x2.toInt = (i : Int) → (i : Int) ≤ ce.toInt → (∀ c : Nat, c < i → lev c = dw c / room c ∧ kw c = dw c ∧ ks c = ds c) → pa (f_X0_lookAtLevels_b2 ce room dw ds n lev kw ks x2) (fun o => ∀ c : Nat, (c : Int) < ce.toInt → o.1 c = dw c / room c ∧ o.2.1 c = dw c ∧ o.2.2 c = ds c) := by
  intro n
  induction n with
  | zero => intro lev kw ks x2 i _ _ _; exact pa_none
  | succ n ih =>
    intro lev kw ks x2 i h1 hi hz
    show pa (f_X0_lookAtLevels_b2_st (f_X0_lookAtLevels_b2 ce room dw ds n) ce room dw ds lev kw ks x2) _
    unfold f_X0_lookAtLevels_b2_st
    refine pa_if (fun z => pa_some (fun c hc2 => hz c ?_)) (fun z => ?_)
    · have := ti_le z
      omega
    · have g := ti_nle z
      have t1 := add_k (x := x2) (v := 1) (k := 1) rfl (by omega) (by omega)
      have e : x2.toNatClampNeg = i := by have : (x2.toNatClampNeg : Int) = x2.toInt := cl_k (by omega); omega
      refine pa_ck (fun _ => pa_bd (c_lev (by rw [e]; exact hr i (by omega))) (fun o3 h3 => pa_ck (fun _ => pa_nm (fun a5 e5 => pa_ck (fun _ => pa_ck (fun _ => pa_nm (fun a8 e8 => pa_ck (fun _ => pa_ck (fun _ => pa_nm (fun a11 e11 => ?_))))))))))
      rw [e] at h3 e5 e8 e11
      refine ih a5 a8 a11 (x2 + 1) (i + 1) (by omega) (by omega) (fun c hc2 => ?_)
      by_cases q : c = i
      · rw [q, e5, e8, e11, up_at, up_at, upL_at, h3]
        exact ⟨rfl, rfl, rfl⟩
      · rw [e5, e8, e11, up_ne q, up_ne q, upL_ne q]
        exact hz c (by omega)
