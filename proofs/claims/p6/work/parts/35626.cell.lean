/-! cell: on both sides -/
/-- how SALTY -/
def SV (s : Int64) (w : Int32) : Int64 := if (1 : Int32) ≤ w then (if s * (100 : Int64) / w.toInt64 < (1000000000 : Int64) then s * (100 : Int64) / w.toInt64 else (1000000000 : Int64)) else 0
theorem c_saltyOf {water : Nat → Int32} {salt : Nat → Int64} {q : Int32} : pa (f_X1_saltyOf water salt q) (fun o => o = (SV (salt q.toNatClampNeg) (water q.toNatClampNeg)).toInt32) := by
  unfold f_X1_saltyOf SV
  refine pa_ck (fun _ => pa_if (fun z => pa_ck (fun _ => pa_ck (fun _ => pa_ck (fun _ => pa_some ?_)))) (fun z => pa_some ?_))
  · rw [if_pos z]
  · rw [if_neg z]; rfl
theorem m_salt17 {t : Int64} : pa (f_X7_saltIn_b17 t) (fun o => o = if t < (1000000000 : Int64) then t else (1000000000 : Int64)) := by
  unfold f_X7_saltIn_b17
  refine pa_if (fun z => pa_some ?_) (fun z => pa_some ?_)
  · have z2 := Int64.le_iff_toInt_le.mp ((lg_cmp_le _ _).mp z)
    by_cases q : t < (1000000000 : Int64)
    · rw [if_pos q]
    · rw [if_neg q]
      have q2 : ¬ t.toInt < (1000000000 : Int64).toInt := fun w => q (Int64.lt_iff_toInt_lt.mpr w)
      exact Int64.toInt_inj.mp (by omega)
  · have z2 : ¬ t.toInt ≤ (1000000000 : Int64).toInt := fun w => z ((lg_cmp_le _ _).mpr (Int64.le_iff_toInt_le.mpr w))
    rw [if_neg (fun w => z2 (Int.le_of_lt (Int64.lt_iff_toInt_lt.mp w)))]
theorem m_saltIn {s : Int64} {w : Int32} (h : 0 ≤ w.toInt) : pa (f_X7_saltIn s w.toInt64) (fun o => o = SV s w) := by
  have ew := Jvm.Kit.i64_of_i32 w
  have e1 : (1 : Int32).toInt = 1 := rfl
  have e0 : (0 : Int64).toInt = 0 := rfl
  unfold f_X7_saltIn SV
  refine pa_if (fun z => ?_) (fun z => ?_)
  · have z2 : w.toInt64 = 0 := (lg_cmp_eq _ _).mp z
    rw [z2] at ew
    rw [if_neg (fun q => by have := Int32.le_iff_toInt_le.mp q; omega)]
    exact pa_w m_salt17 (fun o ho => by rw [ho, if_pos (by decide)])
  · have z2 : ¬ w.toInt = 0 := fun q => z ((lg_cmp_eq _ _).mpr (Int64.toInt_inj.mp (by omega)))
    rw [if_pos (Int32.le_iff_toInt_le.mpr (by omega))]
    exact pa_ck (fun _ => m_salt17)
theorem q_cell {live ce q1 q2 day : Int32} {vi d B : Int} {room ways water seen took dry first total mc mro mwy : Nat → Int32} {salt now : Nat → Int64} (hl : 0 ≤ live.toInt ∧ live.toInt ≤ 1) (hc : mc live.toNatClampNeg = ce) (hce : 0 ≤ ce.toInt ∧ ce.toInt ≤ 12) (a0 : AL room mro (12 * live.toNatClampNeg) ce.toInt) (aw : AL ways mwy (12 * live.toNatClampNeg) ce.toInt) (g : GC live mc mro) (hrd : RD live mc mro now day B) (hDA : DA ce.toInt vi d water salt seen took dry first total now) : pj (f_X6_cell ce room ways water salt seen q1 q2) (f_X7_cell live mc mro mwy now q1 q2) (fun a b => a = b) := by
  unfold f_X6_cell f_X7_cell
  refine pj_G (j_isC hc hce) (pj_ss rfl) (fun d1 d2 => ?_)
  have eq1 : (q1.toNatClampNeg : Int) = q1.toInt := cl_k d1
  have n12 : ((12 : Int32) + q1).toNatClampNeg = 12 + q1.toNatClampNeg := cl_K (k := 12) rfl (by decide) d1 (by omega)
  have n24 : ((24 : Int32) + q1).toNatClampNeg = 24 + q1.toNatClampNeg := cl_K (k := 24) rfl (by decide) d1 (by omega)
  have nw : (((12 : Int32) * live) + q1).toNatClampNeg = 12 * live.toNatClampNeg + q1.toNatClampNeg := cl_S (k := 12) rfl (by decide) hl d1 (by omega)
  obtain ⟨w1, w2⟩ := hDA.1 q1.toNatClampNeg (by omega)
  have s1 := hDA.2.1 q1.toNatClampNeg (by omega)
  have rr := a0 q1.toNatClampNeg (by omega)
  have wy := aw q1.toNatClampNeg (by omega)
  have h9 : rg (mro (((12 : Int32) * live) + q1).toNatClampNeg) 1 9 := g.2.2 q1 d1 (by show q1.toInt < (mc live.toNatClampNeg).toInt; rw [hc]; omega)
  rw [nw, ← rr] at h9
  have hr1 := h9.1
  have hw0 : 0 ≤ (now q1.toNatClampNeg).toInt := (hrd.2.2 q1 d1 (by show q1.toInt < (mc live.toNatClampNeg).toInt; rw [hc]; omega)).1
  rw [l_ti w1] at hw0
  rw [n12, n24, nw, w1, w2, s1]
  refine pj_if2 (fun _ => pj_ckl (fun _ => pj_ckr (fun _ => pj_br (m_whole _) (fun o ho => pj_ss ?_)))) (fun _ => pj_if2 (fun _ => pj_ckl (fun _ => pj_bl (c_lev hr1) (fun u hu => pj_ckr (fun _ => pj_br (m_room hl d1 (by omega)) (fun o ho => pj_ckr (fun _ => pj_br (m_whole _) (fun v hv => pj_ss ?_))))))) (fun _ => pj_if2 (fun _ => pj_ckl (fun _ => pj_ckr (fun _ => pj_br (m_whole _) (fun o ho => pj_ss ?_)))) (fun _ => pj_if2 (fun _ => pj_ckl (fun _ => pj_ckr (fun _ => pj_br (m_whole _) (fun o ho => pj_ss ho.symm)))) (fun _ => pj_if2 (fun _ => pj_bl c_saltyOf (fun u hu => pj_ckr (fun _ => pj_ckr (fun _ => pj_br (m_saltIn hw0) (fun o ho => pj_br (m_whole _) (fun v hv => pj_ss ?_)))))) (fun _ => pj_if2 (fun _ => pj_ckl (fun _ => pj_br (m_room hl d1 (by omega)) (fun o ho => pj_ss ?_))) (fun _ => pj_if2 (fun _ => pj_ckl (fun _ => pj_ckr (fun _ => pj_ss wy))) (fun _ => pj_ss rfl)))))))
  · rw [ho, l_32]
  · rw [hu, hv, ho, ← rr, ← l_div hr1, l_32]
  · rw [ho, l_32]
  · rw [hu, hv, ho]
  · rw [ho]
    exact rr
