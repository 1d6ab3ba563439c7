/-! the rain of a day, on both sides -/
theorem xor_nn {a b : Int32} (ha : 0 ≤ a.toInt) (hb : 0 ≤ b.toInt) : (0 : Int32) ≤ a ^^^ b := by
  refine Int32.le_iff_toInt_le.mpr ?_
  have h : (a ^^^ b).toBitVec.msb = false := by
    rw [Int32.toBitVec_xor, BitVec.msb_xor, BitVec.msb_eq_toInt, BitVec.msb_eq_toInt, decide_eq_false (show ¬ a.toBitVec.toInt < 0 from Int.not_lt.mpr ha), decide_eq_false (show ¬ b.toBitVec.toInt < 0 from Int.not_lt.mpr hb)]
    rfl
  rw [BitVec.msb_eq_toInt] at h
  exact Int.not_lt.mp (of_decide_eq_false h)
theorem c_floor {a b : Int32} (ha : 0 ≤ a.toInt) (hb : 0 ≤ b.toInt) : pa (f_J9_floorMod_7cf53 a b) (fun o => o = a - a / b * b) := by
  unfold f_J9_floorMod_7cf53
  exact pa_ck (fun _ => pa_if (fun _ => pa_some rfl) (fun z => absurd (xor_nn ha hb) z))
/-- what falls on a day; rn, rnow: the row of rains that a run goes by -/
theorem j_rain {live ra d : Int32} {mra rn rnow : Nat → Int32} (hr : mra live.toNatClampNeg = ra) (h0 : 0 ≤ ra.toInt) (hd : 0 ≤ d.toInt) (hn : ∀ i : Nat, (i : Int) < ra.toInt → rn i = rnow i) (hm : 0 < ra.toInt → 0 ≤ (d - d / ra * ra).toInt ∧ (d - d / ra * ra).toInt < ra.toInt) : pj (f_X0_rainOf ra rn d) (f_X7_rainOf live mra rnow d) (fun a b => a = b) := by
  unfold f_X0_rainOf f_X7_rainOf
  rw [hr]
  refine pj_ckr (fun _ => pj_ifl (fun c => ?_) (fun c => ?_))
  · have c1 := k_le (k := 1) rfl c
    refine pj_ifr (fun z => ?_) (fun _ => pj_ckr (fun _ => pj_ckr (fun _ => pj_ckr (fun _ => pj_bl (c_floor hd h0) (fun o ho => pj_ckl (fun _ => pj_ss ?_))))))
    · have := z_eq (k := 0) rfl z
      omega
    · obtain ⟨m0, m1⟩ := hm (by omega)
      rw [ho]
      have e : ((d - d / ra * ra).toNatClampNeg : Int) = (d - d / ra * ra).toInt := cl_k m0
      exact hn _ (by omega)
  · have c1 := k_nle (k := 1) rfl c
    have z0 : ra = 0 := z_of (k := 0) rfl (by omega)
    exact pj_ifr (fun _ => pj_ss rfl) (fun z => absurd z0 z)
