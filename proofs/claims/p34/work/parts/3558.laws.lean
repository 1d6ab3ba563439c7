/-! the laws alike behind a read -/
def LWS (live vi : Int32) (le code0 lwf lwt code ci vc : Nat → Int32) : Prop :=
  ∀ v : Nat, (v : Int) < vi.toInt → (0 ≤ LB le v ∧ LB le v ≤ (le v).toInt ∧ (le v).toInt ≤ 400 ∧ (lwf (6 * live.toNatClampNeg + v)).toInt = ((420 * live.toNatClampNeg : Nat) : Int) + LB le v ∧ (lwt (6 * live.toNatClampNeg + v)).toInt = ((420 * live.toNatClampNeg : Nat) : Int) + (le v).toInt) ∧ ∀ i : Nat, LB le v ≤ (i : Int) → (i : Int) < (le v).toInt → CP (vc v) (code0 i) (code (420 * live.toNatClampNeg + i)) (ci (420 * live.toNatClampNeg + i))
theorem LWS_of {live vi cl codes n : Int32} {le code0 lwf lwt code ci vc le' code0' vc' : Nat → Int32} (g : G6 live 0 vi le code0 cl codes lwf lwt code ci vc n) (hv : vi.toInt ≤ 6) (h1 : ∀ i, i < 6 → le' i = le i) (h2 : ∀ i, i < 400 → code0' i = code0 i) (h3 : ∀ i, i < 6 → vc' i = vc i) : LWS live vi le' code0' lwf lwt code ci vc' := by
  obtain ⟨k, g1, g2, g3, g4, g5, g6, g7⟩ := g
  intro v hv2
  have a := g6 v hv2
  have lb : LB le' v = LB le v := by
    unfold LB
    by_cases z : v = 0
    · rw [if_pos z, if_pos z]
    · rw [if_neg z, if_neg z, h1 (v - 1) (by omega)]
  rw [lb, h1 v (by omega), h3 v (by omega)]
  refine ⟨⟨a.1, a.2.1, by omega, a.2.2.2.1, a.2.2.2.2⟩, fun i i0 i1 => ?_⟩
  rw [h2 i (by omega)]
  exact g7 rfl v hv2 i i0 i1
theorem LWS_keep {s live vi : Int32} {le code0 lwf lwt code ci vc lwf' lwt' code' ci' : Nat → Int32} (h : LWS live vi le code0 lwf lwt code ci vc) (hl : 0 ≤ live.toInt ∧ live.toInt ≤ 1) (hv : vi.toInt ≤ 6) (hs : rg s 0 1) (hq : live.toInt = 1 - s.toInt) (f1 : OFF (6 * s.toInt) (6 * s.toInt + 6) lwf' lwf) (f2 : OFF (6 * s.toInt) (6 * s.toInt + 6) lwt' lwt) (f3 : OFF (420 * s.toInt) (420 * s.toInt + 420) code' code) (f4 : OFF (420 * s.toInt) (420 * s.toInt + 420) ci' ci) : LWS live vi le code0 lwf' lwt' code' ci' vc := by
  intro v hv2
  have a := h v hv2
  obtain ⟨s0, s1⟩ := hs
  have el : (live.toNatClampNeg : Int) = live.toInt := cl_k hl.1
  rw [f1 (6 * live.toNatClampNeg + v) (by omega), f2 (6 * live.toNatClampNeg + v) (by omega)]
  have a1 := a.1
  refine ⟨a1, fun i i0 i1 => ?_⟩
  rw [f3 (420 * live.toNatClampNeg + i) (by omega), f4 (420 * live.toNatClampNeg + i) (by omega)]
  exact a.2 i i0 i1
