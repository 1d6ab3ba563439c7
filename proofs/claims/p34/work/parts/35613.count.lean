/-! village, count, cell: on both sides -/
theorem pj_if2 {α β : Type} {c : Prop} [Decidable c] {a b : Option α} {a' b' : Option β} {R : α → β → Prop} (ht : c → pj a a' R) (he : ¬ c → pj b b' R) : pj (if c then a else b) (if c then a' else b') R := by
  by_cases h : c
  · rw [if_pos h, if_pos h]; exact ht h
  · rw [if_neg h, if_neg h]; exact he h
theorem m_whole (x : Int64) : pa (f_X7_whole x) (fun o => o = x.toInt32) := pa_some rfl
theorem q_village {live vi q1 q2 : Int32} {ce B : Int} {vc nd mv home need water seen took dry first total : Nat → Int32} {salt now : Nat → Int64} (hl : 0 ≤ live.toInt ∧ live.toInt ≤ 1) (hvi : mv live.toNatClampNeg = vi) (hv6 : 0 ≤ vi.toInt ∧ vi.toInt ≤ 6) (a1 : AL vc home (6 * live.toNatClampNeg) vi.toInt) (a2 : AL nd need (6 * live.toNatClampNeg) vi.toInt) (hDA : DA ce vi.toInt B water salt seen took dry first total now) : pj (f_X6_village vi vc nd took dry first total q1 q2) (f_X7_village live mv home need now q1 q2) (fun a b => a = b) := by
  unfold f_X6_village f_X7_village
  refine pj_G (j_isV hvi hv6) (pj_ss rfl) (fun d1 d2 => ?_)
  have eq1 : (q1.toNatClampNeg : Int) = q1.toInt := cl_k d1
  have n36 : ((36 : Int32) + q1).toNatClampNeg = 36 + q1.toNatClampNeg := cl_K (k := 36) rfl (by decide) d1 (by omega)
  have n42 : ((42 : Int32) + q1).toNatClampNeg = 42 + q1.toNatClampNeg := cl_K (k := 42) rfl (by decide) d1 (by omega)
  have n48 : ((48 : Int32) + q1).toNatClampNeg = 48 + q1.toNatClampNeg := cl_K (k := 48) rfl (by decide) d1 (by omega)
  have n54 : ((54 : Int32) + q1).toNatClampNeg = 54 + q1.toNatClampNeg := cl_K (k := 54) rfl (by decide) d1 (by omega)
  obtain ⟨v1, v2, v3, v4, v5⟩ := hDA.2.2 q1.toNatClampNeg (by omega)
  rw [n36, n42, n48, n54, v1, v2, v3]
  refine pj_if2 (fun _ => pj_ckl (fun _ => pj_ckr (fun _ => pj_br (m_whole _) (fun o ho => pj_ss ?_)))) (fun _ => pj_if2 (fun _ => pj_ckl (fun _ => pj_ckr (fun _ => pj_br (m_whole _) (fun o ho => pj_ss ?_)))) (fun _ => pj_if2 (fun _ => pj_ckl (fun _ => pj_ckr (fun _ => pj_br (m_whole _) (fun o ho => pj_ss ?_)))) (fun _ => pj_if2 (fun _ => pj_ckl (fun _ => pj_br (m_homeOf hl d1 (by omega)) (fun o ho => pj_ss ?_))) (fun _ => pj_if2 (fun _ => pj_ckl (fun _ => pj_br (m_needOf hl d1 (by omega)) (fun o ho => pj_ss ?_))) (fun _ => pj_if2 (fun _ => pj_ckl (fun _ => pj_ckr (fun _ => pj_br (m_whole _) (fun o ho => pj_ss ?_)))) (fun _ => pj_ss rfl))))))
  · rw [ho, l_32]
  · rw [ho, l_32]
  · rw [ho, l_32]
  · rw [ho]
    exact a1 q1.toNatClampNeg (by omega)
  · rw [ho]
    exact a2 q1.toNatClampNeg (by omega)
  · rw [ho]
    exact v4.symm
/-- how many SLOTS hold something, from the i-th on -/
def slS (held : Nat → Int32) : Nat → Int32
  | 0 => (if held 0 = 0 then 0 else 1) + ((if held 1 = 0 then 0 else 1) + (if held 2 = 0 then 0 else 1))
  | 1 => (if held 1 = 0 then 0 else 1) + (if held 2 = 0 then 0 else 1)
  | 2 => if held 2 = 0 then 0 else 1
  | _ => 0
theorem slS_st {held : Nat → Int32} {i : Nat} (h : i < 3) : slS held i = (if held i = 0 then 0 else 1) + slS held (i + 1) := by
  rcases (show i = 0 ∨ i = 1 ∨ i = 2 by omega) with q | q | q
  · rw [q]; rfl
  · rw [q]; rfl
  · rw [q]
    exact (Int32.add_zero _).symm
theorem c_slots {held : Nat → Int32} : ∀ (n : Nat) (x1 x2 : Int32) (i : Nat), x2.toInt = (i : Int) → i ≤ 3 → pa (f_X6_slotsHeld_b4 held n x1 x2) (fun o => o = x1 + slS held i) := by
  intro n
  induction n with
  | zero => intro x1 x2 i _ _; exact pa_none
  | succ n ih =>
    intro x1 x2 i h2 hi
    show pa (f_X6_slotsHeld_b4_st (f_X6_slotsHeld_b4 held n) held x1 x2) _
    unfold f_X6_slotsHeld_b4_st
    refine pa_if (fun z => pa_some ?_) (fun z => pa_ck (fun _ => ?_))
    · have := k_le (k := 3) rfl z
      have e : i = 3 := by omega
      rw [e]
      exact (Int32.add_zero _).symm
    · have g := k_nle (k := 3) rfl z
      have t1 := add_k (x := x2) (v := 1) (k := 1) rfl (by omega) (by omega)
      have e : x2.toNatClampNeg = i := by have : (x2.toNatClampNeg : Int) = x2.toInt := cl_k (by omega); omega
      rw [e, slS_st (by omega)]
      refine pa_if (fun q => pa_w (ih x1 (x2 + 1) (i + 1) (by omega) (by omega)) (fun o ho => ?_)) (fun q => pa_w (ih (x1 + 1) (x2 + 1) (i + 1) (by omega) (by omega)) (fun o ho => ?_))
      · rw [ho, if_pos q, Int32.zero_add]
      · rw [ho, if_neg q, Int32.add_assoc]
theorem m_slots {isH : Nat → Int32} : pa (ck (inb (0 : Int32) 3) (if (isH (0 : Int32).toNatClampNeg) = (0 : Int32) then (f_X7_count_b135 isH (0 : Int32)) else (f_X7_count_b135 isH (1 : Int32)))) (fun o => o = slS isH 0) := by
  have k0 : (0 : Int32).toNatClampNeg = 0 := rfl
  have k1 : (1 : Int32).toNatClampNeg = 1 := rfl
  have k2 : (2 : Int32).toNatClampNeg = 2 := rfl
  have b149 : ∀ t0 t1 : Int32, pa (f_X7_count_b149 isH t0 t1) (fun o => o = t0 + t1 + (if isH 2 = 0 then 0 else 1)) := by
    intro t0 t1
    unfold f_X7_count_b149
    rw [k2]
    refine pa_ck (fun _ => pa_if (fun q => pa_some ?_) (fun q => pa_some ?_))
    · rw [if_pos q]
    · rw [if_neg q]
  have b135 : ∀ t0 : Int32, pa (f_X7_count_b135 isH t0) (fun o => o = t0 + (if isH 1 = 0 then 0 else 1) + (if isH 2 = 0 then 0 else 1)) := by
    intro t0
    unfold f_X7_count_b135
    rw [k1]
    refine pa_ck (fun _ => pa_if (fun q => pa_w (b149 _ _) (fun o ho => ?_)) (fun q => pa_w (b149 _ _) (fun o ho => ?_)))
    · rw [ho, if_pos q]
    · rw [ho, if_neg q]
  rw [k0]
  refine pa_ck (fun _ => pa_if (fun q => pa_w (b135 _) (fun o ho => ?_)) (fun q => pa_w (b135 _) (fun o ho => ?_)))
  · rw [ho]
    show _ = (if isH 0 = 0 then (0 : Int32) else 1) + _
    rw [if_pos q, Int32.add_assoc]
  · rw [ho]
    show _ = (if isH 0 = 0 then (0 : Int32) else 1) + _
    rw [if_neg q, Int32.add_assoc]
theorem j_allW {live ce : Int32} {mc water : Nat → Int32} {now : Nat → Int64} (hm : mc live.toNatClampNeg = ce) (hc : 0 ≤ ce.toInt ∧ ce.toInt ≤ 12) (hw : ∀ c : Nat, (c : Int) < ce.toInt → water c = (now c).toInt32) : ∀ (n m : Nat) (x2 : Int32) (y2 : Int64) (x3 : Int32), x2 = y2.toInt32 → 0 ≤ x3.toInt → x3.toInt ≤ ce.toInt → pj (f_X1_allWater_b4 water n ce x2 x3) (f_X7_count_b171 live mc now m y2 x3) (fun a b => a = b) := by
  intro n
  induction n with
  | zero => intro m x2 y2 x3 _ _ _; exact pj_nl
  | succ n ih =>
    intro m x2 y2 x3 h2 h3 h4
    cases m with
    | zero => exact pj_nr
    | succ m =>
    show pj (f_X1_allWater_b4_st (f_X1_allWater_b4 water n) water ce x2 x3) (f_X7_count_b171_st (f_X7_count_b171 live mc now m) live mc now y2 x3) _
    unfold f_X1_allWater_b4_st f_X7_count_b171_st
    refine pj_br (m_nn hm) (fun o ho => ?_)
    subst ho
    refine pj_if2 (fun _ => pj_br (m_whole _) (fun o ho => pj_ss (h2.trans ho.symm))) (fun z => pj_ckl (fun _ => pj_ckr (fun _ => ?_)))
    have g := ti_nle z
    have ex : (x3.toNatClampNeg : Int) = x3.toInt := cl_k h3
    have t1 := add_k (x := x3) (v := 1) (k := 1) rfl (by omega) (by omega)
    refine ih m _ _ (x3 + 1) ?_ (by omega) (by omega)
    rw [h2, hw _ (by omega), Int64.toInt32_add]
theorem q_count {live ce pp ri vi ra told day len taped told7 day7 q1 : Int32} {B vI : Int} {mc mp mr mv ma held isH water seen took dry first total : Nat → Int32} {salt now : Nat → Int64} (e0 : mc live.toNatClampNeg = ce) (hc : 0 ≤ ce.toInt ∧ ce.toInt ≤ 12) (e1 : mp live.toNatClampNeg = pp) (e2 : mr live.toNatClampNeg = ri) (e3 : mv live.toNatClampNeg = vi) (e4 : ma live.toNatClampNeg = ra) (et : told = told7) (ed : day = day7) (el : len = taped) (hh : ∀ i : Nat, i < 3 → held i = isH i) (hDA : DA ce.toInt vI B water salt seen took dry first total now) : pj (f_X6_count len held ce pp ri vi ra day water told q1) (f_X7_count taped live day7 told7 mc mp mr ma mv now isH q1) (fun a b => a = b) := by
  unfold f_X6_count f_X7_count
  refine pj_if2 (fun _ => pj_ckr (fun _ => pj_ss e0.symm)) (fun _ => pj_if2 (fun _ => pj_ckr (fun _ => pj_ss e1.symm)) (fun _ => pj_if2 (fun _ => pj_ckr (fun _ => pj_ss e2.symm)) (fun _ => pj_if2 (fun _ => pj_ckr (fun _ => pj_ss e3.symm)) (fun _ => pj_if2 (fun _ => pj_ss ed) (fun _ => pj_if2 (fun _ => pj_ckr (fun _ => pj_ss e4.symm)) (fun _ => pj_if2 (fun _ => pj_ss et) (fun _ => pj_if2 (fun _ => pj_ss el) (fun _ => pj_if2 (fun _ => ?_) (fun _ => pj_if2 (fun _ => ?_) (fun _ => pj_ss rfl))))))))))
  · unfold f_X6_slotsHeld
    refine pj_bl (c_slots fuel 0 0 0 rfl (by decide)) (fun a ha => pj_of (P := fun x => x = a) (pa_some rfl) m_slots (fun x b hx hb => ?_))
    rw [hx, ha, hb, Int32.zero_add]
    unfold slS
    rw [hh 0 (by decide), hh 1 (by decide), hh 2 (by decide)]
  · unfold f_X1_allWater
    exact pj_bL (j_allW e0 hc (fun c hc2 => by rw [(hDA.1 c hc2).1, l_32]) fuel fuel 0 0 0 rfl (by decide) hc.1) (fun a b hab => pa_some hab)
