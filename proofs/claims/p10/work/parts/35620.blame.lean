/-! blame: on both sides -/
/-- in how many orders -/
def fac : Nat → Nat
  | 0 => 1
  | n + 1 => (n + 1) * fac n
theorem f_ords : ∀ s : Fin 6, f_X7_orders (Int32.ofNat s.val) = some (Int32.ofNat (fac s.val)) := by decide +kernel
theorem f_with : ∀ (vi : Fin 7) (s : Fin 6), s.val < vi.val → f_X6_ordersWithAhead (Int32.ofNat vi.val) (Int32.ofNat s.val) = some (Int32.ofNat (fac s.val) * Int32.ofNat (fac (vi.val - 1 - s.val))) := by decide +kernel
theorem g_ords {x : Int32} (h0 : 0 ≤ x.toInt) (h1 : x.toInt < 6) : pa (f_X7_orders x) (fun o => o = Int32.ofNat (fac x.toNatClampNeg)) := by
  have ex : (x.toNatClampNeg : Int) = x.toInt := cl_k h0
  have k := f_ords ⟨x.toNatClampNeg, by omega⟩
  have k : f_X7_orders (Int32.ofNat x.toNatClampNeg) = some (Int32.ofNat (fac x.toNatClampNeg)) := k
  rw [of_cl h0] at k
  rw [k]
  exact pa_some rfl
theorem g_with {vi s : Int32} (h0 : 0 ≤ vi.toInt ∧ vi.toInt ≤ 6) (s0 : 0 ≤ s.toInt) (s1 : s.toInt < vi.toInt) : pa (f_X6_ordersWithAhead vi s) (fun o => o = Int32.ofNat (fac s.toNatClampNeg) * Int32.ofNat (fac (vi.toNatClampNeg - 1 - s.toNatClampNeg))) := by
  have e1 : (vi.toNatClampNeg : Int) = vi.toInt := cl_k h0.1
  have e2 : (s.toNatClampNeg : Int) = s.toInt := cl_k s0
  have k := f_with ⟨vi.toNatClampNeg, by omega⟩ ⟨s.toNatClampNeg, by omega⟩ (by show s.toNatClampNeg < vi.toNatClampNeg; omega)
  have k : f_X6_ordersWithAhead (Int32.ofNat vi.toNatClampNeg) (Int32.ofNat s.toNatClampNeg) = some (Int32.ofNat (fac s.toNatClampNeg) * Int32.ofNat (fac (vi.toNatClampNeg - 1 - s.toNatClampNeg))) := k
  rw [of_cl h0.1, of_cl s0] at k
  rw [k]
  exact pa_some rfl
theorem sub_k2 (x b : Int32) (h0 : -1000 ≤ x.toInt - b.toInt) (h1 : x.toInt - b.toInt ≤ 1000) : (x - b).toInt = x.toInt - b.toInt := Jvm.Kit.i32_sub (by omega) (by omega)
set_option maxHeartbeats 8000000 in
theorem l_blame {v_g_cells : Int32} {v_g_passes : Int32} {v_g_rivers : Int32} {v_g_villages : Int32} {v_g_rains : Int32} {v_g_room : Nat → Int32} {v_g_passFrom : Nat → Int32} {v_g_passTo : Nat → Int32} {v_g_passWidth : Nat → Int32} {v_g_riverCell : Nat → Int32} {v_g_riverLevel : Nat → Int32} {v_g_riverWidth : Nat → Int32} {v_g_riverSalt : Nat → Int32} {v_g_villageCell : Nat → Int32} {v_g_need : Nat → Int32} {v_g_lawEnd : Nat → Int32} {v_g_code : Nat → Int32} {v_g_rain : Nat → Int32} {v_p_pumpTakes : Int32} {v_p_pumpFrom : Int32} {v_p_pumpTo : Int32} {v_n_day : Int32} {v_n_water : Nat → Int32} {v_n_salt : Nat → Int64} {v_n_seen : Nat → Int32} {v_n_took : Nat → Int32} {v_n_dryDays : Nat → Int32} {v_n_firstDry : Nat → Int32} {v_n_total : Nat → Int32} {v_m_live : Int32} {v_m_day : Int32} {v_m_changedAt : Int32} {v_m_pumpMuch : Int32} {v_m_pumpFrom : Int32} {v_m_pumpTo : Int32} {v_m_cells : Nat → Int32} {v_m_room : Nat → Int32} {v_m_passes : Nat → Int32} {v_m_passOne : Nat → Int32} {v_m_passOther : Nat → Int32} {v_m_passWide : Nat → Int32} {v_m_rivers : Nat → Int32} {v_m_riverCell : Nat → Int32} {v_m_riverLevel : Nat → Int32} {v_m_riverWide : Nat → Int32} {v_m_riverSalt : Nat → Int32} {v_m_rains : Nat → Int32} {v_m_rain : Nat → Int32} {v_m_villages : Nat → Int32} {v_m_home : Nat → Int32} {v_m_need : Nat → Int32} {v_m_lawFrom : Nat → Int32} {v_m_lawTo : Nat → Int32} {v_m_code : Nat → Int32} {v_m_codeInt : Nat → Int32} {v_m_now : Nat → Int64} {B : Int} (hB : B ≤ 1980000) (y : DY v_m_live v_m_cells v_m_room v_m_passes v_m_passOne v_m_passOther v_m_rivers v_m_riverCell v_m_riverLevel v_m_riverWide v_m_rains v_m_villages v_m_home v_m_lawFrom v_m_lawTo v_m_code v_m_codeInt) (hne : NE v_m_live v_m_villages v_m_need) (G : GL v_m_live v_g_cells v_g_passes v_g_rivers v_g_villages v_g_rains v_g_room v_g_passFrom v_g_passTo v_g_riverCell v_g_riverLevel v_g_riverSalt v_g_villageCell v_g_need v_g_lawEnd v_g_code v_m_cells v_m_room v_m_passes v_m_passOne v_m_passOther v_m_rivers v_m_riverCell v_m_riverLevel v_m_riverSalt v_m_rains v_m_villages v_m_home v_m_need v_m_lawFrom v_m_lawTo v_m_code v_m_codeInt) (a1 : AL v_g_passWidth v_m_passWide (20 * v_m_live.toNatClampNeg) v_g_passes.toInt) (a2 : AL v_g_riverWidth v_m_riverWide (3 * v_m_live.toNatClampNeg) v_g_rivers.toInt) (a3 : AL v_g_rain v_m_rain (14 * v_m_live.toNatClampNeg) v_g_rains.toInt) (gx : GX v_m_live v_m_passes v_m_passWide v_m_rains v_m_rain) (h : DD v_m_live v_g_cells.toInt v_g_villages.toInt B v_m_cells v_m_room v_n_day v_m_day v_n_water v_n_salt v_n_seen v_n_took v_n_dryDays v_n_firstDry v_n_total v_m_now) : ∀ (n m : Nat) (v_p_pumpCell : Int32) (v_p_wanting : Nat → Int32) (v_p_passWidth : Nat → Int32) (v_p_riverWidth : Nat → Int32) (v_p_rain : Nat → Int32) (v_c_pumped : Int32) (v_c_today : Int32) (v_c_lacked : Nat → Int32) (v_c_level : Nat → Int32) (v_c_water : Nat → Int32) (v_c_salt : Nat → Int64) (v_c_stack : Nat → Int32) (v_d_day : Int32) (v_d_water : Nat → Int32) (v_d_salt : Nat → Int64) (v_d_seen : Nat → Int32) (v_d_took : Nat → Int32) (v_d_dryDays : Nat → Int32) (v_d_firstDry : Nat → Int32) (v_d_total : Nat → Int32) (xv : Int32) (xu : Int32) (xn : Int32) (xall : Int32) (xs : Int32) (xt : Int32) (v_m_isBroken : Int32) (v_m_rowDay : Int32) (v_m_changed : Int32) (v_m_pumpCell : Int32) (v_m_takenAll : Int64) (v_m_riversAll : Int64) (v_m_variables : Nat → Int32) (v_m_pile : Nat → Int32) (v_m_row : Nat → Int64) (v_m_wants : Nat → Int32) (v_m_isOff : Nat → Int32) (v_m_wide : Nat → Int32) (v_m_rainNow : Nat → Int32) (v_m_taken : Nat → Int64) (v_m_isDry : Nat → Int32) (v_m_wouldLack : Nat → Int32) (v_m_more : Nat → Int64) (v_m_moreSalt : Nat → Int64) (xvi : Int32), 0 ≤ xt.toInt → xt.toInt ≤ PW v_g_villages → xall.toInt = PW v_g_villages - 1 → xvi = v_g_villages → 0 ≤ xv.toInt → xv.toInt < v_g_villages.toInt → 0 ≤ xu.toInt → xu.toInt < v_g_villages.toInt → 1 ≤ xn.toInt → xn.toInt ≤ 200 → pj (f_X6_blame_b39 v_g_cells v_g_passes v_g_rivers v_g_villages v_g_rains v_g_room v_g_passFrom v_g_passTo v_g_passWidth v_g_riverCell v_g_riverLevel v_g_riverWidth v_g_riverSalt v_g_villageCell v_g_need v_g_lawEnd v_g_code v_g_rain v_p_pumpTakes v_p_pumpFrom v_p_pumpTo v_n_day v_n_water v_n_salt v_n_seen v_n_took v_n_dryDays v_n_firstDry v_n_total n v_p_pumpCell v_p_wanting v_p_passWidth v_p_riverWidth v_p_rain v_c_pumped v_c_today v_c_lacked v_c_level v_c_water v_c_salt v_c_stack v_d_day v_d_water v_d_salt v_d_seen v_d_took v_d_dryDays v_d_firstDry v_d_total xv xu xn xall xs xt) (f_X7_blame_b44 v_m_live v_m_day v_m_changedAt v_m_pumpMuch v_m_pumpFrom v_m_pumpTo v_m_cells v_m_room v_m_passes v_m_passOne v_m_passOther v_m_passWide v_m_rivers v_m_riverCell v_m_riverLevel v_m_riverWide v_m_riverSalt v_m_rains v_m_rain v_m_villages v_m_home v_m_need v_m_lawFrom v_m_lawTo v_m_code v_m_codeInt v_m_now m v_m_isBroken v_m_rowDay v_m_changed v_m_pumpCell v_m_takenAll v_m_riversAll v_m_variables v_m_pile v_m_row v_m_wants v_m_isOff v_m_wide v_m_rainNow v_m_taken v_m_isDry v_m_wouldLack v_m_more v_m_moreSalt xv xu xn xs xvi xt) (fun a b => a.1 = b.1) := by
  intro n
  induction n with
  | zero => intro m v_p_pumpCell v_p_wanting v_p_passWidth v_p_riverWidth v_p_rain v_c_pumped v_c_today v_c_lacked v_c_level v_c_water v_c_salt v_c_stack v_d_day v_d_water v_d_salt v_d_seen v_d_took v_d_dryDays v_d_firstDry v_d_total xv xu xn xall xs xt v_m_isBroken v_m_rowDay v_m_changed v_m_pumpCell v_m_takenAll v_m_riversAll v_m_variables v_m_pile v_m_row v_m_wants v_m_isOff v_m_wide v_m_rainNow v_m_taken v_m_isDry v_m_wouldLack v_m_more v_m_moreSalt xvi _ _ _ _ _ _ _ _ _ _; exact pj_nl
  | succ n ih =>
    intro m v_p_pumpCell v_p_wanting v_p_passWidth v_p_riverWidth v_p_rain v_c_pumped v_c_today v_c_lacked v_c_level v_c_water v_c_salt v_c_stack v_d_day v_d_water v_d_salt v_d_seen v_d_took v_d_dryDays v_d_firstDry v_d_total xv xu xn xall xs xt v_m_isBroken v_m_rowDay v_m_changed v_m_pumpCell v_m_takenAll v_m_riversAll v_m_variables v_m_pile v_m_row v_m_wants v_m_isOff v_m_wide v_m_rainNow v_m_taken v_m_isDry v_m_wouldLack v_m_more v_m_moreSalt xvi h0 h1 hall hxv d1 d2 u1 u2 e1 e2
    cases m with
    | zero => exact pj_nr
    | succ m =>
    show pj (f_X6_blame_b39_st (f_X6_blame_b39 v_g_cells v_g_passes v_g_rivers v_g_villages v_g_rains v_g_room v_g_passFrom v_g_passTo v_g_passWidth v_g_riverCell v_g_riverLevel v_g_riverWidth v_g_riverSalt v_g_villageCell v_g_need v_g_lawEnd v_g_code v_g_rain v_p_pumpTakes v_p_pumpFrom v_p_pumpTo v_n_day v_n_water v_n_salt v_n_seen v_n_took v_n_dryDays v_n_firstDry v_n_total n) v_g_cells v_g_passes v_g_rivers v_g_villages v_g_rains v_g_room v_g_passFrom v_g_passTo v_g_passWidth v_g_riverCell v_g_riverLevel v_g_riverWidth v_g_riverSalt v_g_villageCell v_g_need v_g_lawEnd v_g_code v_g_rain v_p_pumpTakes v_p_pumpFrom v_p_pumpTo v_n_day v_n_water v_n_salt v_n_seen v_n_took v_n_dryDays v_n_firstDry v_n_total v_p_pumpCell v_p_wanting v_p_passWidth v_p_riverWidth v_p_rain v_c_pumped v_c_today v_c_lacked v_c_level v_c_water v_c_salt v_c_stack v_d_day v_d_water v_d_salt v_d_seen v_d_took v_d_dryDays v_d_firstDry v_d_total xv xu xn xall xs xt) (f_X7_blame_b44_st (f_X7_blame_b44 v_m_live v_m_day v_m_changedAt v_m_pumpMuch v_m_pumpFrom v_m_pumpTo v_m_cells v_m_room v_m_passes v_m_passOne v_m_passOther v_m_passWide v_m_rivers v_m_riverCell v_m_riverLevel v_m_riverWide v_m_riverSalt v_m_rains v_m_rain v_m_villages v_m_home v_m_need v_m_lawFrom v_m_lawTo v_m_code v_m_codeInt v_m_now m) v_m_live v_m_day v_m_changedAt v_m_pumpMuch v_m_pumpFrom v_m_pumpTo v_m_cells v_m_room v_m_passes v_m_passOne v_m_passOther v_m_passWide v_m_rivers v_m_riverCell v_m_riverLevel v_m_riverWide v_m_riverSalt v_m_rains v_m_rain v_m_villages v_m_home v_m_need v_m_lawFrom v_m_lawTo v_m_code v_m_codeInt v_m_now v_m_isBroken v_m_rowDay v_m_changed v_m_pumpCell v_m_takenAll v_m_riversAll v_m_variables v_m_pile v_m_row v_m_wants v_m_isOff v_m_wide v_m_rainNow v_m_taken v_m_isDry v_m_wouldLack v_m_more v_m_moreSalt xv xu xn xs xvi xt) _
    unfold f_X6_blame_b39_st f_X7_blame_b44_st
    have hvi : v_m_villages v_m_live.toNatClampNeg = v_g_villages := G.2.2.2.1
    have hv6 := y.2.2.2.1
    rw [hvi] at hv6
    have hv6 : 0 ≤ v_g_villages.toInt ∧ v_g_villages.toInt ≤ 6 := hv6
    have pw := g_pow hv6.1 hv6.2
    have exv : xvi.toInt = v_g_villages.toInt := by rw [hxv]
    have hPW : ((1 : Int32) <<< (xvi &&& 31)).toInt = PW v_g_villages := by
      rw [hxv]
      rfl
    refine pj_ifl (fun z => pj_ifr (fun _ => pj_ss rfl) (fun k => ?_)) (fun z => pj_ifr (fun k => ?_) (fun _ => ?_))
    · have a := ti_lt z
      have b := ti_nle k
      omega
    · have a := ti_nlt z
      have b := ti_le k
      omega
    have g := ti_nlt z
    have t1 := add_k (x := xt) (v := 1) (k := 1) rfl (by omega) (by omega)
    have hh : pa (f_X6_has xt xu) (fun o => (o = 0 ∧ BT xt xu = 0) ∨ (o = 1 ∧ ¬ BT xt xu = 0)) := by
      unfold f_X6_has
      exact pa_if (fun q => pa_some (Or.inl ⟨rfl, q⟩)) (fun q => pa_some (Or.inr ⟨rfl, q⟩))
    refine pj_bl hh (fun o2 ho2 => ?_)
    rcases ho2 with ⟨o1, o2_⟩ | ⟨o1, o2_⟩
    · refine pj_ifl (fun _ => pj_ifr (fun k => absurd o2_ (BT_n0.mpr k)) (fun _ => ?_)) (fun k => absurd o1 k)
      refine pj_br (g_bits h0 (by omega)) (fun b3 hb3 => ?_)
      have hc : CAND v_g_villages xu xt := ⟨h0, by omega, o2_⟩
      have few := g_few hv6.1 hv6.2 u1 u2 hc
      have cb3 : (b3.toNatClampNeg : Int) = b3.toInt := cl_k (by omega)
      have cvi : (v_g_villages.toNatClampNeg : Int) = v_g_villages.toInt := cl_k hv6.1
      refine pj_b21_19 (j_worthOf hB y hne G a1 a2 a3 gx h d1 d2 e1 e2) (fun l0 l1 l2 l3 l4 l5 l6 l7 l8 l9 l10 l11 l12 l13 l14 l15 l16 l17 l18 l19 l20 m0 m1 m2 m3 m4 m5 m6 m7 m8 m9 m10 m11 m12 m13 m14 m15 m16 m17 m18 hab => ?_)
      have hab : l0 = m0 := hab
      refine pj_b21_19 (j_worthOf hB y hne G a1 a2 a3 gx h d1 d2 e1 e2) (fun k0 k1 k2 k3 k4 k5 k6 k7 k8 k9 k10 k11 k12 k13 k14 k15 k16 k17 k18 k19 k20 n0 n1 n2 n3 n4 n5 n6 n7 n8 n9 n10 n11 n12 n13 n14 n15 n16 n17 n18 hcd => ?_)
      have hcd : k0 = n0 := hcd
      refine pj_bl (g_count h0 (by omega)) (fun b6 hb6 => ?_)
      have e36 : b6 = b3 := Int32.toInt_inj.mp (by omega)
      subst e36
      refine pj_bl (g_with hv6 (by omega) (by omega)) (fun o7 ho7 => ?_)
      refine pj_br (g_ords (by omega) (by omega)) (fun p6 hp6 => ?_)
      have s1 := sub_k2 xvi b6 (by omega) (by omega)
      have s2 : (xvi - b6 - (1 : Int32)).toInt = xvi.toInt - b6.toInt - 1 := by
        rw [sub_k (v := 1) (k := 1) rfl (by omega) (by omega), s1]
      have cs : ((xvi - b6 - (1 : Int32)).toNatClampNeg : Int) = (xvi - b6 - (1 : Int32)).toInt := cl_k (by omega)
      refine pj_br (g_ords (by omega) (by omega)) (fun p7 hp7 => ?_)
      have e7 : (xvi - b6 - (1 : Int32)).toNatClampNeg = v_g_villages.toNatClampNeg - 1 - b6.toNatClampNeg := by omega
      rw [e7] at hp7
      have es : xs + (l0 - k0) * o7 = xs + (m0 - n0) * p6 * p7 := by
        rw [hab, hcd, ho7, hp6, hp7, Int32.mul_assoc]
      rw [es]
      exact ih m _ _ _ _ _ _ _ _ _ _ _ _ _ _ _ _ _ _ _ _ _ _ _ _ _ _ _ _ _ _ _ _ _ _ _ _ _ _ _ _ _ _ _ _ _ (by omega) (by omega) hall hxv d1 d2 u1 u2 e1 e2
    · exact pj_ifl (fun k => absurd (o1.symm.trans k) (by decide)) (fun _ => pj_ifr (fun _ => ih m _ _ _ _ _ _ _ _ _ _ _ _ _ _ _ _ _ _ _ _ _ _ _ _ _ _ _ _ _ _ _ _ _ _ _ _ _ _ _ _ _ _ _ _ _ (by omega) (by omega) hall hxv d1 d2 u1 u2 e1 e2) (fun k => absurd (BT_n0.mp o2_) k))
set_option maxHeartbeats 8000000 in
theorem q_blame {v_g_cells : Int32} {v_g_passes : Int32} {v_g_rivers : Int32} {v_g_villages : Int32} {v_g_rains : Int32} {v_g_room : Nat → Int32} {v_g_passFrom : Nat → Int32} {v_g_passTo : Nat → Int32} {v_g_passWidth : Nat → Int32} {v_g_riverCell : Nat → Int32} {v_g_riverLevel : Nat → Int32} {v_g_riverWidth : Nat → Int32} {v_g_riverSalt : Nat → Int32} {v_g_villageCell : Nat → Int32} {v_g_need : Nat → Int32} {v_g_lawEnd : Nat → Int32} {v_g_code : Nat → Int32} {v_g_rain : Nat → Int32} {v_p_pumpTakes : Int32} {v_p_pumpFrom : Int32} {v_p_pumpTo : Int32} {v_n_day : Int32} {v_n_water : Nat → Int32} {v_n_salt : Nat → Int64} {v_n_seen : Nat → Int32} {v_n_took : Nat → Int32} {v_n_dryDays : Nat → Int32} {v_n_firstDry : Nat → Int32} {v_n_total : Nat → Int32} {v_p_pumpCell : Int32} {v_p_wanting : Nat → Int32} {v_p_passWidth : Nat → Int32} {v_p_riverWidth : Nat → Int32} {v_p_rain : Nat → Int32} {v_c_pumped : Int32} {v_c_today : Int32} {v_c_lacked : Nat → Int32} {v_c_level : Nat → Int32} {v_c_water : Nat → Int32} {v_c_salt : Nat → Int64} {v_c_stack : Nat → Int32} {v_d_day : Int32} {v_d_water : Nat → Int32} {v_d_salt : Nat → Int64} {v_d_seen : Nat → Int32} {v_d_took : Nat → Int32} {v_d_dryDays : Nat → Int32} {v_d_firstDry : Nat → Int32} {v_d_total : Nat → Int32} {q1 : Int32} {q2 : Int32} {q3 : Int32} {v_m_live : Int32} {v_m_day : Int32} {v_m_changedAt : Int32} {v_m_pumpMuch : Int32} {v_m_pumpFrom : Int32} {v_m_pumpTo : Int32} {v_m_cells : Nat → Int32} {v_m_room : Nat → Int32} {v_m_passes : Nat → Int32} {v_m_passOne : Nat → Int32} {v_m_passOther : Nat → Int32} {v_m_passWide : Nat → Int32} {v_m_rivers : Nat → Int32} {v_m_riverCell : Nat → Int32} {v_m_riverLevel : Nat → Int32} {v_m_riverWide : Nat → Int32} {v_m_riverSalt : Nat → Int32} {v_m_rains : Nat → Int32} {v_m_rain : Nat → Int32} {v_m_villages : Nat → Int32} {v_m_home : Nat → Int32} {v_m_need : Nat → Int32} {v_m_lawFrom : Nat → Int32} {v_m_lawTo : Nat → Int32} {v_m_code : Nat → Int32} {v_m_codeInt : Nat → Int32} {v_m_now : Nat → Int64} {v_m_isBroken : Int32} {v_m_rowDay : Int32} {v_m_changed : Int32} {v_m_pumpCell : Int32} {v_m_takenAll : Int64} {v_m_riversAll : Int64} {v_m_variables : Nat → Int32} {v_m_pile : Nat → Int32} {v_m_row : Nat → Int64} {v_m_wants : Nat → Int32} {v_m_isOff : Nat → Int32} {v_m_wide : Nat → Int32} {v_m_rainNow : Nat → Int32} {v_m_taken : Nat → Int64} {v_m_isDry : Nat → Int32} {v_m_wouldLack : Nat → Int32} {v_m_more : Nat → Int64} {v_m_moreSalt : Nat → Int64} {B : Int} (hB : B ≤ 1980000) (y : DY v_m_live v_m_cells v_m_room v_m_passes v_m_passOne v_m_passOther v_m_rivers v_m_riverCell v_m_riverLevel v_m_riverWide v_m_rains v_m_villages v_m_home v_m_lawFrom v_m_lawTo v_m_code v_m_codeInt) (hne : NE v_m_live v_m_villages v_m_need) (G : GL v_m_live v_g_cells v_g_passes v_g_rivers v_g_villages v_g_rains v_g_room v_g_passFrom v_g_passTo v_g_riverCell v_g_riverLevel v_g_riverSalt v_g_villageCell v_g_need v_g_lawEnd v_g_code v_m_cells v_m_room v_m_passes v_m_passOne v_m_passOther v_m_rivers v_m_riverCell v_m_riverLevel v_m_riverSalt v_m_rains v_m_villages v_m_home v_m_need v_m_lawFrom v_m_lawTo v_m_code v_m_codeInt) (a1 : AL v_g_passWidth v_m_passWide (20 * v_m_live.toNatClampNeg) v_g_passes.toInt) (a2 : AL v_g_riverWidth v_m_riverWide (3 * v_m_live.toNatClampNeg) v_g_rivers.toInt) (a3 : AL v_g_rain v_m_rain (14 * v_m_live.toNatClampNeg) v_g_rains.toInt) (gx : GX v_m_live v_m_passes v_m_passWide v_m_rains v_m_rain) (h : DD v_m_live v_g_cells.toInt v_g_villages.toInt B v_m_cells v_m_room v_n_day v_m_day v_n_water v_n_salt v_n_seen v_n_took v_n_dryDays v_n_firstDry v_n_total v_m_now) : pj (f_X6_blame v_g_cells v_g_passes v_g_rivers v_g_villages v_g_rains v_g_room v_g_passFrom v_g_passTo v_g_passWidth v_g_riverCell v_g_riverLevel v_g_riverWidth v_g_riverSalt v_g_villageCell v_g_need v_g_lawEnd v_g_code v_g_rain v_p_pumpTakes v_p_pumpFrom v_p_pumpTo v_n_day v_n_water v_n_salt v_n_seen v_n_took v_n_dryDays v_n_firstDry v_n_total v_p_pumpCell v_p_wanting v_p_passWidth v_p_riverWidth v_p_rain v_c_pumped v_c_today v_c_lacked v_c_level v_c_water v_c_salt v_c_stack v_d_day v_d_water v_d_salt v_d_seen v_d_took v_d_dryDays v_d_firstDry v_d_total q1 q2 q3) (f_X7_blame v_m_live v_m_day v_m_changedAt v_m_pumpMuch v_m_pumpFrom v_m_pumpTo v_m_cells v_m_room v_m_passes v_m_passOne v_m_passOther v_m_passWide v_m_rivers v_m_riverCell v_m_riverLevel v_m_riverWide v_m_riverSalt v_m_rains v_m_rain v_m_villages v_m_home v_m_need v_m_lawFrom v_m_lawTo v_m_code v_m_codeInt v_m_now v_m_isBroken v_m_rowDay v_m_changed v_m_pumpCell v_m_takenAll v_m_riversAll v_m_variables v_m_pile v_m_row v_m_wants v_m_isOff v_m_wide v_m_rainNow v_m_taken v_m_isDry v_m_wouldLack v_m_more v_m_moreSalt q1 q2 q3) (fun a b => a.1 = b.1) := by
  unfold f_X6_blame f_X7_blame
  have hvi : v_m_villages v_m_live.toNatClampNeg = v_g_villages := G.2.2.2.1
  have hv6 := y.2.2.2.1
  rw [hvi] at hv6
  have hv6 : 0 ≤ v_g_villages.toInt ∧ v_g_villages.toInt ≤ 6 := hv6
  have pw := g_pow hv6.1 hv6.2
  refine pj_G (j_isV hvi hv6) (pj_ss rfl) (fun d1 d2 => pj_G (j_isV hvi hv6) (pj_ss rfl) (fun u1 u2 => pj_G (j_isD q3) (pj_ss rfl) (fun e1 e2 => ?_)))
  have ha : pa (f_X6_allVillages v_g_villages) (fun o => o = ((1 : Int32) <<< (v_g_villages &&& 31)) - 1) := by
    unfold f_X6_allVillages
    exact pa_some rfl
  refine pj_bl ha (fun o7 h7 => pj_ckr (fun _ => ?_))
  exact l_blame hB y hne G a1 a2 a3 gx h fuel fuel _ _ _ _ _ _ _ _ _ _ _ _ _ _ _ _ _ _ _ _ _ _ _ _ _ _ _ _ _ _ _ _ _ _ _ _ _ _ _ _ _ _ _ _ _ (by decide) (by show (0 : Int) ≤ _; omega) (by rw [h7]; exact pw.2.2.2) hvi d1 (by omega) u1 (by omega) e1 e2
