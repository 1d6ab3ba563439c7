set_option maxRecDepth 100000 in
theorem nd_z193b_0 : va_nd [1, 2, 3] = true := nd_f (by decide +kernel)
set_option maxRecDepth 100000 in
theorem nd_z193b_1 : va_nd [0] = true := nd_f (by decide +kernel)
set_option maxRecDepth 100000 in
theorem nj_z193b_0 : ∀ i ∈ ([0] : List Nat), i ∉ ([1, 2, 3] : List Nat) := nj_f (by decide +kernel)
set_option maxRecDepth 100000 in
theorem sk_z193b_0 : sgk [(1, 3)] [1, 2, 3] 4 = true := by decide +kernel
set_option maxRecDepth 100000 in
theorem sk_z193b_1 : sgk [(0, 1)] [0] 4 = true := by decide +kernel
def f_X6_parts (v_g_cells : Int32) (v_g_passes : Int32) (v_g_passFrom : (Nat → Int32)) (v_g_passTo : (Nat → Int32)) : Option (Int32) := bd (f_X3_bodiesWithout v_g_cells v_g_passes v_g_passFrom v_g_passTo (-1 : Int32)) (fun o_1 => some (o_1))
set_option maxRecDepth 100000 in
set_option maxHeartbeats 8000000 in
theorem c_X6_parts (l : Launch) (dC : Nat → ClassId) (dI : Nat → Nat → Nat) (cyI cyJ cyZ cyB cyO : ClassId) (tO : Nat) (vF : Value) (adK adV : Nat → Nat) (h_w : Nat) (m_w : Nat → Nat) (h_r : Nat) (m_r : Nat → Nat) (h_g : Nat) (m_g : Nat → Nat) (h_p : Nat) (m_p : Nat → Nat) (h_c : Nat) (m_c : Nat → Nat) (h_n : Nat) (m_n : Nat → Nat) (h_d : Nat) (m_d : Nat → Nat) (h_e : Nat) (m_e : Nat → Nat) (v_w_length : Int32) (v_w_faultPlace : Int32) (v_g_cells : Int32) (v_g_passes : Int32) (v_g_rivers : Int32) (v_g_villages : Int32) (v_g_rains : Int32) (v_g_passFrom : (Nat → Int32)) (v_g_passTo : (Nat → Int32))  (sz : Nat) (out : Int32) (hf : f_X6_parts v_g_cells v_g_passes v_g_passFrom v_g_passTo = some out) : Met l yX6_parts (Cond.code yX6_parts cX6_parts 1 (some .int) :: wsL_law) ({ frames := 2, cells := 0, slots := 0, locals := 50 } : Room) (va_Pc [.ref h_w] (ux_pre (dC, dI) vwCl (tyG cyI cyJ cyZ cyB cyO) [(h_w, .inr (6, oX6 m_w v_w_length v_w_faultPlace h_r h_g h_p h_c h_n h_d h_e)), (h_g, .inr (3, oX3 m_g v_g_cells v_g_passes v_g_rivers v_g_villages v_g_rains)), (m_g 5, .inl (cyI, 20, .inl v_g_passFrom)), (m_g 6, .inl (cyI, 20, .inl v_g_passTo))] sz (xE tO vF adK adV))) (va_Qi (fun (r : Int32) (_ : Unit) => r = out) (ux_at (dC, dI) vwCl (tyG cyI cyJ cyZ cyB cyO) [(h_w, .inr (6, oX6 m_w v_w_length v_w_faultPlace h_r h_g h_p h_c h_n h_d h_e)), (h_g, .inr (3, oX3 m_g v_g_cells v_g_passes v_g_rivers v_g_villages v_g_rains)), (m_g 5, .inl (cyI, 20, .inl v_g_passFrom)), (m_g 6, .inl (cyI, 20, .inl v_g_passTo))] sz (fun u : Unit => [(h_w, .inr (6, oX6 m_w v_w_length v_w_faultPlace h_r h_g h_p h_c h_n h_d h_e)), (h_g, .inr (3, oX3 m_g v_g_cells v_g_passes v_g_rivers v_g_villages v_g_rains)), (m_g 5, .inl (cyI, 20, .inl v_g_passFrom)), (m_g 6, .inl (cyI, 20, .inl v_g_passTo))])) (va_A [(h_w, .inr (6, oX6 m_w v_w_length v_w_faultPlace h_r h_g h_p h_c h_n h_d h_e)), (h_g, .inr (3, oX3 m_g v_g_cells v_g_passes v_g_rivers v_g_villages v_g_rains)), (m_g 5, .inl (cyI, 20, .inl v_g_passFrom)), (m_g 6, .inl (cyI, 20, .inl v_g_passTo))] sz)) 0 0 (va_A [(h_w, .inr (6, oX6 m_w v_w_length v_w_faultPlace h_r h_g h_p h_c h_n h_d h_e)), (h_g, .inr (3, oX3 m_g v_g_cells v_g_passes v_g_rivers v_g_villages v_g_rains)), (m_g 5, .inl (cyI, 20, .inl v_g_passFrom)), (m_g 6, .inl (cyI, 20, .inl v_g_passTo))] sz) := by
  refine ux_meti0 (by decide +kernel) (Nat.le_of_ble_eq_true rfl) ?_
  intro p e s m below meth c A Q ls hx hb hml hts hown hA hP hK hD hE hl hret
  have hown : s.vm.findClass RX6 = some m.cls := hown
  have hS : va_S A s.heap s.heap [] := va_S.rf
  have hl : lv_has ls 1 [(0, .ref h_w)] := hl
  unfold f_X6_parts at hf
  refine lv_aload_n hx hb dX6_parts_0 rfl (lv_at hl 0 rfl) ?_
  refine va_get (D := (dC, dI)) (ci := 6) (v := .ref h_g) (C := RX6) (T := TX6) (N := 12) hx hb hts (g_c inlX6) hown hK hP 0 rfl rfl 4 (by decide) (hts _ (List.mem_cons_of_mem _ wm_1_23)) (fun _ h9 => h9) rfl dX6_parts_1 ?_
  refine lv_iconst (v := (-1 : Int32)) hx hb dX6_parts_4 (by decide) ?_
  obtain ⟨o_1, ho_1, hf⟩ := bd_some hf
  refine ux_Vi0 (n := 1) (As := [.int (-1 : Int32)]) (rest := []) (wc := [(h_g, .inr (3, oX3 m_g v_g_cells v_g_passes v_g_rivers v_g_villages v_g_rains)), (m_g 5, .inl (cyI, 20, .inl v_g_passFrom)), (m_g 6, .inl (cyI, 20, .inl v_g_passTo))]) (wr := [_]) ⟨hx, hb, hml, hown, hts⟩ hK hP hD hS hA hE [1, 2, 3] [0] (sg_h [(1, 3)] 4 rfl sk_z193b_0 rfl) (sg_h [(0, 1)] 4 rfl sk_z193b_1 rfl) nd_z193b_0 nd_z193b_1 nj_z193b_0 (c_X3_bodiesWithout l dC dI cyI cyJ cyZ cyB cyO tO vF adK adV h_g m_g v_g_cells v_g_passes v_g_rivers v_g_villages v_g_rains v_g_passFrom v_g_passTo (-1 : Int32) _ _ ho_1) 3 0 rfl rfl wm_49_11 wm_49_12 wm_49_13 wm_1_22 wm_49_14 ⟨rfl, rfl⟩ (by decide +kernel) rfl ⟨Nat.le_of_ble_eq_true rfl, Nat.le_of_ble_eq_true rfl⟩ hl.1 rfl (Nat.le_of_ble_eq_true rfl) dX6_parts_5 ⟨Nat.le_of_ble_eq_true rfl, Nat.le_of_ble_eq_true rfl⟩ (fun H locs hP hD hS => ?_)
  have hP : va_P (dC, dI) vwCl [_, (h_g, .inr (3, oX3 m_g v_g_cells v_g_passes v_g_rivers v_g_villages v_g_rains)), (m_g 5, .inl (cyI, 20, .inl v_g_passFrom)), (m_g 6, .inl (cyI, 20, .inl v_g_passTo))] H := hP
  have hD : va_D A [_, (h_g, .inr (3, oX3 m_g v_g_cells v_g_passes v_g_rivers v_g_villages v_g_rains)), (m_g 5, .inl (cyI, 20, .inl v_g_passFrom)), (m_g 6, .inl (cyI, 20, .inl v_g_passTo))] := hD
  exact hret _ _ _ _ o_1 dX6_parts_8 (Option.some.inj hf) hP hD hS
