set_option maxRecDepth 100000 in
theorem nd_z12_0 : va_nd [1] = true := nd_f (by decide +kernel)
set_option maxRecDepth 100000 in
theorem nd_z12_1 : va_nd [0, 2, 3, 4, 5, 6, 7, 8] = true := nd_f (by decide +kernel)
set_option maxRecDepth 100000 in
theorem nd_z12_2 : va_nd [0, 8, 1, 2, 3, 4, 5, 6, 7] = true := nd_f (by decide +kernel)
set_option maxRecDepth 100000 in
theorem nd_z12_3 : va_nd [] = true := nd_f (by decide +kernel)
set_option maxRecDepth 100000 in
theorem nd_z12_4 : va_nd [0, 1] = true := nd_f (by decide +kernel)
set_option maxRecDepth 100000 in
theorem nj_z12_0 : ∀ i ∈ ([0, 2, 3, 4, 5, 6, 7, 8] : List Nat), i ∉ ([1] : List Nat) := nj_f (by decide +kernel)
set_option maxRecDepth 100000 in
theorem nj_z12_1 : ∀ i ∈ ([0, 1] : List Nat), i ∉ ([] : List Nat) := nj_f (by decide +kernel)
set_option maxRecDepth 100000 in
theorem sk_z12_0 : sgk [(1, 1)] [1] 9 = true := by decide +kernel
set_option maxRecDepth 100000 in
theorem sk_z12_1 : sgk [(0, 1), (2, 7)] [0, 2, 3, 4, 5, 6, 7, 8] 9 = true := by decide +kernel
set_option maxRecDepth 100000 in
theorem sk_z12_2 : sgk [(0, 1), (8, 1), (1, 7)] [0, 8, 1, 2, 3, 4, 5, 6, 7] 9 = true := by decide +kernel
set_option maxRecDepth 100000 in
theorem sk_z12_3 : sgk [] [] 2 = true := by decide +kernel
set_option maxRecDepth 100000 in
theorem sk_z12_4 : sgk [(0, 2)] [0, 1] 2 = true := by decide +kernel
def f_X4_setAsTold (v_g_passWidth : (Nat → Int32)) (v_g_riverWidth : (Nat → Int32)) (v_g_rain : (Nat → Int32)) (v_p_pumpCell : Int32) (v_p_wanting : (Nat → Int32)) (v_p_passWidth : (Nat → Int32)) (v_p_riverWidth : (Nat → Int32)) (v_p_rain : (Nat → Int32)) : Option (Int32 × (Nat → Int32) × (Nat → Int32) × (Nat → Int32) × (Nat → Int32)) := bd (f_J7_fill_53178_6 v_p_wanting (-1 : Int32)) (fun o_1 => nm (va_cpy v_g_passWidth v_p_passWidth (0 : Int32).toNatClampNeg (0 : Int32).toNatClampNeg (20 : Int32).toNatClampNeg) (fun a_2 => nm (va_cpy v_g_riverWidth v_p_riverWidth (0 : Int32).toNatClampNeg (0 : Int32).toNatClampNeg (3 : Int32).toNatClampNeg) (fun a_3 => nm (va_cpy v_g_rain v_p_rain (0 : Int32).toNatClampNeg (0 : Int32).toNatClampNeg (14 : Int32).toNatClampNeg) (fun a_4 => some ((-1 : Int32), o_1, a_2, a_3, a_4)))))
set_option maxRecDepth 100000 in
set_option maxHeartbeats 8000000 in
theorem c_X4_setAsTold (l : Launch) (dC : Nat → ClassId) (dI : Nat → Nat → Nat) (cyI cyJ cyZ cyB cyO : ClassId) (tO : Nat) (vF : Value) (adK adV : Nat → Nat) (h_p : Nat) (m_p : Nat → Nat) (h_g : Nat) (m_g : Nat → Nat) (v_p_pumpCell : Int32) (v_p_pumpTakes : Int32) (v_p_pumpFrom : Int32) (v_p_pumpTo : Int32) (v_p_wanting : (Nat → Int32)) (v_p_passWidth : (Nat → Int32)) (v_p_riverWidth : (Nat → Int32)) (v_p_rain : (Nat → Int32)) (v_g_cells : Int32) (v_g_passes : Int32) (v_g_rivers : Int32) (v_g_villages : Int32) (v_g_rains : Int32) (v_g_passWidth : (Nat → Int32)) (v_g_riverWidth : (Nat → Int32)) (v_g_rain : (Nat → Int32))  (sz : Nat) (out : Int32 × (Nat → Int32) × (Nat → Int32) × (Nat → Int32) × (Nat → Int32)) (hf : f_X4_setAsTold v_g_passWidth v_g_riverWidth v_g_rain v_p_pumpCell v_p_wanting v_p_passWidth v_p_riverWidth v_p_rain = some out) : Met l yX4_setAsTold (Cond.code yX4_setAsTold cX4_setAsTold 2 none :: wsL_law) ({ frames := 1, cells := 0, slots := 0, locals := 40 } : Room) (va_Pc [.ref h_p, .ref h_g] (ux_pre (dC, dI) vwCl (tyG cyI cyJ cyZ cyB cyO) [(h_p, .inr (4, oX4 m_p v_p_pumpCell v_p_pumpTakes v_p_pumpFrom v_p_pumpTo)), (m_p 0, .inl (cyI, 6, .inl v_p_wanting)), (m_p 1, .inl (cyI, 20, .inl v_p_passWidth)), (m_p 2, .inl (cyI, 3, .inl v_p_riverWidth)), (m_p 3, .inl (cyI, 14, .inl v_p_rain)), (h_g, .inr (3, oX3 m_g v_g_cells v_g_passes v_g_rivers v_g_villages v_g_rains)), (m_g 7, .inl (cyI, 20, .inl v_g_passWidth)), (m_g 11, .inl (cyI, 3, .inl v_g_riverWidth)), (m_g 19, .inl (cyI, 14, .inl v_g_rain))] sz (xE tO vF adK adV))) (va_Qv (fun u : Int32 × (Nat → Int32) × (Nat → Int32) × (Nat → Int32) × (Nat → Int32) => u = out) (ux_at (dC, dI) vwCl (tyG cyI cyJ cyZ cyB cyO) [(h_p, .inr (4, oX4 m_p v_p_pumpCell v_p_pumpTakes v_p_pumpFrom v_p_pumpTo)), (m_p 0, .inl (cyI, 6, .inl v_p_wanting)), (m_p 1, .inl (cyI, 20, .inl v_p_passWidth)), (m_p 2, .inl (cyI, 3, .inl v_p_riverWidth)), (m_p 3, .inl (cyI, 14, .inl v_p_rain)), (h_g, .inr (3, oX3 m_g v_g_cells v_g_passes v_g_rivers v_g_villages v_g_rains)), (m_g 7, .inl (cyI, 20, .inl v_g_passWidth)), (m_g 11, .inl (cyI, 3, .inl v_g_riverWidth)), (m_g 19, .inl (cyI, 14, .inl v_g_rain))] sz (fun u : Int32 × (Nat → Int32) × (Nat → Int32) × (Nat → Int32) × (Nat → Int32) => [(h_p, .inr (4, oX4 m_p u.1 v_p_pumpTakes v_p_pumpFrom v_p_pumpTo)), (m_p 0, .inl (cyI, 6, .inl u.2.1)), (m_p 1, .inl (cyI, 20, .inl u.2.2.1)), (m_p 2, .inl (cyI, 3, .inl u.2.2.2.1)), (m_p 3, .inl (cyI, 14, .inl u.2.2.2.2)), (h_g, .inr (3, oX3 m_g v_g_cells v_g_passes v_g_rivers v_g_villages v_g_rains)), (m_g 7, .inl (cyI, 20, .inl v_g_passWidth)), (m_g 11, .inl (cyI, 3, .inl v_g_riverWidth)), (m_g 19, .inl (cyI, 14, .inl v_g_rain))])) (va_A [(h_p, .inr (4, oX4 m_p v_p_pumpCell v_p_pumpTakes v_p_pumpFrom v_p_pumpTo)), (m_p 0, .inl (cyI, 6, .inl v_p_wanting)), (m_p 1, .inl (cyI, 20, .inl v_p_passWidth)), (m_p 2, .inl (cyI, 3, .inl v_p_riverWidth)), (m_p 3, .inl (cyI, 14, .inl v_p_rain)), (h_g, .inr (3, oX3 m_g v_g_cells v_g_passes v_g_rivers v_g_villages v_g_rains)), (m_g 7, .inl (cyI, 20, .inl v_g_passWidth)), (m_g 11, .inl (cyI, 3, .inl v_g_riverWidth)), (m_g 19, .inl (cyI, 14, .inl v_g_rain))] sz)) 0 0 (va_A [(h_p, .inr (4, oX4 m_p v_p_pumpCell v_p_pumpTakes v_p_pumpFrom v_p_pumpTo)), (m_p 0, .inl (cyI, 6, .inl v_p_wanting)), (m_p 1, .inl (cyI, 20, .inl v_p_passWidth)), (m_p 2, .inl (cyI, 3, .inl v_p_riverWidth)), (m_p 3, .inl (cyI, 14, .inl v_p_rain)), (h_g, .inr (3, oX3 m_g v_g_cells v_g_passes v_g_rivers v_g_villages v_g_rains)), (m_g 7, .inl (cyI, 20, .inl v_g_passWidth)), (m_g 11, .inl (cyI, 3, .inl v_g_riverWidth)), (m_g 19, .inl (cyI, 14, .inl v_g_rain))] sz) := by
  refine ux_metv (by decide +kernel) (Nat.le_of_ble_eq_true rfl) ?_
  intro p e s m below meth c A Q ls hx hb hml hts hown hA hP hK hD hE hl hret
  have hown : s.vm.findClass RX4 = some m.cls := hown
  have hS : va_S A s.heap s.heap [] := va_S.rf
  have hl : lv_has ls 2 [(0, .ref h_p), (1, .ref h_g)] := hl
  unfold f_X4_setAsTold at hf
  refine lv_aload_n hx hb dX4_setAsTold_0 rfl (lv_at hl 0 rfl) ?_
  refine va_get (D := (dC, dI)) (ci := 4) (v := .ref (m_p 0)) (C := RX4) (T := TX4) (N := 8) hx hb hts (g_c inlX4) hown hK hP 0 rfl rfl 0 (by decide) (hts _ (List.mem_cons_of_mem _ wm_4_18)) (fun _ h9 => h9) rfl dX4_setAsTold_1 ?_
  refine lv_iconst (v := (-1 : Int32)) hx hb dX4_setAsTold_4 (by decide) ?_
  obtain ⟨o_1, ho_1, hf⟩ := bd_some hf
  refine ux_Sv (n := 2) (As := [.ref (m_p 0), .int (-1 : Int32)]) (rest := []) (wc := [(m_p 0, .inl (cyI, 6, .inl v_p_wanting))]) (wr := [_, _, _, _, _, _, _, _]) ⟨hx, hb, hml, hown, hts⟩ hK hP hD hS hA hE [1] [0, 2, 3, 4, 5, 6, 7, 8] (sg_h [(1, 1)] 9 rfl sk_z12_0 rfl) (sg_h [(0, 1), (2, 7)] 9 rfl sk_z12_1 rfl) nd_z12_0 nd_z12_1 nj_z12_0 (c_J7_fill_53178_6 l dC dI cyI cyJ cyZ cyB cyO tO vF adK adV (fun _ => m_p 0) v_p_wanting (-1 : Int32) _ _ ho_1) wm_33_14 wm_7_17 wm_7_14 wm_7_18 ⟨rfl, rfl⟩ (by decide +kernel) rfl ⟨Nat.le_of_ble_eq_true rfl, Nat.le_of_ble_eq_true rfl⟩ hl.1 rfl (Nat.le_of_ble_eq_true rfl) dX4_setAsTold_5 ⟨Nat.le_of_ble_eq_true rfl, Nat.le_of_ble_eq_true rfl⟩ (fun H locs hP hD hS => ?_)
  have hP : va_P (dC, dI) vwCl [_, _, _, _, _, _, _, _, (m_p 0, .inl (cyI, 6, .inl o_1))] H := hP
  have hD : va_D A [_, _, _, _, _, _, _, _, (m_p 0, .inl (cyI, 6, .inl o_1))] := hD
  refine lv_aload_n hx hb dX4_setAsTold_8 rfl (lv_at hl 1 rfl) ?_
  refine va_get (D := (dC, dI)) (ci := 3) (v := .ref (m_g 7)) (C := RX3) (T := TX3) (N := 20) hx hb hts (g_c inlX3) hown hK hP 4 rfl rfl 7 (by decide) (hts _ (List.mem_cons_of_mem _ wm_33_10)) (fun _ h9 => h9) rfl dX4_setAsTold_9 ?_
  refine lv_iconst (v := (0 : Int32)) hx hb dX4_setAsTold_12 (by decide) ?_
  refine lv_aload_n hx hb dX4_setAsTold_13 rfl (lv_at hl 0 rfl) ?_
  refine va_get (D := (dC, dI)) (ci := 4) (v := .ref (m_p 1)) (C := RX4) (T := TX4) (N := 8) hx hb hts (g_c inlX4) hown hK hP 0 rfl rfl 1 (by decide) (hts _ (List.mem_cons_of_mem _ wm_4_19)) (fun _ h9 => h9) rfl dX4_setAsTold_14 ?_
  refine lv_iconst (v := (0 : Int32)) hx hb dX4_setAsTold_17 (by decide) ?_
  refine lv_bipush (v := (20 : Int32)) hx hb dX4_setAsTold_18 (by decide) ?_
  obtain ⟨a_2, ea_2, hf⟩ := nm_some hf
  refine va_copyi hx hb (hml.trans hl.1.symm) hown (hts _ (List.mem_cons_of_mem _ wm_33_11)) (hts _ (List.mem_cons_of_mem _ wm_7_9)) (hts _ (List.mem_cons_of_mem _ wm_7_10)) (hts _ (List.mem_cons_of_mem _ wm_7_11)) hK hP hD hS 5 1 0 0 rfl rfl rfl rfl rfl (by decide) (by decide) (by decide) (by decide) (by decide) (fun _ _ => rfl) (Nat.le_of_ble_eq_true rfl) (Nat.le_of_ble_eq_true rfl) dX4_setAsTold_20 (fun H locs hP hD hS => ?_)
  have hP : va_P (dC, dI) vwCl [(h_p, .inr (4, oX4 m_p v_p_pumpCell v_p_pumpTakes v_p_pumpFrom v_p_pumpTo)), (m_p 1, .inl (cyI, 20, .inl a_2)), (m_p 2, .inl (cyI, 3, .inl v_p_riverWidth)), (m_p 3, .inl (cyI, 14, .inl v_p_rain)), (h_g, .inr (3, oX3 m_g v_g_cells v_g_passes v_g_rivers v_g_villages v_g_rains)), (m_g 7, .inl (cyI, 20, .inl v_g_passWidth)), (m_g 11, .inl (cyI, 3, .inl v_g_riverWidth)), (m_g 19, .inl (cyI, 14, .inl v_g_rain)), (m_p 0, .inl (cyI, 6, .inl o_1))] H := by rw [ea_2]; exact hP
  have hD : va_D A [(h_p, .inr (4, oX4 m_p v_p_pumpCell v_p_pumpTakes v_p_pumpFrom v_p_pumpTo)), (m_p 1, .inl (cyI, 20, .inl a_2)), (m_p 2, .inl (cyI, 3, .inl v_p_riverWidth)), (m_p 3, .inl (cyI, 14, .inl v_p_rain)), (h_g, .inr (3, oX3 m_g v_g_cells v_g_passes v_g_rivers v_g_villages v_g_rains)), (m_g 7, .inl (cyI, 20, .inl v_g_passWidth)), (m_g 11, .inl (cyI, 3, .inl v_g_riverWidth)), (m_g 19, .inl (cyI, 14, .inl v_g_rain)), (m_p 0, .inl (cyI, 6, .inl o_1))] := by rw [ea_2]; exact hD
  refine lv_aload_n hx hb dX4_setAsTold_23 rfl (lv_at hl 1 rfl) ?_
  refine va_get (D := (dC, dI)) (ci := 3) (v := .ref (m_g 11)) (C := RX3) (T := TX3) (N := 20) hx hb hts (g_c inlX3) hown hK hP 4 rfl rfl 11 (by decide) (hts _ (List.mem_cons_of_mem _ wm_33_12)) (fun _ h9 => h9) rfl dX4_setAsTold_24 ?_
  refine lv_iconst (v := (0 : Int32)) hx hb dX4_setAsTold_27 (by decide) ?_
  refine lv_aload_n hx hb dX4_setAsTold_28 rfl (lv_at hl 0 rfl) ?_
  refine va_get (D := (dC, dI)) (ci := 4) (v := .ref (m_p 2)) (C := RX4) (T := TX4) (N := 8) hx hb hts (g_c inlX4) hown hK hP 0 rfl rfl 2 (by decide) (hts _ (List.mem_cons_of_mem _ wm_4_20)) (fun _ h9 => h9) rfl dX4_setAsTold_29 ?_
  refine lv_iconst (v := (0 : Int32)) hx hb dX4_setAsTold_32 (by decide) ?_
  refine lv_iconst (v := (3 : Int32)) hx hb dX4_setAsTold_33 (by decide) ?_
  obtain ⟨a_3, ea_3, hf⟩ := nm_some hf
  refine va_copyi hx hb (hml.trans hl.1.symm) hown (hts _ (List.mem_cons_of_mem _ wm_33_11)) (hts _ (List.mem_cons_of_mem _ wm_7_9)) (hts _ (List.mem_cons_of_mem _ wm_7_10)) (hts _ (List.mem_cons_of_mem _ wm_7_11)) hK hP hD hS 6 2 0 0 rfl rfl rfl rfl rfl (by decide) (by decide) (by decide) (by decide) (by decide) (fun _ _ => rfl) (Nat.le_of_ble_eq_true rfl) (Nat.le_of_ble_eq_true rfl) dX4_setAsTold_34 (fun H locs hP hD hS => ?_)
  have hP : va_P (dC, dI) vwCl [(h_p, .inr (4, oX4 m_p v_p_pumpCell v_p_pumpTakes v_p_pumpFrom v_p_pumpTo)), (m_p 1, .inl (cyI, 20, .inl a_2)), (m_p 2, .inl (cyI, 3, .inl a_3)), (m_p 3, .inl (cyI, 14, .inl v_p_rain)), (h_g, .inr (3, oX3 m_g v_g_cells v_g_passes v_g_rivers v_g_villages v_g_rains)), (m_g 7, .inl (cyI, 20, .inl v_g_passWidth)), (m_g 11, .inl (cyI, 3, .inl v_g_riverWidth)), (m_g 19, .inl (cyI, 14, .inl v_g_rain)), (m_p 0, .inl (cyI, 6, .inl o_1))] H := by rw [ea_3]; exact hP
  have hD : va_D A [(h_p, .inr (4, oX4 m_p v_p_pumpCell v_p_pumpTakes v_p_pumpFrom v_p_pumpTo)), (m_p 1, .inl (cyI, 20, .inl a_2)), (m_p 2, .inl (cyI, 3, .inl a_3)), (m_p 3, .inl (cyI, 14, .inl v_p_rain)), (h_g, .inr (3, oX3 m_g v_g_cells v_g_passes v_g_rivers v_g_villages v_g_rains)), (m_g 7, .inl (cyI, 20, .inl v_g_passWidth)), (m_g 11, .inl (cyI, 3, .inl v_g_riverWidth)), (m_g 19, .inl (cyI, 14, .inl v_g_rain)), (m_p 0, .inl (cyI, 6, .inl o_1))] := by rw [ea_3]; exact hD
  refine lv_aload_n hx hb dX4_setAsTold_37 rfl (lv_at hl 1 rfl) ?_
  refine va_get (D := (dC, dI)) (ci := 3) (v := .ref (m_g 19)) (C := RX3) (T := TX3) (N := 20) hx hb hts (g_c inlX3) hown hK hP 4 rfl rfl 19 (by decide) (hts _ (List.mem_cons_of_mem _ wm_33_13)) (fun _ h9 => h9) rfl dX4_setAsTold_38 ?_
  refine lv_iconst (v := (0 : Int32)) hx hb dX4_setAsTold_41 (by decide) ?_
  refine lv_aload_n hx hb dX4_setAsTold_42 rfl (lv_at hl 0 rfl) ?_
  refine va_get (D := (dC, dI)) (ci := 4) (v := .ref (m_p 3)) (C := RX4) (T := TX4) (N := 8) hx hb hts (g_c inlX4) hown hK hP 0 rfl rfl 3 (by decide) (hts _ (List.mem_cons_of_mem _ wm_4_21)) (fun _ h9 => h9) rfl dX4_setAsTold_43 ?_
  refine lv_iconst (v := (0 : Int32)) hx hb dX4_setAsTold_46 (by decide) ?_
  refine lv_bipush (v := (14 : Int32)) hx hb dX4_setAsTold_47 (by decide) ?_
  obtain ⟨a_4, ea_4, hf⟩ := nm_some hf
  refine va_copyi hx hb (hml.trans hl.1.symm) hown (hts _ (List.mem_cons_of_mem _ wm_33_11)) (hts _ (List.mem_cons_of_mem _ wm_7_9)) (hts _ (List.mem_cons_of_mem _ wm_7_10)) (hts _ (List.mem_cons_of_mem _ wm_7_11)) hK hP hD hS 7 3 0 0 rfl rfl rfl rfl rfl (by decide) (by decide) (by decide) (by decide) (by decide) (fun _ _ => rfl) (Nat.le_of_ble_eq_true rfl) (Nat.le_of_ble_eq_true rfl) dX4_setAsTold_49 (fun H locs hP hD hS => ?_)
  have hP : va_P (dC, dI) vwCl [(h_p, .inr (4, oX4 m_p v_p_pumpCell v_p_pumpTakes v_p_pumpFrom v_p_pumpTo)), (m_p 1, .inl (cyI, 20, .inl a_2)), (m_p 2, .inl (cyI, 3, .inl a_3)), (m_p 3, .inl (cyI, 14, .inl a_4)), (h_g, .inr (3, oX3 m_g v_g_cells v_g_passes v_g_rivers v_g_villages v_g_rains)), (m_g 7, .inl (cyI, 20, .inl v_g_passWidth)), (m_g 11, .inl (cyI, 3, .inl v_g_riverWidth)), (m_g 19, .inl (cyI, 14, .inl v_g_rain)), (m_p 0, .inl (cyI, 6, .inl o_1))] H := by rw [ea_4]; exact hP
  have hD : va_D A [(h_p, .inr (4, oX4 m_p v_p_pumpCell v_p_pumpTakes v_p_pumpFrom v_p_pumpTo)), (m_p 1, .inl (cyI, 20, .inl a_2)), (m_p 2, .inl (cyI, 3, .inl a_3)), (m_p 3, .inl (cyI, 14, .inl a_4)), (h_g, .inr (3, oX3 m_g v_g_cells v_g_passes v_g_rivers v_g_villages v_g_rains)), (m_g 7, .inl (cyI, 20, .inl v_g_passWidth)), (m_g 11, .inl (cyI, 3, .inl v_g_riverWidth)), (m_g 19, .inl (cyI, 14, .inl v_g_rain)), (m_p 0, .inl (cyI, 6, .inl o_1))] := by rw [ea_4]; exact hD
  refine lv_aload_n hx hb dX4_setAsTold_52 rfl (lv_at hl 0 rfl) ?_
  refine lv_iconst (v := (-1 : Int32)) hx hb dX4_setAsTold_53 (by decide) ?_
  refine va_put (D := (dC, dI)) (ci := 4) (v := .int (-1 : Int32)) (ty := .int) (C := RX4) (T := TX4) (N := 8) hx hb hts (g_c inlX4) tyX4 tyX4_ok nmX4 hown hK hP hD hS 0 rfl rfl 4 (by decide) (hts _ (List.mem_cons_of_mem _ wm_4_22)) (fun _ h9 => h9) rfl (by decide +kernel) rfl rfl (Nat.le_of_ble_eq_true rfl) dX4_setAsTold_54 (fun H locs hP hD hS => ?_)
  have hP : va_P (dC, dI) vwCl [(h_p, .inr (4, oX4 m_p (-1 : Int32) v_p_pumpTakes v_p_pumpFrom v_p_pumpTo)), (m_p 1, .inl (cyI, 20, .inl a_2)), (m_p 2, .inl (cyI, 3, .inl a_3)), (m_p 3, .inl (cyI, 14, .inl a_4)), _, _, _, _, _] H := hP
  have hD : va_D A [(h_p, .inr (4, oX4 m_p (-1 : Int32) v_p_pumpTakes v_p_pumpFrom v_p_pumpTo)), (m_p 1, .inl (cyI, 20, .inl a_2)), (m_p 2, .inl (cyI, 3, .inl a_3)), (m_p 3, .inl (cyI, 14, .inl a_4)), _, _, _, _, _] := hD
  exact hret _ _ _ _ ((-1 : Int32), o_1, a_2, a_3, a_4) dX4_setAsTold_57 (Option.some.inj hf) (hP.sub [0, 8, 1, 2, 3, 4, 5, 6, 7] (ux_pick (sg_h [(0, 1), (8, 1), (1, 7)] 9 rfl sk_z12_2 rfl))) (hD.sub [0, 8, 1, 2, 3, 4, 5, 6, 7] nd_z12_2 (sg_h [(0, 1), (8, 1), (1, 7)] 9 rfl sk_z12_2 rfl)) hS
def f_X4_change_b48   (v_p_wanting : (Nat → Int32)) (v_p_passWidth : (Nat → Int32)) (v_p_riverWidth : (Nat → Int32)) (x1 : Int32) (x2 : Int32) : Option ((Nat → Int32) × (Nat → Int32) × (Nat → Int32)) := if x1 = (2 : Int32) then (if (3 : Int32) ≤ x2 then (some (v_p_wanting, v_p_passWidth, v_p_riverWidth)) else (ck (inb x2 3) (nm (upd v_p_riverWidth x2.toNatClampNeg (0 : Int32)) (fun a_4 => some (v_p_wanting, v_p_passWidth, a_4))))) else (some (v_p_wanting, v_p_passWidth, v_p_riverWidth))
def f_X4_change_b24   (v_p_wanting : (Nat → Int32)) (v_p_passWidth : (Nat → Int32)) (v_p_riverWidth : (Nat → Int32)) (x1 : Int32) (x2 : Int32) : Option ((Nat → Int32) × (Nat → Int32) × (Nat → Int32)) := if x1 = (1 : Int32) then (if (20 : Int32) ≤ x2 then (f_X4_change_b48 v_p_wanting v_p_passWidth v_p_riverWidth x1 x2) else (ck (inb x2 20) (nm (upd v_p_passWidth x2.toNatClampNeg (0 : Int32)) (fun a_4 => some (v_p_wanting, a_4, v_p_riverWidth))))) else (f_X4_change_b48 v_p_wanting v_p_passWidth v_p_riverWidth x1 x2)
def f_X4_change (v_p_wanting : (Nat → Int32)) (v_p_passWidth : (Nat → Int32)) (v_p_riverWidth : (Nat → Int32)) (q1 : Int32) (q2 : Int32) : Option ((Nat → Int32) × (Nat → Int32) × (Nat → Int32)) := if q1 = (0 : Int32) then (if (6 : Int32) ≤ q2 then (f_X4_change_b24 v_p_wanting v_p_passWidth v_p_riverWidth q1 q2) else (ck (inb q2 6) (nm (upd v_p_wanting q2.toNatClampNeg (-2 : Int32)) (fun a_4 => some (a_4, v_p_passWidth, v_p_riverWidth))))) else (f_X4_change_b24 v_p_wanting v_p_passWidth v_p_riverWidth q1 q2)
set_option maxRecDepth 100000 in
set_option maxHeartbeats 8000000 in
theorem c_X4_change (l : Launch) (dC : Nat → ClassId) (dI : Nat → Nat → Nat) (cyI cyJ cyZ cyB cyO : ClassId) (tO : Nat) (vF : Value) (adK adV : Nat → Nat) (h_p : Nat) (m_p : Nat → Nat) (v_p_pumpCell : Int32) (v_p_pumpTakes : Int32) (v_p_pumpFrom : Int32) (v_p_pumpTo : Int32) (v_p_wanting : (Nat → Int32)) (v_p_passWidth : (Nat → Int32)) (v_p_riverWidth : (Nat → Int32)) (q1 : Int32) (q2 : Int32) (sz : Nat) (out : (Nat → Int32) × (Nat → Int32) × (Nat → Int32)) (hf : f_X4_change v_p_wanting v_p_passWidth v_p_riverWidth q1 q2 = some out) : Met l yX4_change (Cond.code yX4_change cX4_change 3 none :: wsL_law) ({ frames := 0, cells := 0, slots := 0, locals := 0 } : Room) (va_Pc [.ref h_p, .int q1, .int q2] (ux_pre (dC, dI) vwCl (tyG cyI cyJ cyZ cyB cyO) [(h_p, .inr (4, oX4 m_p v_p_pumpCell v_p_pumpTakes v_p_pumpFrom v_p_pumpTo)), (m_p 0, .inl (cyI, 6, .inl v_p_wanting)), (m_p 1, .inl (cyI, 20, .inl v_p_passWidth)), (m_p 2, .inl (cyI, 3, .inl v_p_riverWidth))] sz (xE tO vF adK adV))) (va_Qv (fun u : (Nat → Int32) × (Nat → Int32) × (Nat → Int32) => u = out) (ux_at (dC, dI) vwCl (tyG cyI cyJ cyZ cyB cyO) [(h_p, .inr (4, oX4 m_p v_p_pumpCell v_p_pumpTakes v_p_pumpFrom v_p_pumpTo)), (m_p 0, .inl (cyI, 6, .inl v_p_wanting)), (m_p 1, .inl (cyI, 20, .inl v_p_passWidth)), (m_p 2, .inl (cyI, 3, .inl v_p_riverWidth))] sz (fun u : (Nat → Int32) × (Nat → Int32) × (Nat → Int32) => [(h_p, .inr (4, oX4 m_p v_p_pumpCell v_p_pumpTakes v_p_pumpFrom v_p_pumpTo)), (m_p 0, .inl (cyI, 6, .inl u.1)), (m_p 1, .inl (cyI, 20, .inl u.2.1)), (m_p 2, .inl (cyI, 3, .inl u.2.2))])) (va_A [(h_p, .inr (4, oX4 m_p v_p_pumpCell v_p_pumpTakes v_p_pumpFrom v_p_pumpTo)), (m_p 0, .inl (cyI, 6, .inl v_p_wanting)), (m_p 1, .inl (cyI, 20, .inl v_p_passWidth)), (m_p 2, .inl (cyI, 3, .inl v_p_riverWidth))] sz)) 0 0 (va_A [(h_p, .inr (4, oX4 m_p v_p_pumpCell v_p_pumpTakes v_p_pumpFrom v_p_pumpTo)), (m_p 0, .inl (cyI, 6, .inl v_p_wanting)), (m_p 1, .inl (cyI, 20, .inl v_p_passWidth)), (m_p 2, .inl (cyI, 3, .inl v_p_riverWidth))] sz) := by
  refine ux_metv (by decide +kernel) (Nat.le_of_ble_eq_true rfl) ?_
  intro p e s m below meth c A Q ls hx hb hml hts hown hA hP hK hD hE hl hret
  have hown : s.vm.findClass RX4 = some m.cls := hown
  have hS : va_S A s.heap s.heap [] := va_S.rf
  have hl : lv_has ls 3 [(0, .ref h_p), (1, .int q1), (2, .int q2)] := hl
  have hb_48 : ∀ (v_p_wanting : (Nat → Int32)) (v_p_passWidth : (Nat → Int32)) (v_p_riverWidth : (Nat → Int32)) (x1 : Int32) (x2 : Int32), f_X4_change_b48 v_p_wanting v_p_passWidth v_p_riverWidth x1 x2 = some out → ∀ (H : Heap) (locs : List Loc) (ls : Array Slot), va_P (dC, dI) vwCl [(h_p, .inr (4, oX4 m_p v_p_pumpCell v_p_pumpTakes v_p_pumpFrom v_p_pumpTo)), (m_p 0, .inl (cyI, 6, .inl v_p_wanting)), (m_p 1, .inl (cyI, 20, .inl v_p_passWidth)), (m_p 2, .inl (cyI, 3, .inl v_p_riverWidth))] H → va_D A [(h_p, .inr (4, oX4 m_p v_p_pumpCell v_p_pumpTakes v_p_pumpFrom v_p_pumpTo)), (m_p 0, .inl (cyI, 6, .inl v_p_wanting)), (m_p 1, .inl (cyI, 20, .inl v_p_passWidth)), (m_p 2, .inl (cyI, 3, .inl v_p_riverWidth))] → va_S A s.heap H locs → lv_has ls 3 [(0, .ref h_p), (1, .int x1), (2, .int x2)] → W p l e ({ frames := 0, cells := 0, slots := 0, locals := 0 } : Room) s m ([.ref h_p, .int q1, .int q2] : List Value).toArray below meth c H locs 0 0 Q (F0 m 48 ls []) := by
    intro  v_p_wanting v_p_passWidth v_p_riverWidth x1 x2 hf H locs ls hP hD hS hl
    unfold f_X4_change_b48 at hf
    refine lv_iload_n hx hb dX4_change_48 rfl (lv_at hl 1 rfl) ?_
    refine lv_iconst (v := (2 : Int32)) hx hb dX4_change_49 (by decide) ?_
    refine lv_icmp_ne (tgt := 69) hx hb dX4_change_50 (by decide) (fun c_1 => ?_) (fun c_1 => ?_)
    · have hf := (if_neg c_1).symm.trans hf
      exact hret _ _ _ _ (v_p_wanting, v_p_passWidth, v_p_riverWidth) dX4_change_69 (Option.some.inj hf) hP hD hS
    · have hf := (if_pos c_1).symm.trans hf
      refine lv_iload_n hx hb dX4_change_53 rfl (lv_at hl 2 rfl) ?_
      refine lv_aload_n hx hb dX4_change_54 rfl (lv_at hl 0 rfl) ?_
      refine va_get (D := (dC, dI)) (ci := 4) (v := .ref (m_p 2)) (C := RX4) (T := TX4) (N := 8) hx hb hts (g_c inlX4) hown hK hP 0 rfl rfl 2 (by decide) (hts _ (List.mem_cons_of_mem _ wm_4_20)) (fun _ h9 => h9) rfl dX4_change_55 ?_
      refine va_alen (v := (3 : Int32)) hx hb hK hP 3 0 rfl rfl rfl dX4_change_58 ?_
      refine lv_icmp_ge (tgt := 69) hx hb dX4_change_59 (by decide) (fun c_2 => ?_) (fun c_2 => ?_)
      · have hf := (if_pos c_2).symm.trans hf
        exact hret _ _ _ _ (v_p_wanting, v_p_passWidth, v_p_riverWidth) dX4_change_69 (Option.some.inj hf) hP hD hS
      · have hf := (if_neg c_2).symm.trans hf
        refine lv_aload_n hx hb dX4_change_62 rfl (lv_at hl 0 rfl) ?_
        refine va_get (D := (dC, dI)) (ci := 4) (v := .ref (m_p 2)) (C := RX4) (T := TX4) (N := 8) hx hb hts (g_c inlX4) hown hK hP 0 rfl rfl 2 (by decide) (hts _ (List.mem_cons_of_mem _ wm_4_20)) (fun _ h9 => h9) rfl dX4_change_63 ?_
        refine lv_iload_n hx hb dX4_change_66 rfl (lv_at hl 2 rfl) ?_
        refine lv_iconst (v := (0 : Int32)) hx hb dX4_change_67 (by decide) ?_
        obtain ⟨h_3, hf⟩ := ck_some hf
        obtain ⟨a_4, ea_4, hf⟩ := nm_some hf
        refine va_iast hx hb hK hP hD hS 3 0 rfl rfl (inb_in h_3) dX4_change_68 (fun H locs hP hD hS => ?_)
        have hP : va_P (dC, dI) vwCl [(h_p, .inr (4, oX4 m_p v_p_pumpCell v_p_pumpTakes v_p_pumpFrom v_p_pumpTo)), (m_p 0, .inl (cyI, 6, .inl v_p_wanting)), (m_p 1, .inl (cyI, 20, .inl v_p_passWidth)), (m_p 2, .inl (cyI, 3, .inl a_4))] H := by rw [ea_4]; exact hP
        have hD : va_D A [(h_p, .inr (4, oX4 m_p v_p_pumpCell v_p_pumpTakes v_p_pumpFrom v_p_pumpTo)), (m_p 0, .inl (cyI, 6, .inl v_p_wanting)), (m_p 1, .inl (cyI, 20, .inl v_p_passWidth)), (m_p 2, .inl (cyI, 3, .inl a_4))] := by rw [ea_4]; exact hD
        exact hret _ _ _ _ (v_p_wanting, v_p_passWidth, a_4) dX4_change_69 (Option.some.inj hf) hP hD hS
  have hb_24 : ∀ (v_p_wanting : (Nat → Int32)) (v_p_passWidth : (Nat → Int32)) (v_p_riverWidth : (Nat → Int32)) (x1 : Int32) (x2 : Int32), f_X4_change_b24 v_p_wanting v_p_passWidth v_p_riverWidth x1 x2 = some out → ∀ (H : Heap) (locs : List Loc) (ls : Array Slot), va_P (dC, dI) vwCl [(h_p, .inr (4, oX4 m_p v_p_pumpCell v_p_pumpTakes v_p_pumpFrom v_p_pumpTo)), (m_p 0, .inl (cyI, 6, .inl v_p_wanting)), (m_p 1, .inl (cyI, 20, .inl v_p_passWidth)), (m_p 2, .inl (cyI, 3, .inl v_p_riverWidth))] H → va_D A [(h_p, .inr (4, oX4 m_p v_p_pumpCell v_p_pumpTakes v_p_pumpFrom v_p_pumpTo)), (m_p 0, .inl (cyI, 6, .inl v_p_wanting)), (m_p 1, .inl (cyI, 20, .inl v_p_passWidth)), (m_p 2, .inl (cyI, 3, .inl v_p_riverWidth))] → va_S A s.heap H locs → lv_has ls 3 [(0, .ref h_p), (1, .int x1), (2, .int x2)] → W p l e ({ frames := 0, cells := 0, slots := 0, locals := 0 } : Room) s m ([.ref h_p, .int q1, .int q2] : List Value).toArray below meth c H locs 0 0 Q (F0 m 24 ls []) := by
    intro  v_p_wanting v_p_passWidth v_p_riverWidth x1 x2 hf H locs ls hP hD hS hl
    unfold f_X4_change_b24 at hf
    refine lv_iload_n hx hb dX4_change_24 rfl (lv_at hl 1 rfl) ?_
    refine lv_iconst (v := (1 : Int32)) hx hb dX4_change_25 (by decide) ?_
    refine lv_icmp_ne (tgt := 48) hx hb dX4_change_26 (by decide) (fun c_1 => ?_) (fun c_1 => ?_)
    · have hf := (if_neg c_1).symm.trans hf
      exact hb_48 _ _ _ _ _ hf _ _ _ hP hD hS (lv_sub hl [0, 1, 2] rfl)
    · have hf := (if_pos c_1).symm.trans hf
      refine lv_iload_n hx hb dX4_change_29 rfl (lv_at hl 2 rfl) ?_
      refine lv_aload_n hx hb dX4_change_30 rfl (lv_at hl 0 rfl) ?_
      refine va_get (D := (dC, dI)) (ci := 4) (v := .ref (m_p 1)) (C := RX4) (T := TX4) (N := 8) hx hb hts (g_c inlX4) hown hK hP 0 rfl rfl 1 (by decide) (hts _ (List.mem_cons_of_mem _ wm_4_19)) (fun _ h9 => h9) rfl dX4_change_31 ?_
      refine va_alen (v := (20 : Int32)) hx hb hK hP 2 0 rfl rfl rfl dX4_change_34 ?_
      refine lv_icmp_ge (tgt := 48) hx hb dX4_change_35 (by decide) (fun c_2 => ?_) (fun c_2 => ?_)
      · have hf := (if_pos c_2).symm.trans hf
        exact hb_48 _ _ _ _ _ hf _ _ _ hP hD hS (lv_sub hl [0, 1, 2] rfl)
      · have hf := (if_neg c_2).symm.trans hf
        refine lv_aload_n hx hb dX4_change_38 rfl (lv_at hl 0 rfl) ?_
        refine va_get (D := (dC, dI)) (ci := 4) (v := .ref (m_p 1)) (C := RX4) (T := TX4) (N := 8) hx hb hts (g_c inlX4) hown hK hP 0 rfl rfl 1 (by decide) (hts _ (List.mem_cons_of_mem _ wm_4_19)) (fun _ h9 => h9) rfl dX4_change_39 ?_
        refine lv_iload_n hx hb dX4_change_42 rfl (lv_at hl 2 rfl) ?_
        refine lv_iconst (v := (0 : Int32)) hx hb dX4_change_43 (by decide) ?_
        obtain ⟨h_3, hf⟩ := ck_some hf
        obtain ⟨a_4, ea_4, hf⟩ := nm_some hf
        refine va_iast hx hb hK hP hD hS 2 0 rfl rfl (inb_in h_3) dX4_change_44 (fun H locs hP hD hS => ?_)
        have hP : va_P (dC, dI) vwCl [(h_p, .inr (4, oX4 m_p v_p_pumpCell v_p_pumpTakes v_p_pumpFrom v_p_pumpTo)), (m_p 0, .inl (cyI, 6, .inl v_p_wanting)), (m_p 1, .inl (cyI, 20, .inl a_4)), (m_p 2, .inl (cyI, 3, .inl v_p_riverWidth))] H := by rw [ea_4]; exact hP
        have hD : va_D A [(h_p, .inr (4, oX4 m_p v_p_pumpCell v_p_pumpTakes v_p_pumpFrom v_p_pumpTo)), (m_p 0, .inl (cyI, 6, .inl v_p_wanting)), (m_p 1, .inl (cyI, 20, .inl a_4)), (m_p 2, .inl (cyI, 3, .inl v_p_riverWidth))] := by rw [ea_4]; exact hD
        refine lv_goto (tgt := 69) hx hb dX4_change_45 (by decide) ?_
        exact hret _ _ _ _ (v_p_wanting, a_4, v_p_riverWidth) dX4_change_69 (Option.some.inj hf) hP hD hS
  unfold f_X4_change at hf
  refine lv_iload_n hx hb dX4_change_0 rfl (lv_at hl 1 rfl) ?_
  refine lv_if_ne (tgt := 24) hx hb dX4_change_1 (by decide) (fun c_1 => ?_) (fun c_1 => ?_)
  · have hf := (if_neg c_1).symm.trans hf
    exact hb_24 _ _ _ _ _ hf _ _ _ hP hD hS (lv_sub hl [0, 1, 2] rfl)
  · have hf := (if_pos c_1).symm.trans hf
    refine lv_iload_n hx hb dX4_change_4 rfl (lv_at hl 2 rfl) ?_
    refine lv_aload_n hx hb dX4_change_5 rfl (lv_at hl 0 rfl) ?_
    refine va_get (D := (dC, dI)) (ci := 4) (v := .ref (m_p 0)) (C := RX4) (T := TX4) (N := 8) hx hb hts (g_c inlX4) hown hK hP 0 rfl rfl 0 (by decide) (hts _ (List.mem_cons_of_mem _ wm_4_18)) (fun _ h9 => h9) rfl dX4_change_6 ?_
    refine va_alen (v := (6 : Int32)) hx hb hK hP 1 0 rfl rfl rfl dX4_change_9 ?_
    refine lv_icmp_ge (tgt := 24) hx hb dX4_change_10 (by decide) (fun c_2 => ?_) (fun c_2 => ?_)
    · have hf := (if_pos c_2).symm.trans hf
      exact hb_24 _ _ _ _ _ hf _ _ _ hP hD hS (lv_sub hl [0, 1, 2] rfl)
    · have hf := (if_neg c_2).symm.trans hf
      refine lv_aload_n hx hb dX4_change_13 rfl (lv_at hl 0 rfl) ?_
      refine va_get (D := (dC, dI)) (ci := 4) (v := .ref (m_p 0)) (C := RX4) (T := TX4) (N := 8) hx hb hts (g_c inlX4) hown hK hP 0 rfl rfl 0 (by decide) (hts _ (List.mem_cons_of_mem _ wm_4_18)) (fun _ h9 => h9) rfl dX4_change_14 ?_
      refine lv_iload_n hx hb dX4_change_17 rfl (lv_at hl 2 rfl) ?_
      refine lv_bipush (v := (-2 : Int32)) hx hb dX4_change_18 (by decide) ?_
      obtain ⟨h_3, hf⟩ := ck_some hf
      obtain ⟨a_4, ea_4, hf⟩ := nm_some hf
      refine va_iast hx hb hK hP hD hS 1 0 rfl rfl (inb_in h_3) dX4_change_20 (fun H locs hP hD hS => ?_)
      have hP : va_P (dC, dI) vwCl [(h_p, .inr (4, oX4 m_p v_p_pumpCell v_p_pumpTakes v_p_pumpFrom v_p_pumpTo)), (m_p 0, .inl (cyI, 6, .inl a_4)), (m_p 1, .inl (cyI, 20, .inl v_p_passWidth)), (m_p 2, .inl (cyI, 3, .inl v_p_riverWidth))] H := by rw [ea_4]; exact hP
      have hD : va_D A [(h_p, .inr (4, oX4 m_p v_p_pumpCell v_p_pumpTakes v_p_pumpFrom v_p_pumpTo)), (m_p 0, .inl (cyI, 6, .inl a_4)), (m_p 1, .inl (cyI, 20, .inl v_p_passWidth)), (m_p 2, .inl (cyI, 3, .inl v_p_riverWidth))] := by rw [ea_4]; exact hD
      refine lv_goto (tgt := 69) hx hb dX4_change_21 (by decide) ?_
      exact hret _ _ _ _ (a_4, v_p_passWidth, v_p_riverWidth) dX4_change_69 (Option.some.inj hf) hP hD hS
def f_X4_letTake_b2_st (kr : (Nat → Int32) → Int32 → Int32 → Option ((Nat → Int32)))   (v_p_wanting : (Nat → Int32)) (x1 : Int32) (x2 : Int32) : Option ((Nat → Int32)) := if (6 : Int32) ≤ x2 then (some (v_p_wanting)) else (bd (f_X6_has x1 x2) (fun o_2 => if o_2 = (0 : Int32) then (ck (inb x2 6) (nm (upd v_p_wanting x2.toNatClampNeg (-2 : Int32)) (fun a_5 => kr a_5 x1 (x2 + (1 : Int32))))) else (ck (inb x2 6) (nm (upd v_p_wanting x2.toNatClampNeg (-1 : Int32)) (fun a_7 => kr a_7 x1 (x2 + (1 : Int32)))))))
def f_X4_letTake_b2   : Nat → (Nat → Int32) → Int32 → Int32 → Option ((Nat → Int32))
  | 0 => fun _ _ _ => none
  | n + 1 => f_X4_letTake_b2_st (f_X4_letTake_b2  n) 
def f_X4_letTake (v_p_wanting : (Nat → Int32)) (q1 : Int32) : Option ((Nat → Int32)) := f_X4_letTake_b2 fuel v_p_wanting q1 (0 : Int32)
set_option maxRecDepth 100000 in
set_option maxHeartbeats 8000000 in
theorem c_X4_letTake (l : Launch) (dC : Nat → ClassId) (dI : Nat → Nat → Nat) (cyI cyJ cyZ cyB cyO : ClassId) (tO : Nat) (vF : Value) (adK adV : Nat → Nat) (h_p : Nat) (m_p : Nat → Nat) (v_p_pumpCell : Int32) (v_p_pumpTakes : Int32) (v_p_pumpFrom : Int32) (v_p_pumpTo : Int32) (v_p_wanting : (Nat → Int32)) (q1 : Int32) (sz : Nat) (out : (Nat → Int32)) (hf : f_X4_letTake v_p_wanting q1 = some out) : Met l yX4_letTake (Cond.code yX4_letTake cX4_letTake 3 none :: wsL_law) ({ frames := 1, cells := 0, slots := 0, locals := 21 } : Room) (va_Pc [.ref h_p, .int q1] (ux_pre (dC, dI) vwCl (tyG cyI cyJ cyZ cyB cyO) [(h_p, .inr (4, oX4 m_p v_p_pumpCell v_p_pumpTakes v_p_pumpFrom v_p_pumpTo)), (m_p 0, .inl (cyI, 6, .inl v_p_wanting))] sz (xE tO vF adK adV))) (va_Qv (fun u : (Nat → Int32) => u = out) (ux_at (dC, dI) vwCl (tyG cyI cyJ cyZ cyB cyO) [(h_p, .inr (4, oX4 m_p v_p_pumpCell v_p_pumpTakes v_p_pumpFrom v_p_pumpTo)), (m_p 0, .inl (cyI, 6, .inl v_p_wanting))] sz (fun u : (Nat → Int32) => [(h_p, .inr (4, oX4 m_p v_p_pumpCell v_p_pumpTakes v_p_pumpFrom v_p_pumpTo)), (m_p 0, .inl (cyI, 6, .inl u))])) (va_A [(h_p, .inr (4, oX4 m_p v_p_pumpCell v_p_pumpTakes v_p_pumpFrom v_p_pumpTo)), (m_p 0, .inl (cyI, 6, .inl v_p_wanting))] sz)) 0 0 (va_A [(h_p, .inr (4, oX4 m_p v_p_pumpCell v_p_pumpTakes v_p_pumpFrom v_p_pumpTo)), (m_p 0, .inl (cyI, 6, .inl v_p_wanting))] sz) := by
  refine ux_metv (by decide +kernel) (Nat.le_of_ble_eq_true rfl) ?_
  intro p e s m below meth c A Q ls hx hb hml hts hown hA hP hK hD hE hl hret
  have hown : s.vm.findClass RX4 = some m.cls := hown
  have hS : va_S A s.heap s.heap [] := va_S.rf
  have hl : lv_has ls 3 [(0, .ref h_p), (1, .int q1)] := hl
  have hb_2 : ∀ (n : Nat) (v_p_wanting : (Nat → Int32)) (x1 : Int32) (x2 : Int32), f_X4_letTake_b2 n v_p_wanting x1 x2 = some out → ∀ (H : Heap) (locs : List Loc) (ls : Array Slot), va_P (dC, dI) vwCl [(h_p, .inr (4, oX4 m_p v_p_pumpCell v_p_pumpTakes v_p_pumpFrom v_p_pumpTo)), (m_p 0, .inl (cyI, 6, .inl v_p_wanting))] H → va_D A [(h_p, .inr (4, oX4 m_p v_p_pumpCell v_p_pumpTakes v_p_pumpFrom v_p_pumpTo)), (m_p 0, .inl (cyI, 6, .inl v_p_wanting))] → va_S A s.heap H locs → lv_has ls 3 [(0, .ref h_p), (1, .int x1), (2, .int x2)] → W p l e ({ frames := 1, cells := 0, slots := 0, locals := 21 } : Room) s m ([.ref h_p, .int q1] : List Value).toArray below meth c H locs 0 0 Q (F0 m 2 ls []) := by
    intro  n
    induction n with
    | zero =>
      intro v_p_wanting x1 x2 hf
      exact no_some hf
    | succ n ih =>
      intro v_p_wanting x1 x2 hf H locs ls hP hD hS hl
      have hf : f_X4_letTake_b2_st (f_X4_letTake_b2  n)  v_p_wanting x1 x2 = some out := hf
      unfold f_X4_letTake_b2_st at hf
      refine lv_iload_n hx hb dX4_letTake_2 rfl (lv_at hl 2 rfl) ?_
      refine lv_bipush (v := (6 : Int32)) hx hb dX4_letTake_3 (by decide) ?_
      refine lv_icmp_ge (tgt := 34) hx hb dX4_letTake_5 (by decide) (fun c_1 => ?_) (fun c_1 => ?_)
      · have hf := (if_pos c_1).symm.trans hf
        exact hret _ _ _ _ v_p_wanting dX4_letTake_34 (Option.some.inj hf) hP hD hS
      · have hf := (if_neg c_1).symm.trans hf
        refine lv_aload_n hx hb dX4_letTake_8 rfl (lv_at hl 0 rfl) ?_
        refine va_get (D := (dC, dI)) (ci := 4) (v := .ref (m_p 0)) (C := RX4) (T := TX4) (N := 8) hx hb hts (g_c inlX4) hown hK hP 0 rfl rfl 0 (by decide) (hts _ (List.mem_cons_of_mem _ wm_4_18)) (fun _ h9 => h9) rfl dX4_letTake_9 ?_
        refine lv_iload_n hx hb dX4_letTake_12 rfl (lv_at hl 2 rfl) ?_
        refine lv_iload_n hx hb dX4_letTake_13 rfl (lv_at hl 1 rfl) ?_
        refine lv_iload_n hx hb dX4_letTake_14 rfl (lv_at hl 2 rfl) ?_
        obtain ⟨o_2, ho_2, hf⟩ := bd_some hf
        refine ux_SNi0 (n := 2) (As := [.int x1, .int x2]) (rest := [.int x2, .ref (m_p 0)]) (wc := []) (wr := [_, _]) ⟨hx, hb, hml, hown, hts⟩ hK hP hD hS hA hE [] [0, 1] (sg_h [] 2 rfl sk_z12_3 rfl) (sg_h [(0, 2)] 2 rfl sk_z12_4 rfl) nd_z12_3 nd_z12_4 nj_z12_1 (c_X6_has l dC dI cyI cyJ cyZ cyB cyO tO vF adK adV x1 x2 _ _ ho_2) (show va_Nw (.methodLinkNest RX4 54 yX6_has "WellVillages") s from hE.1 7 (by decide)) wm_47_21 wm_1_2 wm_47_22 ⟨rfl, rfl⟩ (by decide +kernel) rfl ⟨Nat.le_of_ble_eq_true rfl, Nat.le_of_ble_eq_true rfl⟩ hl.1 rfl (Nat.le_of_ble_eq_true rfl) dX4_letTake_15 ⟨Nat.le_of_ble_eq_true rfl, Nat.le_of_ble_eq_true rfl⟩ (fun H locs hP hD hS => ?_)
        have hP : va_P (dC, dI) vwCl [_, _] H := hP
        have hD : va_D A [_, _] := hD
        refine lv_if_eq (tgt := 25) hx hb dX4_letTake_18 (by decide) (fun c_3 => ?_) (fun c_3 => ?_)
        · have hf := (if_pos c_3).symm.trans hf
          refine lv_bipush (v := (-2 : Int32)) hx hb dX4_letTake_25 (by decide) ?_
          obtain ⟨h_4, hf⟩ := ck_some hf
          obtain ⟨a_5, ea_5, hf⟩ := nm_some hf
          refine va_iast hx hb hK hP hD hS 1 0 rfl rfl (inb_in h_4) dX4_letTake_27 (fun H locs hP hD hS => ?_)
          have hP : va_P (dC, dI) vwCl [(h_p, .inr (4, oX4 m_p v_p_pumpCell v_p_pumpTakes v_p_pumpFrom v_p_pumpTo)), (m_p 0, .inl (cyI, 6, .inl a_5))] H := by rw [ea_5]; exact hP
          have hD : va_D A [(h_p, .inr (4, oX4 m_p v_p_pumpCell v_p_pumpTakes v_p_pumpFrom v_p_pumpTo)), (m_p 0, .inl (cyI, 6, .inl a_5))] := by rw [ea_5]; exact hD
          refine lv_iinc (v := x2 + (1 : Int32)) (lv' := [(2, .int (x2 + (1 : Int32))), (0, .ref h_p), (1, .int x1)]) hx hb dX4_letTake_28 hl (k := 2) rfl rfl (by decide) rfl (fun ls hl => ?_)
          refine lv_goto (tgt := 2) hx hb dX4_letTake_31 (by decide) ?_
          exact ih _ _ _ hf _ _ _ hP hD hS (lv_sub hl [1, 2, 0] rfl)
        · have hf := (if_neg c_3).symm.trans hf
          refine lv_iconst (v := (-1 : Int32)) hx hb dX4_letTake_21 (by decide) ?_
          refine lv_goto (tgt := 27) hx hb dX4_letTake_22 (by decide) ?_
          obtain ⟨h_6, hf⟩ := ck_some hf
          obtain ⟨a_7, ea_7, hf⟩ := nm_some hf
          refine va_iast hx hb hK hP hD hS 1 0 rfl rfl (inb_in h_6) dX4_letTake_27 (fun H locs hP hD hS => ?_)
          have hP : va_P (dC, dI) vwCl [(h_p, .inr (4, oX4 m_p v_p_pumpCell v_p_pumpTakes v_p_pumpFrom v_p_pumpTo)), (m_p 0, .inl (cyI, 6, .inl a_7))] H := by rw [ea_7]; exact hP
          have hD : va_D A [(h_p, .inr (4, oX4 m_p v_p_pumpCell v_p_pumpTakes v_p_pumpFrom v_p_pumpTo)), (m_p 0, .inl (cyI, 6, .inl a_7))] := by rw [ea_7]; exact hD
          refine lv_iinc (v := x2 + (1 : Int32)) (lv' := [(2, .int (x2 + (1 : Int32))), (0, .ref h_p), (1, .int x1)]) hx hb dX4_letTake_28 hl (k := 2) rfl rfl (by decide) rfl (fun ls hl => ?_)
          refine lv_goto (tgt := 2) hx hb dX4_letTake_31 (by decide) ?_
          exact ih _ _ _ hf _ _ _ hP hD hS (lv_sub hl [1, 2, 0] rfl)
  unfold f_X4_letTake at hf
  refine lv_iconst (v := (0 : Int32)) hx hb dX4_letTake_0 (by decide) ?_
  refine lv_istore_n (lv' := [(2, .int (0 : Int32)), (0, .ref h_p), (1, .int q1)]) hx hb dX4_letTake_1 rfl hl (by decide) rfl (fun ls hl => ?_)
  exact hb_2 _ _ _ _ hf _ _ _ hP hD hS (lv_sub hl [1, 2, 0] rfl)
def f_X4_setPump (v_p_pumpCell : Int32) (v_p_pumpTakes : Int32) (v_p_pumpFrom : Int32) (v_p_pumpTo : Int32) (q1 : Int32) (q2 : Int32) (q3 : Int32) (q4 : Int32) : Option (Int32 × Int32 × Int32 × Int32) := some (q1, q2, q3, q4)
set_option maxRecDepth 100000 in
set_option maxHeartbeats 8000000 in
theorem c_X4_setPump (l : Launch) (dC : Nat → ClassId) (dI : Nat → Nat → Nat) (cyI cyJ cyZ cyB cyO : ClassId) (tO : Nat) (vF : Value) (adK adV : Nat → Nat) (h_p : Nat) (m_p : Nat → Nat) (v_p_pumpCell : Int32) (v_p_pumpTakes : Int32) (v_p_pumpFrom : Int32) (v_p_pumpTo : Int32) (q1 : Int32) (q2 : Int32) (q3 : Int32) (q4 : Int32) (sz : Nat) (out : Int32 × Int32 × Int32 × Int32) (hf : f_X4_setPump v_p_pumpCell v_p_pumpTakes v_p_pumpFrom v_p_pumpTo q1 q2 q3 q4 = some out) : Met l yX4_setPump (Cond.code yX4_setPump cX4_setPump 5 none :: wsL_law) ({ frames := 0, cells := 0, slots := 0, locals := 0 } : Room) (va_Pc [.ref h_p, .int q1, .int q2, .int q3, .int q4] (ux_pre (dC, dI) vwCl (tyG cyI cyJ cyZ cyB cyO) [(h_p, .inr (4, oX4 m_p v_p_pumpCell v_p_pumpTakes v_p_pumpFrom v_p_pumpTo))] sz (xE tO vF adK adV))) (va_Qv (fun u : Int32 × Int32 × Int32 × Int32 => u = out) (ux_at (dC, dI) vwCl (tyG cyI cyJ cyZ cyB cyO) [(h_p, .inr (4, oX4 m_p v_p_pumpCell v_p_pumpTakes v_p_pumpFrom v_p_pumpTo))] sz (fun u : Int32 × Int32 × Int32 × Int32 => [(h_p, .inr (4, oX4 m_p u.1 u.2.1 u.2.2.1 u.2.2.2))])) (va_A [(h_p, .inr (4, oX4 m_p v_p_pumpCell v_p_pumpTakes v_p_pumpFrom v_p_pumpTo))] sz)) 0 0 (va_A [(h_p, .inr (4, oX4 m_p v_p_pumpCell v_p_pumpTakes v_p_pumpFrom v_p_pumpTo))] sz) := by
  refine ux_metv (by decide +kernel) (Nat.le_of_ble_eq_true rfl) ?_
  intro p e s m below meth c A Q ls hx hb hml hts hown hA hP hK hD hE hl hret
  have hown : s.vm.findClass RX4 = some m.cls := hown
  have hS : va_S A s.heap s.heap [] := va_S.rf
  have hl : lv_has ls 5 [(0, .ref h_p), (1, .int q1), (2, .int q2), (3, .int q3), (4, .int q4)] := hl
  unfold f_X4_setPump at hf
  refine lv_aload_n hx hb dX4_setPump_0 rfl (lv_at hl 0 rfl) ?_
  refine lv_iload_n hx hb dX4_setPump_1 rfl (lv_at hl 1 rfl) ?_
  refine va_put (D := (dC, dI)) (ci := 4) (v := .int q1) (ty := .int) (C := RX4) (T := TX4) (N := 8) hx hb hts (g_c inlX4) tyX4 tyX4_ok nmX4 hown hK hP hD hS 0 rfl rfl 4 (by decide) (hts _ (List.mem_cons_of_mem _ wm_4_22)) (fun _ h9 => h9) rfl (by decide +kernel) rfl rfl (Nat.le_of_ble_eq_true rfl) dX4_setPump_2 (fun H locs hP hD hS => ?_)
  have hP : va_P (dC, dI) vwCl [(h_p, .inr (4, oX4 m_p q1 v_p_pumpTakes v_p_pumpFrom v_p_pumpTo))] H := hP
  have hD : va_D A [(h_p, .inr (4, oX4 m_p q1 v_p_pumpTakes v_p_pumpFrom v_p_pumpTo))] := hD
  refine lv_aload_n hx hb dX4_setPump_5 rfl (lv_at hl 0 rfl) ?_
  refine lv_iload_n hx hb dX4_setPump_6 rfl (lv_at hl 2 rfl) ?_
  refine va_put (D := (dC, dI)) (ci := 4) (v := .int q2) (ty := .int) (C := RX4) (T := TX4) (N := 8) hx hb hts (g_c inlX4) tyX4 tyX4_ok nmX4 hown hK hP hD hS 0 rfl rfl 5 (by decide) (hts _ (List.mem_cons_of_mem _ wm_4_23)) (fun _ h9 => h9) rfl (by decide +kernel) rfl rfl (Nat.le_of_ble_eq_true rfl) dX4_setPump_7 (fun H locs hP hD hS => ?_)
  have hP : va_P (dC, dI) vwCl [(h_p, .inr (4, oX4 m_p q1 q2 v_p_pumpFrom v_p_pumpTo))] H := hP
  have hD : va_D A [(h_p, .inr (4, oX4 m_p q1 q2 v_p_pumpFrom v_p_pumpTo))] := hD
  refine lv_aload_n hx hb dX4_setPump_10 rfl (lv_at hl 0 rfl) ?_
  refine lv_iload_n hx hb dX4_setPump_11 rfl (lv_at hl 3 rfl) ?_
  refine va_put (D := (dC, dI)) (ci := 4) (v := .int q3) (ty := .int) (C := RX4) (T := TX4) (N := 8) hx hb hts (g_c inlX4) tyX4 tyX4_ok nmX4 hown hK hP hD hS 0 rfl rfl 6 (by decide) (hts _ (List.mem_cons_of_mem _ wm_5_0)) (fun _ h9 => h9) rfl (by decide +kernel) rfl rfl (Nat.le_of_ble_eq_true rfl) dX4_setPump_12 (fun H locs hP hD hS => ?_)
  have hP : va_P (dC, dI) vwCl [(h_p, .inr (4, oX4 m_p q1 q2 q3 v_p_pumpTo))] H := hP
  have hD : va_D A [(h_p, .inr (4, oX4 m_p q1 q2 q3 v_p_pumpTo))] := hD
  refine lv_aload_n hx hb dX4_setPump_15 rfl (lv_at hl 0 rfl) ?_
  refine lv_iload hx hb dX4_setPump_16 (lv_at hl 4 rfl) ?_
  refine va_put (D := (dC, dI)) (ci := 4) (v := .int q4) (ty := .int) (C := RX4) (T := TX4) (N := 8) hx hb hts (g_c inlX4) tyX4 tyX4_ok nmX4 hown hK hP hD hS 0 rfl rfl 7 (by decide) (hts _ (List.mem_cons_of_mem _ wm_5_1)) (fun _ h9 => h9) rfl (by decide +kernel) rfl rfl (Nat.le_of_ble_eq_true rfl) dX4_setPump_18 (fun H locs hP hD hS => ?_)
  have hP : va_P (dC, dI) vwCl [(h_p, .inr (4, oX4 m_p q1 q2 q3 q4))] H := hP
  have hD : va_D A [(h_p, .inr (4, oX4 m_p q1 q2 q3 q4))] := hD
  exact hret _ _ _ _ (q1, q2, q3, q4) dX4_setPump_21 (Option.some.inj hf) hP hD hS
def f_X4_pumpsOn (v_p_pumpCell : Int32) (v_p_pumpFrom : Int32) (v_p_pumpTo : Int32) (q1 : Int32) : Option (Int32) := if v_p_pumpCell = (-1 : Int32) then (some ((0 : Int32))) else (if q1 < v_p_pumpFrom then (some ((0 : Int32))) else (if v_p_pumpTo < q1 then (some ((0 : Int32))) else (some ((1 : Int32)))))
set_option maxRecDepth 100000 in
set_option maxHeartbeats 8000000 in
theorem c_X4_pumpsOn (l : Launch) (dC : Nat → ClassId) (dI : Nat → Nat → Nat) (cyI cyJ cyZ cyB cyO : ClassId) (tO : Nat) (vF : Value) (adK adV : Nat → Nat) (h_p : Nat) (m_p : Nat → Nat) (v_p_pumpCell : Int32) (v_p_pumpTakes : Int32) (v_p_pumpFrom : Int32) (v_p_pumpTo : Int32) (q1 : Int32) (sz : Nat) (out : Int32) (hf : f_X4_pumpsOn v_p_pumpCell v_p_pumpFrom v_p_pumpTo q1 = some out) : Met l yX4_pumpsOn (Cond.code yX4_pumpsOn cX4_pumpsOn 2 (some .boolean) :: wsL_law) ({ frames := 0, cells := 0, slots := 0, locals := 0 } : Room) (va_Pc [.ref h_p, .int q1] (ux_pre (dC, dI) vwCl (tyG cyI cyJ cyZ cyB cyO) [(h_p, .inr (4, oX4 m_p v_p_pumpCell v_p_pumpTakes v_p_pumpFrom v_p_pumpTo))] sz (xE tO vF adK adV))) (va_Qi (fun (r : Int32) (_ : Unit) => r = out) (ux_at (dC, dI) vwCl (tyG cyI cyJ cyZ cyB cyO) [(h_p, .inr (4, oX4 m_p v_p_pumpCell v_p_pumpTakes v_p_pumpFrom v_p_pumpTo))] sz (fun u : Unit => [(h_p, .inr (4, oX4 m_p v_p_pumpCell v_p_pumpTakes v_p_pumpFrom v_p_pumpTo))])) (va_A [(h_p, .inr (4, oX4 m_p v_p_pumpCell v_p_pumpTakes v_p_pumpFrom v_p_pumpTo))] sz)) 0 0 (va_A [(h_p, .inr (4, oX4 m_p v_p_pumpCell v_p_pumpTakes v_p_pumpFrom v_p_pumpTo))] sz) := by
  refine ux_metz0 (by decide +kernel) (Nat.le_of_ble_eq_true rfl) ?_
  intro p e s m below meth c A Q ls hx hb hml hts hown hA hP hK hD hE hl hret
  have hown : s.vm.findClass RX4 = some m.cls := hown
  have hS : va_S A s.heap s.heap [] := va_S.rf
  have hl : lv_has ls 2 [(0, .ref h_p), (1, .int q1)] := hl
  unfold f_X4_pumpsOn at hf
  refine lv_aload_n hx hb dX4_pumpsOn_0 rfl (lv_at hl 0 rfl) ?_
  refine va_get (D := (dC, dI)) (ci := 4) (v := .int v_p_pumpCell) (C := RX4) (T := TX4) (N := 8) hx hb hts (g_c inlX4) hown hK hP 0 rfl rfl 4 (by decide) (hts _ (List.mem_cons_of_mem _ wm_4_22)) (fun _ h9 => h9) rfl dX4_pumpsOn_1 ?_
  refine lv_iconst (v := (-1 : Int32)) hx hb dX4_pumpsOn_4 (by decide) ?_
  refine lv_icmp_eq (tgt := 28) hx hb dX4_pumpsOn_5 (by decide) (fun c_1 => ?_) (fun c_1 => ?_)
  · have hf := (if_pos c_1).symm.trans hf
    refine lv_iconst (v := (0 : Int32)) hx hb dX4_pumpsOn_28 (by decide) ?_
    exact hret _ _ _ _ (0 : Int32) dX4_pumpsOn_29 (Option.some.inj hf) rfl hP hD hS
  · have hf := (if_neg c_1).symm.trans hf
    refine lv_iload_n hx hb dX4_pumpsOn_8 rfl (lv_at hl 1 rfl) ?_
    refine lv_aload_n hx hb dX4_pumpsOn_9 rfl (lv_at hl 0 rfl) ?_
    refine va_get (D := (dC, dI)) (ci := 4) (v := .int v_p_pumpFrom) (C := RX4) (T := TX4) (N := 8) hx hb hts (g_c inlX4) hown hK hP 0 rfl rfl 6 (by decide) (hts _ (List.mem_cons_of_mem _ wm_5_0)) (fun _ h9 => h9) rfl dX4_pumpsOn_10 ?_
    refine lv_icmp_lt (tgt := 28) hx hb dX4_pumpsOn_13 (by decide) (fun c_2 => ?_) (fun c_2 => ?_)
    · have hf := (if_pos c_2).symm.trans hf
      refine lv_iconst (v := (0 : Int32)) hx hb dX4_pumpsOn_28 (by decide) ?_
      exact hret _ _ _ _ (0 : Int32) dX4_pumpsOn_29 (Option.some.inj hf) rfl hP hD hS
    · have hf := (if_neg c_2).symm.trans hf
      refine lv_iload_n hx hb dX4_pumpsOn_16 rfl (lv_at hl 1 rfl) ?_
      refine lv_aload_n hx hb dX4_pumpsOn_17 rfl (lv_at hl 0 rfl) ?_
      refine va_get (D := (dC, dI)) (ci := 4) (v := .int v_p_pumpTo) (C := RX4) (T := TX4) (N := 8) hx hb hts (g_c inlX4) hown hK hP 0 rfl rfl 7 (by decide) (hts _ (List.mem_cons_of_mem _ wm_5_1)) (fun _ h9 => h9) rfl dX4_pumpsOn_18 ?_
      refine lv_icmp_gt (tgt := 28) hx hb dX4_pumpsOn_21 (by decide) (fun c_3 => ?_) (fun c_3 => ?_)
      · have hf := (if_pos c_3).symm.trans hf
        refine lv_iconst (v := (0 : Int32)) hx hb dX4_pumpsOn_28 (by decide) ?_
        exact hret _ _ _ _ (0 : Int32) dX4_pumpsOn_29 (Option.some.inj hf) rfl hP hD hS
      · have hf := (if_neg c_3).symm.trans hf
        refine lv_iconst (v := (1 : Int32)) hx hb dX4_pumpsOn_24 (by decide) ?_
        refine lv_goto (tgt := 29) hx hb dX4_pumpsOn_25 (by decide) ?_
        exact hret _ _ _ _ (1 : Int32) dX4_pumpsOn_29 (Option.some.inj hf) rfl hP hD hS
