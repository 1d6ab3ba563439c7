set_option maxRecDepth 100000 in
theorem nd_z193h_0 : va_nd [0, 1] = true := nd_f (by decide +kernel)
set_option maxRecDepth 100000 in
theorem nd_z193h_1 : va_nd [2, 3, 4, 5] = true := nd_f (by decide +kernel)
set_option maxRecDepth 100000 in
theorem nd_z193h_2 : va_nd [4, 5, 0, 1, 2, 3] = true := nd_f (by decide +kernel)
set_option maxRecDepth 100000 in
theorem nd_z193h_3 : va_nd [0, 1, 2, 3] = true := nd_f (by decide +kernel)
set_option maxRecDepth 100000 in
theorem nd_z193h_4 : va_nd [4, 5] = true := nd_f (by decide +kernel)
set_option maxRecDepth 100000 in
theorem nj_z193h_0 : ∀ i ∈ ([2, 3, 4, 5] : List Nat), i ∉ ([0, 1] : List Nat) := nj_f (by decide +kernel)
set_option maxRecDepth 100000 in
theorem nj_z193h_1 : ∀ i ∈ ([4, 5] : List Nat), i ∉ ([0, 1, 2, 3] : List Nat) := nj_f (by decide +kernel)
set_option maxRecDepth 100000 in
theorem sk_z193h_0 : sgk [(0, 2)] [0, 1] 6 = true := by decide +kernel
set_option maxRecDepth 100000 in
theorem sk_z193h_1 : sgk [(2, 4)] [2, 3, 4, 5] 6 = true := by decide +kernel
set_option maxRecDepth 100000 in
theorem sk_z193h_2 : sgk [(4, 2), (0, 4)] [4, 5, 0, 1, 2, 3] 6 = true := by decide +kernel
set_option maxRecDepth 100000 in
theorem sk_z193h_3 : sgk [(0, 4)] [0, 1, 2, 3] 6 = true := by decide +kernel
set_option maxRecDepth 100000 in
theorem sk_z193h_4 : sgk [(4, 2)] [4, 5] 6 = true := by decide +kernel
def f_X6_tell (v_g_cells : Int32) (v_e_told : Int32) (v_e_toldDay : (Nat → Int32)) (v_e_toldCell : (Nat → Int32)) (v_e_toldLevel : (Nat → Int32)) (q1 : Int32) (q2 : Int32) (q3 : Int32) : Option (Int32 × Int32 × (Nat → Int32) × (Nat → Int32) × (Nat → Int32)) := if q1 < (0 : Int32) then (some ((-1 : Int32), v_e_told, v_e_toldDay, v_e_toldCell, v_e_toldLevel)) else (if (200 : Int32) ≤ q1 then (some ((-1 : Int32), v_e_told, v_e_toldDay, v_e_toldCell, v_e_toldLevel)) else (bd (f_X6_isCell v_g_cells q2) (fun o_3 => if o_3 = (0 : Int32) then (some ((-1 : Int32), v_e_told, v_e_toldDay, v_e_toldCell, v_e_toldLevel)) else (if q3 < (0 : Int32) then (some ((-1 : Int32), v_e_told, v_e_toldDay, v_e_toldCell, v_e_toldLevel)) else (if q3 ≤ (9999 : Int32) then (bd (f_X2_add v_e_told v_e_toldDay v_e_toldCell v_e_toldLevel q1 q2 q3) (fun o_7 => un5 o_7 (fun o_7_0 o_7_1 o_7_2 o_7_3 o_7_4 => some (o_7_0, o_7_1, o_7_2, o_7_3, o_7_4)))) else (some ((-1 : Int32), v_e_told, v_e_toldDay, v_e_toldCell, v_e_toldLevel)))))))
set_option maxRecDepth 100000 in
set_option maxHeartbeats 8000000 in
theorem c_X6_tell (l : Launch) (dC : Nat → ClassId) (dI : Nat → Nat → Nat) (cyI cyJ cyZ cyB cyO : ClassId) (tO : Nat) (vF : Value) (adK adV : Nat → Nat) (h_w : Nat) (m_w : Nat → Nat) (h_r : Nat) (m_r : Nat → Nat) (h_g : Nat) (m_g : Nat → Nat) (h_p : Nat) (m_p : Nat → Nat) (h_c : Nat) (m_c : Nat → Nat) (h_n : Nat) (m_n : Nat → Nat) (h_d : Nat) (m_d : Nat → Nat) (h_e : Nat) (m_e : Nat → Nat) (h_ep : Nat) (m_ep : Nat → Nat) (h_ec : Nat) (m_ec : Nat → Nat) (h_ed : Nat) (m_ed : Nat → Nat) (v_w_length : Int32) (v_w_faultPlace : Int32) (v_g_cells : Int32) (v_g_passes : Int32) (v_g_rivers : Int32) (v_g_villages : Int32) (v_g_rains : Int32) (v_e_told : Int32) (v_e_fitting : Int32) (v_e_firstPair : Int32) (v_e_pairLevels : Value) (v_e_begins : Value) (v_e_toldDay : (Nat → Int32)) (v_e_toldCell : (Nat → Int32)) (v_e_toldLevel : (Nat → Int32)) (q1 : Int32) (q2 : Int32) (q3 : Int32) (sz : Nat) (out : Int32 × Int32 × (Nat → Int32) × (Nat → Int32) × (Nat → Int32)) (hf : f_X6_tell v_g_cells v_e_told v_e_toldDay v_e_toldCell v_e_toldLevel q1 q2 q3 = some out) : Met l yX6_tell (Cond.code yX6_tell cX6_tell 4 (some .int) :: wsL_law) ({ frames := 1, cells := 0, slots := 0, locals := 23 } : Room) (va_Pc [.ref h_w, .int q1, .int q2, .int q3] (ux_pre (dC, dI) vwCl (tyG cyI cyJ cyZ cyB cyO) [(h_w, .inr (6, oX6 m_w v_w_length v_w_faultPlace h_r h_g h_p h_c h_n h_d h_e)), (h_g, .inr (3, oX3 m_g v_g_cells v_g_passes v_g_rivers v_g_villages v_g_rains)), (h_e, .inr (2, oX2 m_e v_e_told v_e_fitting v_e_firstPair h_g h_ep h_ec h_ed v_e_pairLevels v_e_begins)), (m_e 1, .inl (cyI, 20, .inl v_e_toldDay)), (m_e 2, .inl (cyI, 20, .inl v_e_toldCell)), (m_e 3, .inl (cyI, 20, .inl v_e_toldLevel))] sz (xE tO vF adK adV))) (va_Qi (fun (r : Int32) (u : Int32 × (Nat → Int32) × (Nat → Int32) × (Nat → Int32)) => (r, u) = out) (ux_at (dC, dI) vwCl (tyG cyI cyJ cyZ cyB cyO) [(h_w, .inr (6, oX6 m_w v_w_length v_w_faultPlace h_r h_g h_p h_c h_n h_d h_e)), (h_g, .inr (3, oX3 m_g v_g_cells v_g_passes v_g_rivers v_g_villages v_g_rains)), (h_e, .inr (2, oX2 m_e v_e_told v_e_fitting v_e_firstPair h_g h_ep h_ec h_ed v_e_pairLevels v_e_begins)), (m_e 1, .inl (cyI, 20, .inl v_e_toldDay)), (m_e 2, .inl (cyI, 20, .inl v_e_toldCell)), (m_e 3, .inl (cyI, 20, .inl v_e_toldLevel))] sz (fun u : Int32 × (Nat → Int32) × (Nat → Int32) × (Nat → Int32) => [(h_w, .inr (6, oX6 m_w v_w_length v_w_faultPlace h_r h_g h_p h_c h_n h_d h_e)), (h_g, .inr (3, oX3 m_g v_g_cells v_g_passes v_g_rivers v_g_villages v_g_rains)), (h_e, .inr (2, oX2 m_e u.1 v_e_fitting v_e_firstPair h_g h_ep h_ec h_ed v_e_pairLevels v_e_begins)), (m_e 1, .inl (cyI, 20, .inl u.2.1)), (m_e 2, .inl (cyI, 20, .inl u.2.2.1)), (m_e 3, .inl (cyI, 20, .inl u.2.2.2))])) (va_A [(h_w, .inr (6, oX6 m_w v_w_length v_w_faultPlace h_r h_g h_p h_c h_n h_d h_e)), (h_g, .inr (3, oX3 m_g v_g_cells v_g_passes v_g_rivers v_g_villages v_g_rains)), (h_e, .inr (2, oX2 m_e v_e_told v_e_fitting v_e_firstPair h_g h_ep h_ec h_ed v_e_pairLevels v_e_begins)), (m_e 1, .inl (cyI, 20, .inl v_e_toldDay)), (m_e 2, .inl (cyI, 20, .inl v_e_toldCell)), (m_e 3, .inl (cyI, 20, .inl v_e_toldLevel))] sz)) 0 0 (va_A [(h_w, .inr (6, oX6 m_w v_w_length v_w_faultPlace h_r h_g h_p h_c h_n h_d h_e)), (h_g, .inr (3, oX3 m_g v_g_cells v_g_passes v_g_rivers v_g_villages v_g_rains)), (h_e, .inr (2, oX2 m_e v_e_told v_e_fitting v_e_firstPair h_g h_ep h_ec h_ed v_e_pairLevels v_e_begins)), (m_e 1, .inl (cyI, 20, .inl v_e_toldDay)), (m_e 2, .inl (cyI, 20, .inl v_e_toldCell)), (m_e 3, .inl (cyI, 20, .inl v_e_toldLevel))] sz) := by
  refine ux_meti (by decide +kernel) (Nat.le_of_ble_eq_true rfl) ?_
  intro p e s m below meth c A Q ls hx hb hml hts hown hA hP hK hD hE hl hret
  have hown : s.vm.findClass RX6 = some m.cls := hown
  have hS : va_S A s.heap s.heap [] := va_S.rf
  have hl : lv_has ls 4 [(0, .ref h_w), (1, .int q1), (2, .int q2), (3, .int q3)] := hl
  unfold f_X6_tell at hf
  refine lv_iload_n hx hb dX6_tell_0 rfl (lv_at hl 1 rfl) ?_
  refine lv_if_lt (tgt := 30) hx hb dX6_tell_1 (by decide) (fun c_1 => ?_) (fun c_1 => ?_)
  · have hf := (if_pos c_1).symm.trans hf
    refine lv_iconst (v := (-1 : Int32)) hx hb dX6_tell_30 (by decide) ?_
    exact hret _ _ _ _ (-1 : Int32) (v_e_told, v_e_toldDay, v_e_toldCell, v_e_toldLevel) dX6_tell_31 (Option.some.inj hf) hP hD hS
  · have hf := (if_neg c_1).symm.trans hf
    refine lv_iload_n hx hb dX6_tell_4 rfl (lv_at hl 1 rfl) ?_
    refine lv_sipush (v := (200 : Int32)) hx hb dX6_tell_5 (by decide) ?_
    refine lv_icmp_ge (tgt := 30) hx hb dX6_tell_8 (by decide) (fun c_2 => ?_) (fun c_2 => ?_)
    · have hf := (if_pos c_2).symm.trans hf
      refine lv_iconst (v := (-1 : Int32)) hx hb dX6_tell_30 (by decide) ?_
      exact hret _ _ _ _ (-1 : Int32) (v_e_told, v_e_toldDay, v_e_toldCell, v_e_toldLevel) dX6_tell_31 (Option.some.inj hf) hP hD hS
    · have hf := (if_neg c_2).symm.trans hf
      refine lv_aload_n hx hb dX6_tell_11 rfl (lv_at hl 0 rfl) ?_
      refine lv_iload_n hx hb dX6_tell_12 rfl (lv_at hl 2 rfl) ?_
      obtain ⟨o_3, ho_3, hf⟩ := bd_some hf
      refine ux_Vi0 (n := 1) (As := [.int q2]) (rest := []) (wc := [(h_w, .inr (6, oX6 m_w v_w_length v_w_faultPlace h_r h_g h_p h_c h_n h_d h_e)), (h_g, .inr (3, oX3 m_g v_g_cells v_g_passes v_g_rivers v_g_villages v_g_rains))]) (wr := [_, _, _, _]) ⟨hx, hb, hml, hown, hts⟩ hK hP hD hS hA hE [0, 1] [2, 3, 4, 5] (sg_h [(0, 2)] 6 rfl sk_z193h_0 rfl) (sg_h [(2, 4)] 6 rfl sk_z193h_1 rfl) nd_z193h_0 nd_z193h_1 nj_z193h_0 (c_X6_isCell l dC dI cyI cyJ cyZ cyB cyO tO vF adK adV h_w m_w h_r m_r h_g m_g h_p m_p h_c m_c h_n m_n h_d m_d h_e m_e v_w_length v_w_faultPlace v_g_cells v_g_passes v_g_rivers v_g_villages v_g_rains q2 _ _ ho_3) 6 0 rfl rfl wm_29_22 wm_29_23 wm_30_0 wm_1_2 wm_30_1 ⟨rfl, rfl⟩ (by decide +kernel) rfl ⟨Nat.le_of_ble_eq_true rfl, Nat.le_of_ble_eq_true rfl⟩ hl.1 rfl (Nat.le_of_ble_eq_true rfl) dX6_tell_13 ⟨Nat.le_of_ble_eq_true rfl, Nat.le_of_ble_eq_true rfl⟩ (fun H locs hP hD hS => ?_)
      have hP : va_P (dC, dI) vwCl [_, _, _, _, (h_w, .inr (6, oX6 m_w v_w_length v_w_faultPlace h_r h_g h_p h_c h_n h_d h_e)), (h_g, .inr (3, oX3 m_g v_g_cells v_g_passes v_g_rivers v_g_villages v_g_rains))] H := hP
      have hD : va_D A [_, _, _, _, (h_w, .inr (6, oX6 m_w v_w_length v_w_faultPlace h_r h_g h_p h_c h_n h_d h_e)), (h_g, .inr (3, oX3 m_g v_g_cells v_g_passes v_g_rivers v_g_villages v_g_rains))] := hD
      refine lv_if_eq (tgt := 30) hx hb dX6_tell_16 (by decide) (fun c_4 => ?_) (fun c_4 => ?_)
      · have hf := (if_pos c_4).symm.trans hf
        refine lv_iconst (v := (-1 : Int32)) hx hb dX6_tell_30 (by decide) ?_
        exact hret _ _ _ _ (-1 : Int32) (v_e_told, v_e_toldDay, v_e_toldCell, v_e_toldLevel) dX6_tell_31 (Option.some.inj hf) (hP.sub [4, 5, 0, 1, 2, 3] (ux_pick (sg_h [(4, 2), (0, 4)] 6 rfl sk_z193h_2 rfl))) (hD.sub [4, 5, 0, 1, 2, 3] nd_z193h_2 (sg_h [(4, 2), (0, 4)] 6 rfl sk_z193h_2 rfl)) hS
      · have hf := (if_neg c_4).symm.trans hf
        refine lv_iload_n hx hb dX6_tell_19 rfl (lv_at hl 3 rfl) ?_
        refine lv_if_lt (tgt := 30) hx hb dX6_tell_20 (by decide) (fun c_5 => ?_) (fun c_5 => ?_)
        · have hf := (if_pos c_5).symm.trans hf
          refine lv_iconst (v := (-1 : Int32)) hx hb dX6_tell_30 (by decide) ?_
          exact hret _ _ _ _ (-1 : Int32) (v_e_told, v_e_toldDay, v_e_toldCell, v_e_toldLevel) dX6_tell_31 (Option.some.inj hf) (hP.sub [4, 5, 0, 1, 2, 3] (ux_pick (sg_h [(4, 2), (0, 4)] 6 rfl sk_z193h_2 rfl))) (hD.sub [4, 5, 0, 1, 2, 3] nd_z193h_2 (sg_h [(4, 2), (0, 4)] 6 rfl sk_z193h_2 rfl)) hS
        · have hf := (if_neg c_5).symm.trans hf
          refine lv_iload_n hx hb dX6_tell_23 rfl (lv_at hl 3 rfl) ?_
          refine lv_sipush (v := (9999 : Int32)) hx hb dX6_tell_24 (by decide) ?_
          refine lv_icmp_le (tgt := 32) hx hb dX6_tell_27 (by decide) (fun c_6 => ?_) (fun c_6 => ?_)
          · have hf := (if_pos c_6).symm.trans hf
            refine lv_aload_n hx hb dX6_tell_32 rfl (lv_at hl 0 rfl) ?_
            refine va_get (D := (dC, dI)) (ci := 6) (v := .ref h_e) (C := RX6) (T := TX6) (N := 12) hx hb hts (g_c inlX6) hown hK hP 4 rfl rfl 11 (by decide) (hts _ (List.mem_cons_of_mem _ wm_2_19)) (fun _ h9 => h9) rfl dX6_tell_33 ?_
            refine lv_iload_n hx hb dX6_tell_36 rfl (lv_at hl 1 rfl) ?_
            refine lv_iload_n hx hb dX6_tell_37 rfl (lv_at hl 2 rfl) ?_
            refine lv_iload_n hx hb dX6_tell_38 rfl (lv_at hl 3 rfl) ?_
            obtain ⟨o_7, ho_7, hf⟩ := bd_some hf
            obtain ⟨o_7_0, o_7_1, o_7_2, o_7_3, o_7_4⟩ := o_7
            have hf := un5_some hf
            refine ux_Vi (n := 3) (As := [.int q1, .int q2, .int q3]) (rest := []) (wc := [(h_e, .inr (2, oX2 m_e v_e_told v_e_fitting v_e_firstPair h_g h_ep h_ec h_ed v_e_pairLevels v_e_begins)), (m_e 1, .inl (cyI, 20, .inl v_e_toldDay)), (m_e 2, .inl (cyI, 20, .inl v_e_toldCell)), (m_e 3, .inl (cyI, 20, .inl v_e_toldLevel))]) (wr := [_, _]) ⟨hx, hb, hml, hown, hts⟩ hK hP hD hS hA hE [0, 1, 2, 3] [4, 5] (sg_h [(0, 4)] 6 rfl sk_z193h_3 rfl) (sg_h [(4, 2)] 6 rfl sk_z193h_4 rfl) nd_z193h_3 nd_z193h_4 nj_z193h_1 (c_X2_add l dC dI cyI cyJ cyZ cyB cyO tO vF adK adV h_e m_e h_g m_g h_ep m_ep h_ec m_ec h_ed m_ed v_e_told v_e_fitting v_e_firstPair v_e_pairLevels v_e_begins v_e_toldDay v_e_toldCell v_e_toldLevel q1 q2 q3 _ _ ho_7) 2 0 rfl rfl wm_51_23 wm_52_0 wm_52_1 wm_2_18 wm_52_2 ⟨rfl, rfl⟩ (by decide +kernel) rfl ⟨Nat.le_of_ble_eq_true rfl, Nat.le_of_ble_eq_true rfl⟩ hl.1 rfl (Nat.le_of_ble_eq_true rfl) dX6_tell_39 ⟨Nat.le_of_ble_eq_true rfl, Nat.le_of_ble_eq_true rfl⟩ (fun H locs hP hD hS => ?_)
            have hP : va_P (dC, dI) vwCl [_, _, (h_e, .inr (2, oX2 m_e o_7_1 v_e_fitting v_e_firstPair h_g h_ep h_ec h_ed v_e_pairLevels v_e_begins)), (m_e 1, .inl (cyI, 20, .inl o_7_2)), (m_e 2, .inl (cyI, 20, .inl o_7_3)), (m_e 3, .inl (cyI, 20, .inl o_7_4))] H := hP
            have hD : va_D A [_, _, (h_e, .inr (2, oX2 m_e o_7_1 v_e_fitting v_e_firstPair h_g h_ep h_ec h_ed v_e_pairLevels v_e_begins)), (m_e 1, .inl (cyI, 20, .inl o_7_2)), (m_e 2, .inl (cyI, 20, .inl o_7_3)), (m_e 3, .inl (cyI, 20, .inl o_7_4))] := hD
            exact hret _ _ _ _ o_7_0 (o_7_1, o_7_2, o_7_3, o_7_4) dX6_tell_42 (Option.some.inj hf) hP hD hS
          · have hf := (if_neg c_6).symm.trans hf
            refine lv_iconst (v := (-1 : Int32)) hx hb dX6_tell_30 (by decide) ?_
            exact hret _ _ _ _ (-1 : Int32) (v_e_told, v_e_toldDay, v_e_toldCell, v_e_toldLevel) dX6_tell_31 (Option.some.inj hf) (hP.sub [4, 5, 0, 1, 2, 3] (ux_pick (sg_h [(4, 2), (0, 4)] 6 rfl sk_z193h_2 rfl))) (hD.sub [4, 5, 0, 1, 2, 3] nd_z193h_2 (sg_h [(4, 2), (0, 4)] 6 rfl sk_z193h_2 rfl)) hS
