def f_X6_ordersWithAhead (v_g_villages : Int32) (q1 : Int32) : Option (Int32) := if q1 < (0 : Int32) then (some ((0 : Int32))) else (if (7 : Int32) ≤ q1 then (some ((0 : Int32))) else (if ((v_g_villages - (1 : Int32)) - q1) < (0 : Int32) then (some ((0 : Int32))) else (if ((v_g_villages - (1 : Int32)) - q1) < (7 : Int32) then (ck (inb q1 7) (ck (inb ((v_g_villages - (1 : Int32)) - q1) 7) (some (((xOI q1.toNatClampNeg) * (xOI ((v_g_villages - (1 : Int32)) - q1).toNatClampNeg)))))) else (some ((0 : Int32))))))
set_option maxRecDepth 100000 in
set_option maxHeartbeats 8000000 in
theorem c_X6_ordersWithAhead (l : Launch) (dC : Nat → ClassId) (dI : Nat → Nat → Nat) (cyI cyJ cyZ cyB cyO : ClassId) (tO : Nat) (vF : Value) (adK adV : Nat → Nat) (h_w : Nat) (m_w : Nat → Nat) (h_r : Nat) (m_r : Nat → Nat) (h_g : Nat) (m_g : Nat → Nat) (h_p : Nat) (m_p : Nat → Nat) (h_c : Nat) (m_c : Nat → Nat) (h_n : Nat) (m_n : Nat → Nat) (h_d : Nat) (m_d : Nat → Nat) (h_e : Nat) (m_e : Nat → Nat) (v_w_length : Int32) (v_w_faultPlace : Int32) (v_g_cells : Int32) (v_g_passes : Int32) (v_g_rivers : Int32) (v_g_villages : Int32) (v_g_rains : Int32) (q1 : Int32) (sz : Nat) (out : Int32) (hf : f_X6_ordersWithAhead v_g_villages q1 = some out) : Met l yX6_ordersWithAhead (Cond.code yX6_ordersWithAhead cX6_ordersWithAhead 3 (some .int) :: wsL_law) ({ frames := 0, cells := 0, slots := 0, locals := 0 } : Room) (va_Pc [.ref h_w, .int q1] (ux_pre (dC, dI) vwCl (tyG cyI cyJ cyZ cyB cyO) [(h_w, .inr (6, oX6 m_w v_w_length v_w_faultPlace h_r h_g h_p h_c h_n h_d h_e)), (h_g, .inr (3, oX3 m_g v_g_cells v_g_passes v_g_rivers v_g_villages v_g_rains))] sz (xE tO vF adK adV))) (va_Qi (fun (r : Int32) (_ : Unit) => r = out) (ux_at (dC, dI) vwCl (tyG cyI cyJ cyZ cyB cyO) [(h_w, .inr (6, oX6 m_w v_w_length v_w_faultPlace h_r h_g h_p h_c h_n h_d h_e)), (h_g, .inr (3, oX3 m_g v_g_cells v_g_passes v_g_rivers v_g_villages v_g_rains))] sz (fun u : Unit => [(h_w, .inr (6, oX6 m_w v_w_length v_w_faultPlace h_r h_g h_p h_c h_n h_d h_e)), (h_g, .inr (3, oX3 m_g v_g_cells v_g_passes v_g_rivers v_g_villages v_g_rains))])) (va_A [(h_w, .inr (6, oX6 m_w v_w_length v_w_faultPlace h_r h_g h_p h_c h_n h_d h_e)), (h_g, .inr (3, oX3 m_g v_g_cells v_g_passes v_g_rivers v_g_villages v_g_rains))] sz)) 0 0 (va_A [(h_w, .inr (6, oX6 m_w v_w_length v_w_faultPlace h_r h_g h_p h_c h_n h_d h_e)), (h_g, .inr (3, oX3 m_g v_g_cells v_g_passes v_g_rivers v_g_villages v_g_rains))] sz) := by
  refine ux_meti0 (by decide +kernel) (Nat.le_of_ble_eq_true rfl) ?_
  intro p e s m below meth c A Q ls hx hb hml hts hown hA hP hK hD hE hl hret
  have hown : s.vm.findClass RX6 = some m.cls := hown
  have hS : va_S A s.heap s.heap [] := va_S.rf
  have hl : lv_has ls 3 [(0, .ref h_w), (1, .int q1)] := hl
  unfold f_X6_ordersWithAhead at hf
  refine lv_aload_n hx hb dX6_ordersWithAhead_0 rfl (lv_at hl 0 rfl) ?_
  refine va_get (D := (dC, dI)) (ci := 6) (v := .ref h_g) (C := RX6) (T := TX6) (N := 12) hx hb hts (g_c inlX6) hown hK hP 0 rfl rfl 4 (by decide) (hts _ (List.mem_cons_of_mem _ wm_1_23)) (fun _ h9 => h9) rfl dX6_ordersWithAhead_1 ?_
  refine va_get (D := (dC, dI)) (ci := 3) (v := .int v_g_villages) (C := RX3) (T := TX3) (N := 20) hx hb hts (g_c inlX3) hown hK hP 1 rfl rfl 13 (by decide) (hts _ (List.mem_cons_of_mem _ wm_32_5)) (fun _ h9 => h9) rfl dX6_ordersWithAhead_4 ?_
  refine lv_iconst (v := (1 : Int32)) hx hb dX6_ordersWithAhead_7 (by decide) ?_
  refine lv_isub hx hb dX6_ordersWithAhead_8 ?_
  refine lv_iload_n hx hb dX6_ordersWithAhead_9 rfl (lv_at hl 1 rfl) ?_
  refine lv_isub hx hb dX6_ordersWithAhead_10 ?_
  refine lv_istore_n (lv' := [(2, .int ((v_g_villages - (1 : Int32)) - q1)), (0, .ref h_w), (1, .int q1)]) hx hb dX6_ordersWithAhead_11 rfl hl (by decide) rfl (fun ls hl => ?_)
  refine lv_iload_n hx hb dX6_ordersWithAhead_12 rfl (lv_at hl 2 rfl) ?_
  refine lv_if_lt (tgt := 36) hx hb dX6_ordersWithAhead_13 (by decide) (fun c_1 => ?_) (fun c_1 => ?_)
  · have hf := (if_pos c_1).symm.trans hf
    refine lv_iconst (v := (0 : Int32)) hx hb dX6_ordersWithAhead_36 (by decide) ?_
    exact hret _ _ _ _ (0 : Int32) dX6_ordersWithAhead_37 (Option.some.inj hf) hP hD hS
  · have hf := (if_neg c_1).symm.trans hf
    refine lv_iload_n hx hb dX6_ordersWithAhead_16 rfl (lv_at hl 2 rfl) ?_
    refine va_gets hx hb hE.2.1.1 hS hown (hts _ (List.mem_cons_of_mem _ wm_51_11)) (fun _ h9 => h9) dX6_ordersWithAhead_17 ?_
    refine va_tlen hx hb hE.2.1.2 hS (v := (7 : Int32)) rfl dX6_ordersWithAhead_20 ?_
    refine lv_icmp_ge (tgt := 36) hx hb dX6_ordersWithAhead_21 (by decide) (fun c_2 => ?_) (fun c_2 => ?_)
    · have hf := (if_pos c_2).symm.trans hf
      refine lv_iconst (v := (0 : Int32)) hx hb dX6_ordersWithAhead_36 (by decide) ?_
      exact hret _ _ _ _ (0 : Int32) dX6_ordersWithAhead_37 (Option.some.inj hf) hP hD hS
    · have hf := (if_neg c_2).symm.trans hf
      refine lv_iload_n hx hb dX6_ordersWithAhead_24 rfl (lv_at hl 0 rfl) ?_
      refine lv_if_lt (tgt := 36) hx hb dX6_ordersWithAhead_25 (by decide) (fun c_3 => ?_) (fun c_3 => ?_)
      · have hf := (if_pos c_3).symm.trans hf
        refine lv_iconst (v := (0 : Int32)) hx hb dX6_ordersWithAhead_36 (by decide) ?_
        exact hret _ _ _ _ (0 : Int32) dX6_ordersWithAhead_37 (Option.some.inj hf) hP hD hS
      · have hf := (if_neg c_3).symm.trans hf
        refine lv_iload_n hx hb dX6_ordersWithAhead_28 rfl (lv_at hl 0 rfl) ?_
        refine va_gets hx hb hE.2.1.1 hS hown (hts _ (List.mem_cons_of_mem _ wm_51_11)) (fun _ h9 => h9) dX6_ordersWithAhead_29 ?_
        refine va_tlen hx hb hE.2.1.2 hS (v := (7 : Int32)) rfl dX6_ordersWithAhead_32 ?_
        refine lv_icmp_lt (tgt := 38) hx hb dX6_ordersWithAhead_33 (by decide) (fun c_4 => ?_) (fun c_4 => ?_)
        · have hf := (if_pos c_4).symm.trans hf
          refine va_gets hx hb hE.2.1.1 hS hown (hts _ (List.mem_cons_of_mem _ wm_51_11)) (fun _ h9 => h9) dX6_ordersWithAhead_38 ?_
          refine lv_iload_n hx hb dX6_ordersWithAhead_41 rfl (lv_at hl 2 rfl) ?_
          obtain ⟨h_5, hf⟩ := ck_some hf
          refine va_ti hx hb hE.2.1.2 hS (inb_in h_5) (v := .int (xOI q1.toNatClampNeg)) rfl dX6_ordersWithAhead_42 ?_
          refine va_gets hx hb hE.2.1.1 hS hown (hts _ (List.mem_cons_of_mem _ wm_51_11)) (fun _ h9 => h9) dX6_ordersWithAhead_43 ?_
          refine lv_iload_n hx hb dX6_ordersWithAhead_46 rfl (lv_at hl 0 rfl) ?_
          obtain ⟨h_6, hf⟩ := ck_some hf
          refine va_ti hx hb hE.2.1.2 hS (inb_in h_6) (v := .int (xOI ((v_g_villages - (1 : Int32)) - q1).toNatClampNeg)) rfl dX6_ordersWithAhead_47 ?_
          refine lv_imul hx hb dX6_ordersWithAhead_48 ?_
          exact hret _ _ _ _ ((xOI q1.toNatClampNeg) * (xOI ((v_g_villages - (1 : Int32)) - q1).toNatClampNeg)) dX6_ordersWithAhead_49 (Option.some.inj hf) hP hD hS
        · have hf := (if_neg c_4).symm.trans hf
          refine lv_iconst (v := (0 : Int32)) hx hb dX6_ordersWithAhead_36 (by decide) ?_
          exact hret _ _ _ _ (0 : Int32) dX6_ordersWithAhead_37 (Option.some.inj hf) hP hD hS
