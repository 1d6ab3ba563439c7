set_option maxRecDepth 100000 in
theorem nd_z193i_0 : va_nd [1, 2] = true := nd_f (by decide +kernel)
set_option maxRecDepth 100000 in
theorem nd_z193i_1 : va_nd [0] = true := nd_f (by decide +kernel)
set_option maxRecDepth 100000 in
theorem nj_z193i_0 : ∀ i ∈ ([0] : List Nat), i ∉ ([1, 2] : List Nat) := nj_f (by decide +kernel)
set_option maxRecDepth 100000 in
theorem sk_z193i_0 : sgk [(1, 2)] [1, 2] 3 = true := by decide +kernel
set_option maxRecDepth 100000 in
theorem sk_z193i_1 : sgk [(0, 1)] [0] 3 = true := by decide +kernel
def f_X6_forget (v_e_told : Int32) (v_e_pumps : (Nat → Int32)) : Option (Int32 × Int32 × (Nat → Int32)) := bd (f_X2_clear v_e_told v_e_pumps) (fun o_1 => un2 o_1 (fun o_1_0 o_1_1 => some (v_e_told, o_1_0, o_1_1)))
set_option maxRecDepth 100000 in
set_option maxHeartbeats 8000000 in
theorem c_X6_forget (l : Launch) (dC : Nat → ClassId) (dI : Nat → Nat → Nat) (cyI cyJ cyZ cyB cyO : ClassId) (tO : Nat) (vF : Value) (adK adV : Nat → Nat) (h_w : Nat) (m_w : Nat → Nat) (h_r : Nat) (m_r : Nat → Nat) (h_g : Nat) (m_g : Nat → Nat) (h_p : Nat) (m_p : Nat → Nat) (h_c : Nat) (m_c : Nat → Nat) (h_n : Nat) (m_n : Nat → Nat) (h_d : Nat) (m_d : Nat → Nat) (h_e : Nat) (m_e : Nat → Nat) (h_ep : Nat) (m_ep : Nat → Nat) (h_ec : Nat) (m_ec : Nat → Nat) (h_ed : Nat) (m_ed : Nat → Nat) (v_w_length : Int32) (v_w_faultPlace : Int32) (v_e_told : Int32) (v_e_fitting : Int32) (v_e_firstPair : Int32) (v_e_pairLevels : Value) (v_e_begins : Value) (v_e_pumps : (Nat → Int32))  (sz : Nat) (out : Int32 × Int32 × (Nat → Int32)) (hf : f_X6_forget v_e_told v_e_pumps = some out) : Met l yX6_forget (Cond.code yX6_forget cX6_forget 2 (some .int) :: wsL_law) ({ frames := 2, cells := 0, slots := 0, locals := 43 } : Room) (va_Pc [.ref h_w] (ux_pre (dC, dI) vwCl (tyG cyI cyJ cyZ cyB cyO) [(h_w, .inr (6, oX6 m_w v_w_length v_w_faultPlace h_r h_g h_p h_c h_n h_d h_e)), (h_e, .inr (2, oX2 m_e v_e_told v_e_fitting v_e_firstPair h_g h_ep h_ec h_ed v_e_pairLevels v_e_begins)), (m_e 12, .inl (cyI, 84, .inl v_e_pumps))] sz (xE tO vF adK adV))) (va_Qi (fun (r : Int32) (u : Int32 × (Nat → Int32)) => (r, u) = out) (ux_at (dC, dI) vwCl (tyG cyI cyJ cyZ cyB cyO) [(h_w, .inr (6, oX6 m_w v_w_length v_w_faultPlace h_r h_g h_p h_c h_n h_d h_e)), (h_e, .inr (2, oX2 m_e v_e_told v_e_fitting v_e_firstPair h_g h_ep h_ec h_ed v_e_pairLevels v_e_begins)), (m_e 12, .inl (cyI, 84, .inl v_e_pumps))] sz (fun u : Int32 × (Nat → Int32) => [(h_w, .inr (6, oX6 m_w v_w_length v_w_faultPlace h_r h_g h_p h_c h_n h_d h_e)), (h_e, .inr (2, oX2 m_e u.1 v_e_fitting v_e_firstPair h_g h_ep h_ec h_ed v_e_pairLevels v_e_begins)), (m_e 12, .inl (cyI, 84, .inl u.2))])) (va_A [(h_w, .inr (6, oX6 m_w v_w_length v_w_faultPlace h_r h_g h_p h_c h_n h_d h_e)), (h_e, .inr (2, oX2 m_e v_e_told v_e_fitting v_e_firstPair h_g h_ep h_ec h_ed v_e_pairLevels v_e_begins)), (m_e 12, .inl (cyI, 84, .inl v_e_pumps))] sz)) 0 0 (va_A [(h_w, .inr (6, oX6 m_w v_w_length v_w_faultPlace h_r h_g h_p h_c h_n h_d h_e)), (h_e, .inr (2, oX2 m_e v_e_told v_e_fitting v_e_firstPair h_g h_ep h_ec h_ed v_e_pairLevels v_e_begins)), (m_e 12, .inl (cyI, 84, .inl v_e_pumps))] sz) := by
  refine ux_meti (by decide +kernel) (Nat.le_of_ble_eq_true rfl) ?_
  intro p e s m below meth c A Q ls hx hb hml hts hown hA hP hK hD hE hl hret
  have hown : s.vm.findClass RX6 = some m.cls := hown
  have hS : va_S A s.heap s.heap [] := va_S.rf
  have hl : lv_has ls 2 [(0, .ref h_w)] := hl
  unfold f_X6_forget at hf
  refine lv_aload_n hx hb dX6_forget_0 rfl (lv_at hl 0 rfl) ?_
  refine va_get (D := (dC, dI)) (ci := 6) (v := .ref h_e) (C := RX6) (T := TX6) (N := 12) hx hb hts (g_c inlX6) hown hK hP 0 rfl rfl 11 (by decide) (hts _ (List.mem_cons_of_mem _ wm_2_19)) (fun _ h9 => h9) rfl dX6_forget_1 ?_
  refine va_get (D := (dC, dI)) (ci := 2) (v := .int v_e_told) (C := RX2) (T := TX2) (N := 13) hx hb hts (g_c inlX2) hown hK hP 1 rfl rfl 0 (by decide) (hts _ (List.mem_cons_of_mem _ wm_52_11)) (fun _ h9 => h9) rfl dX6_forget_4 ?_
  refine lv_istore_n (lv' := [(1, .int v_e_told), (0, .ref h_w)]) hx hb dX6_forget_7 rfl hl (by decide) rfl (fun ls hl => ?_)
  refine lv_aload_n hx hb dX6_forget_8 rfl (lv_at hl 1 rfl) ?_
  refine va_get (D := (dC, dI)) (ci := 6) (v := .ref h_e) (C := RX6) (T := TX6) (N := 12) hx hb hts (g_c inlX6) hown hK hP 0 rfl rfl 11 (by decide) (hts _ (List.mem_cons_of_mem _ wm_2_19)) (fun _ h9 => h9) rfl dX6_forget_9 ?_
  obtain ⟨o_1, ho_1, hf⟩ := bd_some hf
  obtain ⟨o_1_0, o_1_1⟩ := o_1
  have hf := un2_some hf
  refine ux_Vv (n := 0) (As := []) (rest := []) (wc := [(h_e, .inr (2, oX2 m_e v_e_told v_e_fitting v_e_firstPair h_g h_ep h_ec h_ed v_e_pairLevels v_e_begins)), (m_e 12, .inl (cyI, 84, .inl v_e_pumps))]) (wr := [_]) ⟨hx, hb, hml, hown, hts⟩ hK hP hD hS hA hE [1, 2] [0] (sg_h [(1, 2)] 3 rfl sk_z193i_0 rfl) (sg_h [(0, 1)] 3 rfl sk_z193i_1 rfl) nd_z193i_0 nd_z193i_1 nj_z193i_0 (c_X2_clear l dC dI cyI cyJ cyZ cyB cyO tO vF adK adV h_e m_e h_g m_g h_ep m_ep h_ec m_ec h_ed m_ed v_e_told v_e_fitting v_e_firstPair v_e_pairLevels v_e_begins v_e_pumps _ _ ho_1) 2 0 rfl rfl wm_7_19 wm_7_20 wm_7_21 wm_2_18 wm_7_22 ⟨rfl, rfl⟩ (by decide +kernel) rfl ⟨Nat.le_of_ble_eq_true rfl, Nat.le_of_ble_eq_true rfl⟩ hl.1 rfl (Nat.le_of_ble_eq_true rfl) dX6_forget_12 ⟨Nat.le_of_ble_eq_true rfl, Nat.le_of_ble_eq_true rfl⟩ (fun H locs hP hD hS => ?_)
  have hP : va_P (dC, dI) vwCl [_, (h_e, .inr (2, oX2 m_e o_1_0 v_e_fitting v_e_firstPair h_g h_ep h_ec h_ed v_e_pairLevels v_e_begins)), (m_e 12, .inl (cyI, 84, .inl o_1_1))] H := hP
  have hD : va_D A [_, (h_e, .inr (2, oX2 m_e o_1_0 v_e_fitting v_e_firstPair h_g h_ep h_ec h_ed v_e_pairLevels v_e_begins)), (m_e 12, .inl (cyI, 84, .inl o_1_1))] := hD
  refine lv_iload_n hx hb dX6_forget_15 rfl (lv_at hl 0 rfl) ?_
  exact hret _ _ _ _ v_e_told (o_1_0, o_1_1) dX6_forget_16 (Option.some.inj hf) hP hD hS
