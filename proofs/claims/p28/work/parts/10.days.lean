set_option maxRecDepth 100000 in
theorem nd_z10_0 : va_nd [2] = true := nd_f (by decide +kernel)
set_option maxRecDepth 100000 in
theorem nd_z10_1 : va_nd [0, 1, 3, 4, 5, 6, 7, 8, 9] = true := nd_f (by decide +kernel)
set_option maxRecDepth 100000 in
theorem nd_z10_2 : va_nd [0, 1, 4, 5, 6, 7, 8, 9, 2, 3] = true := nd_f (by decide +kernel)
set_option maxRecDepth 100000 in
theorem nj_z10_0 : ∀ i ∈ ([0, 1, 3, 4, 5, 6, 7, 8, 9] : List Nat), i ∉ ([2] : List Nat) := nj_f (by decide +kernel)
set_option maxRecDepth 100000 in
theorem sk_z10_0 : sgk [(2, 1)] [2] 10 = true := by decide +kernel
set_option maxRecDepth 100000 in
theorem sk_z10_1 : sgk [(0, 2), (3, 7)] [0, 1, 3, 4, 5, 6, 7, 8, 9] 10 = true := by decide +kernel
set_option maxRecDepth 100000 in
theorem sk_z10_2 : sgk [(0, 2), (4, 6), (2, 2)] [0, 1, 4, 5, 6, 7, 8, 9, 2, 3] 10 = true := by decide +kernel
def f_X1_draw (v_d_water : (Nat → Int32)) (v_d_salt : (Nat → Int64)) (q1 : Int32) (q2 : Int32) : Option ((Nat → Int32) × (Nat → Int64)) := if q2 < (1 : Int32) then (some (v_d_water, v_d_salt)) else (ck (inb q1 12) (if (1 : Int32) ≤ (v_d_water q1.toNatClampNeg) then (ck (inb q1 12) (ck (inb q1 12) (ck (inb q1 12) (ck (nzl ((v_d_water q1.toNatClampNeg).toInt64)) (ck (inb q1 12) (nm (vp_updL v_d_salt q1.toNatClampNeg ((v_d_salt q1.toNatClampNeg) - (((v_d_salt q1.toNatClampNeg) * q2.toInt64) / ((v_d_water q1.toNatClampNeg).toInt64)))) (fun a_9 => ck (inb q1 12) (ck (inb q1 12) (nm (upd v_d_water q1.toNatClampNeg ((v_d_water q1.toNatClampNeg) - q2)) (fun a_12 => some (a_12, a_9))))))))))) else (some (v_d_water, v_d_salt))))
set_option maxRecDepth 100000 in
set_option maxHeartbeats 8000000 in
theorem c_X1_draw (l : Launch) (dC : Nat → ClassId) (dI : Nat → Nat → Nat) (cyI cyJ cyZ cyB cyO : ClassId) (tO : Nat) (vF : Value) (adK adV : Nat → Nat) (h_d : Nat) (m_d : Nat → Nat) (v_d_day : Int32) (v_d_water : (Nat → Int32)) (v_d_salt : (Nat → Int64)) (q1 : Int32) (q2 : Int32) (sz : Nat) (out : (Nat → Int32) × (Nat → Int64)) (hf : f_X1_draw v_d_water v_d_salt q1 q2 = some out) : Met l yX1_draw (Cond.code yX1_draw cX1_draw 3 none :: wsL_law) ({ frames := 0, cells := 0, slots := 0, locals := 0 } : Room) (va_Pc [.ref h_d, .int q1, .int q2] (ux_pre (dC, dI) vwCl (tyG cyI cyJ cyZ cyB cyO) [(h_d, .inr (1, oX1 m_d v_d_day)), (m_d 1, .inl (cyI, 12, .inl v_d_water)), (m_d 2, .inl (cyJ, 12, .inr (.inl v_d_salt)))] sz (xE tO vF adK adV))) (va_Qv (fun u : (Nat → Int32) × (Nat → Int64) => u = out) (ux_at (dC, dI) vwCl (tyG cyI cyJ cyZ cyB cyO) [(h_d, .inr (1, oX1 m_d v_d_day)), (m_d 1, .inl (cyI, 12, .inl v_d_water)), (m_d 2, .inl (cyJ, 12, .inr (.inl v_d_salt)))] sz (fun u : (Nat → Int32) × (Nat → Int64) => [(h_d, .inr (1, oX1 m_d v_d_day)), (m_d 1, .inl (cyI, 12, .inl u.1)), (m_d 2, .inl (cyJ, 12, .inr (.inl u.2)))])) (va_A [(h_d, .inr (1, oX1 m_d v_d_day)), (m_d 1, .inl (cyI, 12, .inl v_d_water)), (m_d 2, .inl (cyJ, 12, .inr (.inl v_d_salt)))] sz)) 0 0 (va_A [(h_d, .inr (1, oX1 m_d v_d_day)), (m_d 1, .inl (cyI, 12, .inl v_d_water)), (m_d 2, .inl (cyJ, 12, .inr (.inl v_d_salt)))] sz) := by
  refine ux_metv (by decide +kernel) (Nat.le_of_ble_eq_true rfl) ?_
  intro p e s m below meth c A Q ls hx hb hml hts hown hA hP hK hD hE hl hret
  have hown : s.vm.findClass RX1 = some m.cls := hown
  have hS : va_S A s.heap s.heap [] := va_S.rf
  have hl : lv_has ls 3 [(0, .ref h_d), (1, .int q1), (2, .int q2)] := hl
  unfold f_X1_draw at hf
  refine lv_iload_n hx hb dX1_draw_0 rfl (lv_at hl 2 rfl) ?_
  refine lv_iconst (v := (1 : Int32)) hx hb dX1_draw_1 (by decide) ?_
  refine lv_icmp_lt (tgt := 15) hx hb dX1_draw_2 (by decide) (fun c_1 => ?_) (fun c_1 => ?_)
  · have hf := (if_pos c_1).symm.trans hf
    exact hret _ _ _ _ (v_d_water, v_d_salt) dX1_draw_15 (Option.some.inj hf) hP hD hS
  · have hf := (if_neg c_1).symm.trans hf
    refine lv_aload_n hx hb dX1_draw_5 rfl (lv_at hl 0 rfl) ?_
    refine va_get (D := (dC, dI)) (ci := 1) (v := .ref (m_d 1)) (C := RX1) (T := TX1) (N := 8) hx hb hts (g_c inlX1) hown hK hP 0 rfl rfl 1 (by decide) (hts _ (List.mem_cons_of_mem _ wm_5_19)) (fun _ h9 => h9) rfl dX1_draw_6 ?_
    refine lv_iload_n hx hb dX1_draw_9 rfl (lv_at hl 1 rfl) ?_
    obtain ⟨h_2, hf⟩ := ck_some hf
    refine va_iald hx hb hK hP 1 0 rfl rfl (inb_in h_2) dX1_draw_10 ?_
    refine lv_iconst (v := (1 : Int32)) hx hb dX1_draw_11 (by decide) ?_
    refine lv_icmp_ge (tgt := 16) hx hb dX1_draw_12 (by decide) (fun c_3 => ?_) (fun c_3 => ?_)
    · have hf := (if_pos c_3).symm.trans hf
      refine lv_aload_n hx hb dX1_draw_16 rfl (lv_at hl 0 rfl) ?_
      refine va_get (D := (dC, dI)) (ci := 1) (v := .ref (m_d 2)) (C := RX1) (T := TX1) (N := 8) hx hb hts (g_c inlX1) hown hK hP 0 rfl rfl 2 (by decide) (hts _ (List.mem_cons_of_mem _ wm_5_20)) (fun _ h9 => h9) rfl dX1_draw_17 ?_
      refine lv_iload_n hx hb dX1_draw_20 rfl (lv_at hl 1 rfl) ?_
      refine lv_dup2_11 hx hb dX1_draw_21 rfl rfl ?_
      obtain ⟨h_4, hf⟩ := ck_some hf
      refine va_lald hx hb hK hP 2 1 rfl rfl (inb_in h_4) dX1_draw_22 ?_
      refine lv_aload_n hx hb dX1_draw_23 rfl (lv_at hl 0 rfl) ?_
      refine va_get (D := (dC, dI)) (ci := 1) (v := .ref (m_d 2)) (C := RX1) (T := TX1) (N := 8) hx hb hts (g_c inlX1) hown hK hP 0 rfl rfl 2 (by decide) (hts _ (List.mem_cons_of_mem _ wm_5_20)) (fun _ h9 => h9) rfl dX1_draw_24 ?_
      refine lv_iload_n hx hb dX1_draw_27 rfl (lv_at hl 1 rfl) ?_
      obtain ⟨h_5, hf⟩ := ck_some hf
      refine va_lald hx hb hK hP 2 1 rfl rfl (inb_in h_5) dX1_draw_28 ?_
      refine lv_iload_n hx hb dX1_draw_29 rfl (lv_at hl 2 rfl) ?_
      refine lv_i2l hx hb dX1_draw_30 rfl ?_
      refine lv_lmul hx hb dX1_draw_31 ?_
      refine lv_aload_n hx hb dX1_draw_32 rfl (lv_at hl 0 rfl) ?_
      refine va_get (D := (dC, dI)) (ci := 1) (v := .ref (m_d 1)) (C := RX1) (T := TX1) (N := 8) hx hb hts (g_c inlX1) hown hK hP 0 rfl rfl 1 (by decide) (hts _ (List.mem_cons_of_mem _ wm_5_19)) (fun _ h9 => h9) rfl dX1_draw_33 ?_
      refine lv_iload_n hx hb dX1_draw_36 rfl (lv_at hl 1 rfl) ?_
      obtain ⟨h_6, hf⟩ := ck_some hf
      refine va_iald hx hb hK hP 1 0 rfl rfl (inb_in h_6) dX1_draw_37 ?_
      refine lv_i2l hx hb dX1_draw_38 rfl ?_
      obtain ⟨h_7, hf⟩ := ck_some hf
      refine lv_ldiv hx hb dX1_draw_39 (nzl_ne h_7) ?_
      refine lv_lsub hx hb dX1_draw_40 ?_
      obtain ⟨h_8, hf⟩ := ck_some hf
      obtain ⟨a_9, ea_9, hf⟩ := nm_some hf
      refine va_last hx hb hK hP hD hS 2 1 rfl rfl (inb_in h_8) dX1_draw_41 (fun H locs hP hD hS => ?_)
      have hP : va_P (dC, dI) vwCl [(h_d, .inr (1, oX1 m_d v_d_day)), (m_d 1, .inl (cyI, 12, .inl v_d_water)), (m_d 2, .inl (cyJ, 12, .inr (.inl a_9)))] H := by rw [ea_9]; exact hP
      have hD : va_D A [(h_d, .inr (1, oX1 m_d v_d_day)), (m_d 1, .inl (cyI, 12, .inl v_d_water)), (m_d 2, .inl (cyJ, 12, .inr (.inl a_9)))] := by rw [ea_9]; exact hD
      refine lv_aload_n hx hb dX1_draw_42 rfl (lv_at hl 0 rfl) ?_
      refine va_get (D := (dC, dI)) (ci := 1) (v := .ref (m_d 1)) (C := RX1) (T := TX1) (N := 8) hx hb hts (g_c inlX1) hown hK hP 0 rfl rfl 1 (by decide) (hts _ (List.mem_cons_of_mem _ wm_5_19)) (fun _ h9 => h9) rfl dX1_draw_43 ?_
      refine lv_iload_n hx hb dX1_draw_46 rfl (lv_at hl 1 rfl) ?_
      refine lv_dup2_11 hx hb dX1_draw_47 rfl rfl ?_
      obtain ⟨h_10, hf⟩ := ck_some hf
      refine va_iald hx hb hK hP 1 0 rfl rfl (inb_in h_10) dX1_draw_48 ?_
      refine lv_iload_n hx hb dX1_draw_49 rfl (lv_at hl 2 rfl) ?_
      refine lv_isub hx hb dX1_draw_50 ?_
      obtain ⟨h_11, hf⟩ := ck_some hf
      obtain ⟨a_12, ea_12, hf⟩ := nm_some hf
      refine va_iast hx hb hK hP hD hS 1 0 rfl rfl (inb_in h_11) dX1_draw_51 (fun H locs hP hD hS => ?_)
      have hP : va_P (dC, dI) vwCl [(h_d, .inr (1, oX1 m_d v_d_day)), (m_d 1, .inl (cyI, 12, .inl a_12)), (m_d 2, .inl (cyJ, 12, .inr (.inl a_9)))] H := by rw [ea_12]; exact hP
      have hD : va_D A [(h_d, .inr (1, oX1 m_d v_d_day)), (m_d 1, .inl (cyI, 12, .inl a_12)), (m_d 2, .inl (cyJ, 12, .inr (.inl a_9)))] := by rw [ea_12]; exact hD
      exact hret _ _ _ _ (a_12, a_9) dX1_draw_52 (Option.some.inj hf) hP hD hS
    · have hf := (if_neg c_3).symm.trans hf
      exact hret _ _ _ _ (v_d_water, v_d_salt) dX1_draw_15 (Option.some.inj hf) hP hD hS
def f_X1_countDry_b19   (v_d_dryDays : (Nat → Int32)) (v_d_firstDry : (Nat → Int32)) (x1 : Int32) : Option ((Nat → Int32) × (Nat → Int32)) := ck (inb x1 6) (ck (inb x1 6) (nm (upd v_d_dryDays x1.toNatClampNeg ((v_d_dryDays x1.toNatClampNeg) + (1 : Int32))) (fun a_3 => some (a_3, v_d_firstDry))))
def f_X1_countDry (v_d_day : Int32) (v_d_dryDays : (Nat → Int32)) (v_d_firstDry : (Nat → Int32)) (q1 : Int32) : Option ((Nat → Int32) × (Nat → Int32)) := ck (inb q1 6) (if (v_d_dryDays q1.toNatClampNeg) = (0 : Int32) then (ck (inb q1 6) (nm (upd v_d_firstDry q1.toNatClampNeg v_d_day) (fun a_4 => f_X1_countDry_b19 v_d_dryDays a_4 q1))) else (f_X1_countDry_b19 v_d_dryDays v_d_firstDry q1))
set_option maxRecDepth 100000 in
set_option maxHeartbeats 8000000 in
theorem c_X1_countDry (l : Launch) (dC : Nat → ClassId) (dI : Nat → Nat → Nat) (cyI cyJ cyZ cyB cyO : ClassId) (tO : Nat) (vF : Value) (adK adV : Nat → Nat) (h_d : Nat) (m_d : Nat → Nat) (v_d_day : Int32) (v_d_dryDays : (Nat → Int32)) (v_d_firstDry : (Nat → Int32)) (q1 : Int32) (sz : Nat) (out : (Nat → Int32) × (Nat → Int32)) (hf : f_X1_countDry v_d_day v_d_dryDays v_d_firstDry q1 = some out) : Met l yX1_countDry (Cond.code yX1_countDry cX1_countDry 2 none :: wsL_law) ({ frames := 0, cells := 0, slots := 0, locals := 0 } : Room) (va_Pc [.ref h_d, .int q1] (ux_pre (dC, dI) vwCl (tyG cyI cyJ cyZ cyB cyO) [(h_d, .inr (1, oX1 m_d v_d_day)), (m_d 5, .inl (cyI, 6, .inl v_d_dryDays)), (m_d 6, .inl (cyI, 6, .inl v_d_firstDry))] sz (xE tO vF adK adV))) (va_Qv (fun u : (Nat → Int32) × (Nat → Int32) => u = out) (ux_at (dC, dI) vwCl (tyG cyI cyJ cyZ cyB cyO) [(h_d, .inr (1, oX1 m_d v_d_day)), (m_d 5, .inl (cyI, 6, .inl v_d_dryDays)), (m_d 6, .inl (cyI, 6, .inl v_d_firstDry))] sz (fun u : (Nat → Int32) × (Nat → Int32) => [(h_d, .inr (1, oX1 m_d v_d_day)), (m_d 5, .inl (cyI, 6, .inl u.1)), (m_d 6, .inl (cyI, 6, .inl u.2))])) (va_A [(h_d, .inr (1, oX1 m_d v_d_day)), (m_d 5, .inl (cyI, 6, .inl v_d_dryDays)), (m_d 6, .inl (cyI, 6, .inl v_d_firstDry))] sz)) 0 0 (va_A [(h_d, .inr (1, oX1 m_d v_d_day)), (m_d 5, .inl (cyI, 6, .inl v_d_dryDays)), (m_d 6, .inl (cyI, 6, .inl v_d_firstDry))] sz) := by
  refine ux_metv (by decide +kernel) (Nat.le_of_ble_eq_true rfl) ?_
  intro p e s m below meth c A Q ls hx hb hml hts hown hA hP hK hD hE hl hret
  have hown : s.vm.findClass RX1 = some m.cls := hown
  have hS : va_S A s.heap s.heap [] := va_S.rf
  have hl : lv_has ls 2 [(0, .ref h_d), (1, .int q1)] := hl
  have hb_19 : ∀ (v_d_dryDays : (Nat → Int32)) (v_d_firstDry : (Nat → Int32)) (x1 : Int32), f_X1_countDry_b19 v_d_dryDays v_d_firstDry x1 = some out → ∀ (H : Heap) (locs : List Loc) (ls : Array Slot), va_P (dC, dI) vwCl [(h_d, .inr (1, oX1 m_d v_d_day)), (m_d 5, .inl (cyI, 6, .inl v_d_dryDays)), (m_d 6, .inl (cyI, 6, .inl v_d_firstDry))] H → va_D A [(h_d, .inr (1, oX1 m_d v_d_day)), (m_d 5, .inl (cyI, 6, .inl v_d_dryDays)), (m_d 6, .inl (cyI, 6, .inl v_d_firstDry))] → va_S A s.heap H locs → lv_has ls 2 [(0, .ref h_d), (1, .int x1)] → W p l e ({ frames := 0, cells := 0, slots := 0, locals := 0 } : Room) s m ([.ref h_d, .int q1] : List Value).toArray below meth c H locs 0 0 Q (F0 m 19 ls []) := by
    intro  v_d_dryDays v_d_firstDry x1 hf H locs ls hP hD hS hl
    unfold f_X1_countDry_b19 at hf
    refine lv_aload_n hx hb dX1_countDry_19 rfl (lv_at hl 0 rfl) ?_
    refine va_get (D := (dC, dI)) (ci := 1) (v := .ref (m_d 5)) (C := RX1) (T := TX1) (N := 8) hx hb hts (g_c inlX1) hown hK hP 0 rfl rfl 5 (by decide) (hts _ (List.mem_cons_of_mem _ wm_5_23)) (fun _ h9 => h9) rfl dX1_countDry_20 ?_
    refine lv_iload_n hx hb dX1_countDry_23 rfl (lv_at hl 1 rfl) ?_
    refine lv_dup2_11 hx hb dX1_countDry_24 rfl rfl ?_
    obtain ⟨h_1, hf⟩ := ck_some hf
    refine va_iald hx hb hK hP 1 0 rfl rfl (inb_in h_1) dX1_countDry_25 ?_
    refine lv_iconst (v := (1 : Int32)) hx hb dX1_countDry_26 (by decide) ?_
    refine lv_iadd hx hb dX1_countDry_27 ?_
    obtain ⟨h_2, hf⟩ := ck_some hf
    obtain ⟨a_3, ea_3, hf⟩ := nm_some hf
    refine va_iast hx hb hK hP hD hS 1 0 rfl rfl (inb_in h_2) dX1_countDry_28 (fun H locs hP hD hS => ?_)
    have hP : va_P (dC, dI) vwCl [(h_d, .inr (1, oX1 m_d v_d_day)), (m_d 5, .inl (cyI, 6, .inl a_3)), (m_d 6, .inl (cyI, 6, .inl v_d_firstDry))] H := by rw [ea_3]; exact hP
    have hD : va_D A [(h_d, .inr (1, oX1 m_d v_d_day)), (m_d 5, .inl (cyI, 6, .inl a_3)), (m_d 6, .inl (cyI, 6, .inl v_d_firstDry))] := by rw [ea_3]; exact hD
    exact hret _ _ _ _ (a_3, v_d_firstDry) dX1_countDry_29 (Option.some.inj hf) hP hD hS
  unfold f_X1_countDry at hf
  refine lv_aload_n hx hb dX1_countDry_0 rfl (lv_at hl 0 rfl) ?_
  refine va_get (D := (dC, dI)) (ci := 1) (v := .ref (m_d 5)) (C := RX1) (T := TX1) (N := 8) hx hb hts (g_c inlX1) hown hK hP 0 rfl rfl 5 (by decide) (hts _ (List.mem_cons_of_mem _ wm_5_23)) (fun _ h9 => h9) rfl dX1_countDry_1 ?_
  refine lv_iload_n hx hb dX1_countDry_4 rfl (lv_at hl 1 rfl) ?_
  obtain ⟨h_1, hf⟩ := ck_some hf
  refine va_iald hx hb hK hP 1 0 rfl rfl (inb_in h_1) dX1_countDry_5 ?_
  refine lv_if_ne (tgt := 19) hx hb dX1_countDry_6 (by decide) (fun c_2 => ?_) (fun c_2 => ?_)
  · have hf := (if_neg c_2).symm.trans hf
    exact hb_19 _ _ _ hf _ _ _ hP hD hS (lv_sub hl [0, 1] rfl)
  · have hf := (if_pos c_2).symm.trans hf
    refine lv_aload_n hx hb dX1_countDry_9 rfl (lv_at hl 0 rfl) ?_
    refine va_get (D := (dC, dI)) (ci := 1) (v := .ref (m_d 6)) (C := RX1) (T := TX1) (N := 8) hx hb hts (g_c inlX1) hown hK hP 0 rfl rfl 6 (by decide) (hts _ (List.mem_cons_of_mem _ wm_6_0)) (fun _ h9 => h9) rfl dX1_countDry_10 ?_
    refine lv_iload_n hx hb dX1_countDry_13 rfl (lv_at hl 1 rfl) ?_
    refine lv_aload_n hx hb dX1_countDry_14 rfl (lv_at hl 0 rfl) ?_
    refine va_get (D := (dC, dI)) (ci := 1) (v := .int v_d_day) (C := RX1) (T := TX1) (N := 8) hx hb hts (g_c inlX1) hown hK hP 0 rfl rfl 0 (by decide) (hts _ (List.mem_cons_of_mem _ wm_5_18)) (fun _ h9 => h9) rfl dX1_countDry_15 ?_
    obtain ⟨h_3, hf⟩ := ck_some hf
    obtain ⟨a_4, ea_4, hf⟩ := nm_some hf
    refine va_iast hx hb hK hP hD hS 2 0 rfl rfl (inb_in h_3) dX1_countDry_18 (fun H locs hP hD hS => ?_)
    have hP : va_P (dC, dI) vwCl [(h_d, .inr (1, oX1 m_d v_d_day)), (m_d 5, .inl (cyI, 6, .inl v_d_dryDays)), (m_d 6, .inl (cyI, 6, .inl a_4))] H := by rw [ea_4]; exact hP
    have hD : va_D A [(h_d, .inr (1, oX1 m_d v_d_day)), (m_d 5, .inl (cyI, 6, .inl v_d_dryDays)), (m_d 6, .inl (cyI, 6, .inl a_4))] := by rw [ea_4]; exact hD
    exact hb_19 _ _ _ hf _ _ _ hP hD hS (lv_sub hl [0, 1] rfl)
def f_X1_allWater_b4_st (kr : Int32 → Int32 → Int32 → Option (Int32))  (v_d_water : (Nat → Int32)) (x1 : Int32) (x2 : Int32) (x3 : Int32) : Option (Int32) := if x1 ≤ x3 then (some (x2)) else (ck (inb x3 12) (kr x1 (x2 + (v_d_water x3.toNatClampNeg)) (x3 + (1 : Int32))))
def f_X1_allWater_b4  (v_d_water : (Nat → Int32)) : Nat → Int32 → Int32 → Int32 → Option (Int32)
  | 0 => fun _ _ _ => none
  | n + 1 => f_X1_allWater_b4_st (f_X1_allWater_b4 v_d_water n) v_d_water
def f_X1_allWater (v_d_water : (Nat → Int32)) (q1 : Int32) : Option (Int32) := f_X1_allWater_b4 v_d_water fuel q1 (0 : Int32) (0 : Int32)
set_option maxRecDepth 100000 in
set_option maxHeartbeats 8000000 in
theorem c_X1_allWater (l : Launch) (dC : Nat → ClassId) (dI : Nat → Nat → Nat) (cyI cyJ cyZ cyB cyO : ClassId) (tO : Nat) (vF : Value) (adK adV : Nat → Nat) (h_d : Nat) (m_d : Nat → Nat) (v_d_day : Int32) (v_d_water : (Nat → Int32)) (q1 : Int32) (sz : Nat) (out : Int32) (hf : f_X1_allWater v_d_water q1 = some out) : Met l yX1_allWater (Cond.code yX1_allWater cX1_allWater 4 (some .int) :: wsL_law) ({ frames := 0, cells := 0, slots := 0, locals := 0 } : Room) (va_Pc [.ref h_d, .int q1] (ux_pre (dC, dI) vwCl (tyG cyI cyJ cyZ cyB cyO) [(h_d, .inr (1, oX1 m_d v_d_day)), (m_d 1, .inl (cyI, 12, .inl v_d_water))] sz (xE tO vF adK adV))) (va_Qi (fun (r : Int32) (_ : Unit) => r = out) (ux_at (dC, dI) vwCl (tyG cyI cyJ cyZ cyB cyO) [(h_d, .inr (1, oX1 m_d v_d_day)), (m_d 1, .inl (cyI, 12, .inl v_d_water))] sz (fun u : Unit => [(h_d, .inr (1, oX1 m_d v_d_day)), (m_d 1, .inl (cyI, 12, .inl v_d_water))])) (va_A [(h_d, .inr (1, oX1 m_d v_d_day)), (m_d 1, .inl (cyI, 12, .inl v_d_water))] sz)) 0 0 (va_A [(h_d, .inr (1, oX1 m_d v_d_day)), (m_d 1, .inl (cyI, 12, .inl v_d_water))] sz) := by
  refine ux_meti0 (by decide +kernel) (Nat.le_of_ble_eq_true rfl) ?_
  intro p e s m below meth c A Q ls hx hb hml hts hown hA hP hK hD hE hl hret
  have hown : s.vm.findClass RX1 = some m.cls := hown
  have hS : va_S A s.heap s.heap [] := va_S.rf
  have hl : lv_has ls 4 [(0, .ref h_d), (1, .int q1)] := hl
  have hb_4 : ∀ (n : Nat) (x1 : Int32) (x2 : Int32) (x3 : Int32), f_X1_allWater_b4 v_d_water n x1 x2 x3 = some out → ∀ (H : Heap) (locs : List Loc) (ls : Array Slot), va_P (dC, dI) vwCl [(h_d, .inr (1, oX1 m_d v_d_day)), (m_d 1, .inl (cyI, 12, .inl v_d_water))] H → va_D A [(h_d, .inr (1, oX1 m_d v_d_day)), (m_d 1, .inl (cyI, 12, .inl v_d_water))] → va_S A s.heap H locs → lv_has ls 4 [(0, .ref h_d), (1, .int x1), (2, .int x2), (3, .int x3)] → W p l e ({ frames := 0, cells := 0, slots := 0, locals := 0 } : Room) s m ([.ref h_d, .int q1] : List Value).toArray below meth c H locs 0 0 Q (F0 m 4 ls []) := by
    intro  n
    induction n with
    | zero =>
      intro x1 x2 x3 hf
      exact no_some hf
    | succ n ih =>
      intro x1 x2 x3 hf H locs ls hP hD hS hl
      have hf : f_X1_allWater_b4_st (f_X1_allWater_b4 v_d_water n) v_d_water x1 x2 x3 = some out := hf
      unfold f_X1_allWater_b4_st at hf
      refine lv_iload_n hx hb dX1_allWater_4 rfl (lv_at hl 3 rfl) ?_
      refine lv_iload_n hx hb dX1_allWater_5 rfl (lv_at hl 1 rfl) ?_
      refine lv_icmp_ge (tgt := 24) hx hb dX1_allWater_6 (by decide) (fun c_1 => ?_) (fun c_1 => ?_)
      · have hf := (if_pos c_1).symm.trans hf
        refine lv_iload_n hx hb dX1_allWater_24 rfl (lv_at hl 2 rfl) ?_
        exact hret _ _ _ _ x2 dX1_allWater_25 (Option.some.inj hf) hP hD hS
      · have hf := (if_neg c_1).symm.trans hf
        refine lv_iload_n hx hb dX1_allWater_9 rfl (lv_at hl 2 rfl) ?_
        refine lv_aload_n hx hb dX1_allWater_10 rfl (lv_at hl 0 rfl) ?_
        refine va_get (D := (dC, dI)) (ci := 1) (v := .ref (m_d 1)) (C := RX1) (T := TX1) (N := 8) hx hb hts (g_c inlX1) hown hK hP 0 rfl rfl 1 (by decide) (hts _ (List.mem_cons_of_mem _ wm_5_19)) (fun _ h9 => h9) rfl dX1_allWater_11 ?_
        refine lv_iload_n hx hb dX1_allWater_14 rfl (lv_at hl 3 rfl) ?_
        obtain ⟨h_2, hf⟩ := ck_some hf
        refine va_iald hx hb hK hP 1 0 rfl rfl (inb_in h_2) dX1_allWater_15 ?_
        refine lv_iadd hx hb dX1_allWater_16 ?_
        refine lv_istore_n (lv' := [(2, .int (x2 + (v_d_water x3.toNatClampNeg))), (0, .ref h_d), (1, .int x1), (3, .int x3)]) hx hb dX1_allWater_17 rfl hl (by decide) rfl (fun ls hl => ?_)
        refine lv_iinc (v := x3 + (1 : Int32)) (lv' := [(3, .int (x3 + (1 : Int32))), (2, .int (x2 + (v_d_water x3.toNatClampNeg))), (0, .ref h_d), (1, .int x1)]) hx hb dX1_allWater_18 hl (k := 3) rfl rfl (by decide) rfl (fun ls hl => ?_)
        refine lv_goto (tgt := 4) hx hb dX1_allWater_21 (by decide) ?_
        exact ih _ _ _ hf _ _ _ hP hD hS (lv_sub hl [2, 3, 1, 0] rfl)
  unfold f_X1_allWater at hf
  refine lv_iconst (v := (0 : Int32)) hx hb dX1_allWater_0 (by decide) ?_
  refine lv_istore_n (lv' := [(2, .int (0 : Int32)), (0, .ref h_d), (1, .int q1)]) hx hb dX1_allWater_1 rfl hl (by decide) rfl (fun ls hl => ?_)
  refine lv_iconst (v := (0 : Int32)) hx hb dX1_allWater_2 (by decide) ?_
  refine lv_istore_n (lv' := [(3, .int (0 : Int32)), (2, .int (0 : Int32)), (0, .ref h_d), (1, .int q1)]) hx hb dX1_allWater_3 rfl hl (by decide) rfl (fun ls hl => ?_)
  exact hb_4 _ _ _ _ hf _ _ _ hP hD hS (lv_sub hl [2, 3, 1, 0] rfl)
def f_X1_saltyOf (v_d_water : (Nat → Int32)) (v_d_salt : (Nat → Int64)) (q1 : Int32) : Option (Int32) := ck (inb q1 12) (if (1 : Int32) ≤ (v_d_water q1.toNatClampNeg) then (ck (inb q1 12) (ck (inb q1 12) (ck (nzl ((v_d_water q1.toNatClampNeg).toInt64)) (some ((if (((v_d_salt q1.toNatClampNeg) * (100 : Int64)) / ((v_d_water q1.toNatClampNeg).toInt64)) < (1000000000 : Int64) then (((v_d_salt q1.toNatClampNeg) * (100 : Int64)) / ((v_d_water q1.toNatClampNeg).toInt64)) else (1000000000 : Int64)).toInt32))))) else (some ((0 : Int32))))
set_option maxRecDepth 100000 in
set_option maxHeartbeats 8000000 in
theorem c_X1_saltyOf (l : Launch) (dC : Nat → ClassId) (dI : Nat → Nat → Nat) (cyI cyJ cyZ cyB cyO : ClassId) (tO : Nat) (vF : Value) (adK adV : Nat → Nat) (h_d : Nat) (m_d : Nat → Nat) (v_d_day : Int32) (v_d_water : (Nat → Int32)) (v_d_salt : (Nat → Int64)) (q1 : Int32) (sz : Nat) (out : Int32) (hf : f_X1_saltyOf v_d_water v_d_salt q1 = some out) : Met l yX1_saltyOf (Cond.code yX1_saltyOf cX1_saltyOf 2 (some .int) :: wsL_law) ({ frames := 1, cells := 0, slots := 0, locals := 26 } : Room) (va_Pc [.ref h_d, .int q1] (ux_pre (dC, dI) vwCl (tyG cyI cyJ cyZ cyB cyO) [(h_d, .inr (1, oX1 m_d v_d_day)), (m_d 1, .inl (cyI, 12, .inl v_d_water)), (m_d 2, .inl (cyJ, 12, .inr (.inl v_d_salt)))] sz (xE tO vF adK adV))) (va_Qi (fun (r : Int32) (_ : Unit) => r = out) (ux_at (dC, dI) vwCl (tyG cyI cyJ cyZ cyB cyO) [(h_d, .inr (1, oX1 m_d v_d_day)), (m_d 1, .inl (cyI, 12, .inl v_d_water)), (m_d 2, .inl (cyJ, 12, .inr (.inl v_d_salt)))] sz (fun u : Unit => [(h_d, .inr (1, oX1 m_d v_d_day)), (m_d 1, .inl (cyI, 12, .inl v_d_water)), (m_d 2, .inl (cyJ, 12, .inr (.inl v_d_salt)))])) (va_A [(h_d, .inr (1, oX1 m_d v_d_day)), (m_d 1, .inl (cyI, 12, .inl v_d_water)), (m_d 2, .inl (cyJ, 12, .inr (.inl v_d_salt)))] sz)) 0 0 (va_A [(h_d, .inr (1, oX1 m_d v_d_day)), (m_d 1, .inl (cyI, 12, .inl v_d_water)), (m_d 2, .inl (cyJ, 12, .inr (.inl v_d_salt)))] sz) := by
  refine ux_meti0 (by decide +kernel) (Nat.le_of_ble_eq_true rfl) ?_
  intro p e s m below meth c A Q ls hx hb hml hts hown hA hP hK hD hE hl hret
  have hown : s.vm.findClass RX1 = some m.cls := hown
  have hS : va_S A s.heap s.heap [] := va_S.rf
  have hl : lv_has ls 2 [(0, .ref h_d), (1, .int q1)] := hl
  unfold f_X1_saltyOf at hf
  refine lv_aload_n hx hb dX1_saltyOf_0 rfl (lv_at hl 0 rfl) ?_
  refine va_get (D := (dC, dI)) (ci := 1) (v := .ref (m_d 1)) (C := RX1) (T := TX1) (N := 8) hx hb hts (g_c inlX1) hown hK hP 0 rfl rfl 1 (by decide) (hts _ (List.mem_cons_of_mem _ wm_5_19)) (fun _ h9 => h9) rfl dX1_saltyOf_1 ?_
  refine lv_iload_n hx hb dX1_saltyOf_4 rfl (lv_at hl 1 rfl) ?_
  obtain ⟨h_1, hf⟩ := ck_some hf
  refine va_iald hx hb hK hP 1 0 rfl rfl (inb_in h_1) dX1_saltyOf_5 ?_
  refine lv_iconst (v := (1 : Int32)) hx hb dX1_saltyOf_6 (by decide) ?_
  refine lv_icmp_ge (tgt := 12) hx hb dX1_saltyOf_7 (by decide) (fun c_2 => ?_) (fun c_2 => ?_)
  · have hf := (if_pos c_2).symm.trans hf
    refine lv_ldc2 (v := (1000000000 : Int64)) hx hb hown (hts _ (List.mem_cons_of_mem _ wm_30_11)) dX1_saltyOf_12 ?_
    refine lv_aload_n hx hb dX1_saltyOf_15 rfl (lv_at hl 0 rfl) ?_
    refine va_get (D := (dC, dI)) (ci := 1) (v := .ref (m_d 2)) (C := RX1) (T := TX1) (N := 8) hx hb hts (g_c inlX1) hown hK hP 0 rfl rfl 2 (by decide) (hts _ (List.mem_cons_of_mem _ wm_5_20)) (fun _ h9 => h9) rfl dX1_saltyOf_16 ?_
    refine lv_iload_n hx hb dX1_saltyOf_19 rfl (lv_at hl 1 rfl) ?_
    obtain ⟨h_3, hf⟩ := ck_some hf
    refine va_lald hx hb hK hP 2 1 rfl rfl (inb_in h_3) dX1_saltyOf_20 ?_
    refine lv_ldc2 (v := (100 : Int64)) hx hb hown (hts _ (List.mem_cons_of_mem _ wm_30_12)) dX1_saltyOf_21 ?_
    refine lv_lmul hx hb dX1_saltyOf_24 ?_
    refine lv_aload_n hx hb dX1_saltyOf_25 rfl (lv_at hl 0 rfl) ?_
    refine va_get (D := (dC, dI)) (ci := 1) (v := .ref (m_d 1)) (C := RX1) (T := TX1) (N := 8) hx hb hts (g_c inlX1) hown hK hP 0 rfl rfl 1 (by decide) (hts _ (List.mem_cons_of_mem _ wm_5_19)) (fun _ h9 => h9) rfl dX1_saltyOf_26 ?_
    refine lv_iload_n hx hb dX1_saltyOf_29 rfl (lv_at hl 1 rfl) ?_
    obtain ⟨h_4, hf⟩ := ck_some hf
    refine va_iald hx hb hK hP 1 0 rfl rfl (inb_in h_4) dX1_saltyOf_30 ?_
    refine lv_i2l hx hb dX1_saltyOf_31 rfl ?_
    obtain ⟨h_5, hf⟩ := ck_some hf
    refine lv_ldiv hx hb dX1_saltyOf_32 (nzl_ne h_5) ?_
    refine va_mmin_long hx hb (hml.trans hl.1.symm) hown (hts _ (List.mem_cons_of_mem _ wm_30_13)) (hts _ (List.mem_cons_of_mem _ wm_30_14)) (hts _ (List.mem_cons_of_mem _ wm_12_7)) (hts _ (List.mem_cons_of_mem _ wm_30_15)) (Nat.le_of_ble_eq_true rfl) (Nat.le_of_ble_eq_true rfl) (Nat.le_of_ble_eq_true rfl) (Nat.le_of_ble_eq_true rfl) dX1_saltyOf_33 ?_
    refine lv_l2i hx hb dX1_saltyOf_36 rfl ?_
    exact hret _ _ _ _ ((if (((v_d_salt q1.toNatClampNeg) * (100 : Int64)) / ((v_d_water q1.toNatClampNeg).toInt64)) < (1000000000 : Int64) then (((v_d_salt q1.toNatClampNeg) * (100 : Int64)) / ((v_d_water q1.toNatClampNeg).toInt64)) else (1000000000 : Int64)).toInt32) dX1_saltyOf_37 (Option.some.inj hf) hP hD hS
  · have hf := (if_neg c_2).symm.trans hf
    refine lv_iconst (v := (0 : Int32)) hx hb dX1_saltyOf_10 (by decide) ?_
    exact hret _ _ _ _ (0 : Int32) dX1_saltyOf_11 (Option.some.inj hf) hP hD hS
def f_X1_begin (v_g_water : (Nat → Int32)) (v_d_day : Int32) (v_d_water : (Nat → Int32)) (v_d_salt : (Nat → Int64)) (v_d_seen : (Nat → Int32)) (v_d_took : (Nat → Int32)) (v_d_dryDays : (Nat → Int32)) (v_d_firstDry : (Nat → Int32)) (v_d_total : (Nat → Int32)) : Option (Int32 × (Nat → Int32) × (Nat → Int64) × (Nat → Int32) × (Nat → Int32) × (Nat → Int32) × (Nat → Int32) × (Nat → Int32)) := nm (va_cpy v_g_water v_d_water (0 : Int32).toNatClampNeg (0 : Int32).toNatClampNeg (12 : Int32).toNatClampNeg) (fun a_1 => bd (f_J7_fill_d0a16_12 v_d_salt (0 : Int64)) (fun o_2 => bd (f_J7_fill_53178_12 v_d_seen (0 : Int32)) (fun o_3 => bd (f_J7_fill_53178_6 v_d_took (0 : Int32)) (fun o_4 => bd (f_J7_fill_53178_6 v_d_dryDays (0 : Int32)) (fun o_5 => bd (f_J7_fill_53178_6 v_d_firstDry (-2 : Int32)) (fun o_6 => bd (f_J7_fill_53178_6 v_d_total (0 : Int32)) (fun o_7 => some ((0 : Int32), a_1, o_2, o_3, o_4, o_5, o_6, o_7))))))))
set_option maxRecDepth 100000 in
set_option maxHeartbeats 8000000 in
theorem c_X1_begin (l : Launch) (dC : Nat → ClassId) (dI : Nat → Nat → Nat) (cyI cyJ cyZ cyB cyO : ClassId) (tO : Nat) (vF : Value) (adK adV : Nat → Nat) (h_d : Nat) (m_d : Nat → Nat) (h_g : Nat) (m_g : Nat → Nat) (v_d_day : Int32) (v_d_water : (Nat → Int32)) (v_d_salt : (Nat → Int64)) (v_d_seen : (Nat → Int32)) (v_d_took : (Nat → Int32)) (v_d_dryDays : (Nat → Int32)) (v_d_firstDry : (Nat → Int32)) (v_d_total : (Nat → Int32)) (v_g_cells : Int32) (v_g_passes : Int32) (v_g_rivers : Int32) (v_g_villages : Int32) (v_g_rains : Int32) (v_g_water : (Nat → Int32))  (sz : Nat) (out : Int32 × (Nat → Int32) × (Nat → Int64) × (Nat → Int32) × (Nat → Int32) × (Nat → Int32) × (Nat → Int32) × (Nat → Int32)) (hf : f_X1_begin v_g_water v_d_day v_d_water v_d_salt v_d_seen v_d_took v_d_dryDays v_d_firstDry v_d_total = some out) : Met l yX1_begin (Cond.code yX1_begin cX1_begin 2 none :: wsL_law) ({ frames := 1, cells := 0, slots := 0, locals := 40 } : Room) (va_Pc [.ref h_d, .ref h_g] (ux_pre (dC, dI) vwCl (tyG cyI cyJ cyZ cyB cyO) [(h_d, .inr (1, oX1 m_d v_d_day)), (m_d 1, .inl (cyI, 12, .inl v_d_water)), (m_d 2, .inl (cyJ, 12, .inr (.inl v_d_salt))), (m_d 3, .inl (cyI, 12, .inl v_d_seen)), (m_d 4, .inl (cyI, 6, .inl v_d_took)), (m_d 5, .inl (cyI, 6, .inl v_d_dryDays)), (m_d 6, .inl (cyI, 6, .inl v_d_firstDry)), (m_d 7, .inl (cyI, 6, .inl v_d_total)), (h_g, .inr (3, oX3 m_g v_g_cells v_g_passes v_g_rivers v_g_villages v_g_rains)), (m_g 2, .inl (cyI, 12, .inl v_g_water))] sz (xE tO vF adK adV))) (va_Qv (fun u : Int32 × (Nat → Int32) × (Nat → Int64) × (Nat → Int32) × (Nat → Int32) × (Nat → Int32) × (Nat → Int32) × (Nat → Int32) => u = out) (ux_at (dC, dI) vwCl (tyG cyI cyJ cyZ cyB cyO) [(h_d, .inr (1, oX1 m_d v_d_day)), (m_d 1, .inl (cyI, 12, .inl v_d_water)), (m_d 2, .inl (cyJ, 12, .inr (.inl v_d_salt))), (m_d 3, .inl (cyI, 12, .inl v_d_seen)), (m_d 4, .inl (cyI, 6, .inl v_d_took)), (m_d 5, .inl (cyI, 6, .inl v_d_dryDays)), (m_d 6, .inl (cyI, 6, .inl v_d_firstDry)), (m_d 7, .inl (cyI, 6, .inl v_d_total)), (h_g, .inr (3, oX3 m_g v_g_cells v_g_passes v_g_rivers v_g_villages v_g_rains)), (m_g 2, .inl (cyI, 12, .inl v_g_water))] sz (fun u : Int32 × (Nat → Int32) × (Nat → Int64) × (Nat → Int32) × (Nat → Int32) × (Nat → Int32) × (Nat → Int32) × (Nat → Int32) => [(h_d, .inr (1, oX1 m_d u.1)), (m_d 1, .inl (cyI, 12, .inl u.2.1)), (m_d 2, .inl (cyJ, 12, .inr (.inl u.2.2.1))), (m_d 3, .inl (cyI, 12, .inl u.2.2.2.1)), (m_d 4, .inl (cyI, 6, .inl u.2.2.2.2.1)), (m_d 5, .inl (cyI, 6, .inl u.2.2.2.2.2.1)), (m_d 6, .inl (cyI, 6, .inl u.2.2.2.2.2.2.1)), (m_d 7, .inl (cyI, 6, .inl u.2.2.2.2.2.2.2)), (h_g, .inr (3, oX3 m_g v_g_cells v_g_passes v_g_rivers v_g_villages v_g_rains)), (m_g 2, .inl (cyI, 12, .inl v_g_water))])) (va_A [(h_d, .inr (1, oX1 m_d v_d_day)), (m_d 1, .inl (cyI, 12, .inl v_d_water)), (m_d 2, .inl (cyJ, 12, .inr (.inl v_d_salt))), (m_d 3, .inl (cyI, 12, .inl v_d_seen)), (m_d 4, .inl (cyI, 6, .inl v_d_took)), (m_d 5, .inl (cyI, 6, .inl v_d_dryDays)), (m_d 6, .inl (cyI, 6, .inl v_d_firstDry)), (m_d 7, .inl (cyI, 6, .inl v_d_total)), (h_g, .inr (3, oX3 m_g v_g_cells v_g_passes v_g_rivers v_g_villages v_g_rains)), (m_g 2, .inl (cyI, 12, .inl v_g_water))] sz)) 0 0 (va_A [(h_d, .inr (1, oX1 m_d v_d_day)), (m_d 1, .inl (cyI, 12, .inl v_d_water)), (m_d 2, .inl (cyJ, 12, .inr (.inl v_d_salt))), (m_d 3, .inl (cyI, 12, .inl v_d_seen)), (m_d 4, .inl (cyI, 6, .inl v_d_took)), (m_d 5, .inl (cyI, 6, .inl v_d_dryDays)), (m_d 6, .inl (cyI, 6, .inl v_d_firstDry)), (m_d 7, .inl (cyI, 6, .inl v_d_total)), (h_g, .inr (3, oX3 m_g v_g_cells v_g_passes v_g_rivers v_g_villages v_g_rains)), (m_g 2, .inl (cyI, 12, .inl v_g_water))] sz) := by
  refine ux_metv (by decide +kernel) (Nat.le_of_ble_eq_true rfl) ?_
  intro p e s m below meth c A Q ls hx hb hml hts hown hA hP hK hD hE hl hret
  have hown : s.vm.findClass RX1 = some m.cls := hown
  have hS : va_S A s.heap s.heap [] := va_S.rf
  have hl : lv_has ls 2 [(0, .ref h_d), (1, .ref h_g)] := hl
  unfold f_X1_begin at hf
  refine lv_aload_n hx hb dX1_begin_0 rfl (lv_at hl 0 rfl) ?_
  refine lv_iconst (v := (0 : Int32)) hx hb dX1_begin_1 (by decide) ?_
  refine va_put (D := (dC, dI)) (ci := 1) (v := .int (0 : Int32)) (ty := .int) (C := RX1) (T := TX1) (N := 8) hx hb hts (g_c inlX1) tyX1 tyX1_ok nmX1 hown hK hP hD hS 0 rfl rfl 0 (by decide) (hts _ (List.mem_cons_of_mem _ wm_5_18)) (fun _ h9 => h9) rfl (by decide +kernel) rfl rfl (Nat.le_of_ble_eq_true rfl) dX1_begin_2 (fun H locs hP hD hS => ?_)
  have hP : va_P (dC, dI) vwCl [(h_d, .inr (1, oX1 m_d (0 : Int32))), (m_d 1, .inl (cyI, 12, .inl v_d_water)), (m_d 2, .inl (cyJ, 12, .inr (.inl v_d_salt))), (m_d 3, .inl (cyI, 12, .inl v_d_seen)), (m_d 4, .inl (cyI, 6, .inl v_d_took)), (m_d 5, .inl (cyI, 6, .inl v_d_dryDays)), (m_d 6, .inl (cyI, 6, .inl v_d_firstDry)), (m_d 7, .inl (cyI, 6, .inl v_d_total)), (h_g, .inr (3, oX3 m_g v_g_cells v_g_passes v_g_rivers v_g_villages v_g_rains)), (m_g 2, .inl (cyI, 12, .inl v_g_water))] H := hP
  have hD : va_D A [(h_d, .inr (1, oX1 m_d (0 : Int32))), (m_d 1, .inl (cyI, 12, .inl v_d_water)), (m_d 2, .inl (cyJ, 12, .inr (.inl v_d_salt))), (m_d 3, .inl (cyI, 12, .inl v_d_seen)), (m_d 4, .inl (cyI, 6, .inl v_d_took)), (m_d 5, .inl (cyI, 6, .inl v_d_dryDays)), (m_d 6, .inl (cyI, 6, .inl v_d_firstDry)), (m_d 7, .inl (cyI, 6, .inl v_d_total)), (h_g, .inr (3, oX3 m_g v_g_cells v_g_passes v_g_rivers v_g_villages v_g_rains)), (m_g 2, .inl (cyI, 12, .inl v_g_water))] := hD
  refine lv_aload_n hx hb dX1_begin_5 rfl (lv_at hl 1 rfl) ?_
  refine va_get (D := (dC, dI)) (ci := 3) (v := .ref (m_g 2)) (C := RX3) (T := TX3) (N := 20) hx hb hts (g_c inlX3) hown hK hP 8 rfl rfl 2 (by decide) (hts _ (List.mem_cons_of_mem _ wm_7_7)) (fun _ h9 => h9) rfl dX1_begin_6 ?_
  refine lv_iconst (v := (0 : Int32)) hx hb dX1_begin_9 (by decide) ?_
  refine lv_aload_n hx hb dX1_begin_10 rfl (lv_at hl 0 rfl) ?_
  refine va_get (D := (dC, dI)) (ci := 1) (v := .ref (m_d 1)) (C := RX1) (T := TX1) (N := 8) hx hb hts (g_c inlX1) hown hK hP 0 rfl rfl 1 (by decide) (hts _ (List.mem_cons_of_mem _ wm_5_19)) (fun _ h9 => h9) rfl dX1_begin_11 ?_
  refine lv_iconst (v := (0 : Int32)) hx hb dX1_begin_14 (by decide) ?_
  refine lv_bipush (v := (12 : Int32)) hx hb dX1_begin_15 (by decide) ?_
  obtain ⟨a_1, ea_1, hf⟩ := nm_some hf
  refine va_copyi hx hb (hml.trans hl.1.symm) hown (hts _ (List.mem_cons_of_mem _ wm_7_8)) (hts _ (List.mem_cons_of_mem _ wm_7_9)) (hts _ (List.mem_cons_of_mem _ wm_7_10)) (hts _ (List.mem_cons_of_mem _ wm_7_11)) hK hP hD hS 9 1 0 0 rfl rfl rfl rfl rfl (by decide) (by decide) (by decide) (by decide) (by decide) (fun _ _ => rfl) (Nat.le_of_ble_eq_true rfl) (Nat.le_of_ble_eq_true rfl) dX1_begin_17 (fun H locs hP hD hS => ?_)
  have hP : va_P (dC, dI) vwCl [(h_d, .inr (1, oX1 m_d (0 : Int32))), (m_d 1, .inl (cyI, 12, .inl a_1)), (m_d 2, .inl (cyJ, 12, .inr (.inl v_d_salt))), (m_d 3, .inl (cyI, 12, .inl v_d_seen)), (m_d 4, .inl (cyI, 6, .inl v_d_took)), (m_d 5, .inl (cyI, 6, .inl v_d_dryDays)), (m_d 6, .inl (cyI, 6, .inl v_d_firstDry)), (m_d 7, .inl (cyI, 6, .inl v_d_total)), (h_g, .inr (3, oX3 m_g v_g_cells v_g_passes v_g_rivers v_g_villages v_g_rains)), (m_g 2, .inl (cyI, 12, .inl v_g_water))] H := by rw [ea_1]; exact hP
  have hD : va_D A [(h_d, .inr (1, oX1 m_d (0 : Int32))), (m_d 1, .inl (cyI, 12, .inl a_1)), (m_d 2, .inl (cyJ, 12, .inr (.inl v_d_salt))), (m_d 3, .inl (cyI, 12, .inl v_d_seen)), (m_d 4, .inl (cyI, 6, .inl v_d_took)), (m_d 5, .inl (cyI, 6, .inl v_d_dryDays)), (m_d 6, .inl (cyI, 6, .inl v_d_firstDry)), (m_d 7, .inl (cyI, 6, .inl v_d_total)), (h_g, .inr (3, oX3 m_g v_g_cells v_g_passes v_g_rivers v_g_villages v_g_rains)), (m_g 2, .inl (cyI, 12, .inl v_g_water))] := by rw [ea_1]; exact hD
  refine lv_aload_n hx hb dX1_begin_20 rfl (lv_at hl 0 rfl) ?_
  refine va_get (D := (dC, dI)) (ci := 1) (v := .ref (m_d 2)) (C := RX1) (T := TX1) (N := 8) hx hb hts (g_c inlX1) hown hK hP 0 rfl rfl 2 (by decide) (hts _ (List.mem_cons_of_mem _ wm_5_20)) (fun _ h9 => h9) rfl dX1_begin_21 ?_
  refine lv_lconst (v := (0 : Int64)) hx hb dX1_begin_24 (by decide) ?_
  obtain ⟨o_2, ho_2, hf⟩ := bd_some hf
  refine ux_Sv (n := 2) (As := [.ref (m_d 2), .long (0 : Int64)]) (rest := []) (wc := [(m_d 2, .inl (cyJ, 12, .inr (.inl v_d_salt)))]) (wr := [_, _, _, _, _, _, _, _, _]) ⟨hx, hb, hml, hown, hts⟩ hK hP hD hS hA hE [2] [0, 1, 3, 4, 5, 6, 7, 8, 9] (sg_h [(2, 1)] 10 rfl sk_z10_0 rfl) (sg_h [(0, 2), (3, 7)] 10 rfl sk_z10_1 rfl) nd_z10_0 nd_z10_1 nj_z10_0 (c_J7_fill_d0a16_12 l dC dI cyI cyJ cyZ cyB cyO tO vF adK adV (fun _ => m_d 2) v_d_salt (0 : Int64) _ _ ho_2) wm_7_12 wm_7_13 wm_7_14 wm_7_15 ⟨rfl, rfl⟩ (by decide +kernel) rfl ⟨Nat.le_of_ble_eq_true rfl, Nat.le_of_ble_eq_true rfl⟩ hl.1 rfl (Nat.le_of_ble_eq_true rfl) dX1_begin_25 ⟨Nat.le_of_ble_eq_true rfl, Nat.le_of_ble_eq_true rfl⟩ (fun H locs hP hD hS => ?_)
  have hP : va_P (dC, dI) vwCl [_, _, _, _, _, _, _, _, _, (m_d 2, .inl (cyJ, 12, .inr (.inl o_2)))] H := hP
  have hD : va_D A [_, _, _, _, _, _, _, _, _, (m_d 2, .inl (cyJ, 12, .inr (.inl o_2)))] := hD
  refine lv_aload_n hx hb dX1_begin_28 rfl (lv_at hl 0 rfl) ?_
  refine va_get (D := (dC, dI)) (ci := 1) (v := .ref (m_d 3)) (C := RX1) (T := TX1) (N := 8) hx hb hts (g_c inlX1) hown hK hP 0 rfl rfl 3 (by decide) (hts _ (List.mem_cons_of_mem _ wm_5_21)) (fun _ h9 => h9) rfl dX1_begin_29 ?_
  refine lv_iconst (v := (0 : Int32)) hx hb dX1_begin_32 (by decide) ?_
  obtain ⟨o_3, ho_3, hf⟩ := bd_some hf
  refine ux_Sv (n := 2) (As := [.ref (m_d 3), .int (0 : Int32)]) (rest := []) (wc := [(m_d 3, .inl (cyI, 12, .inl v_d_seen))]) (wr := [_, _, _, _, _, _, _, _, _]) ⟨hx, hb, hml, hown, hts⟩ hK hP hD hS hA hE [2] [0, 1, 3, 4, 5, 6, 7, 8, 9] (sg_h [(2, 1)] 10 rfl sk_z10_0 rfl) (sg_h [(0, 2), (3, 7)] 10 rfl sk_z10_1 rfl) nd_z10_0 nd_z10_1 nj_z10_0 (c_J7_fill_53178_12 l dC dI cyI cyJ cyZ cyB cyO tO vF adK adV (fun _ => m_d 3) v_d_seen (0 : Int32) _ _ ho_3) wm_7_16 wm_7_17 wm_7_14 wm_7_18 ⟨rfl, rfl⟩ (by decide +kernel) rfl ⟨Nat.le_of_ble_eq_true rfl, Nat.le_of_ble_eq_true rfl⟩ hl.1 rfl (Nat.le_of_ble_eq_true rfl) dX1_begin_33 ⟨Nat.le_of_ble_eq_true rfl, Nat.le_of_ble_eq_true rfl⟩ (fun H locs hP hD hS => ?_)
  have hP : va_P (dC, dI) vwCl [_, _, _, _, _, _, _, _, _, (m_d 3, .inl (cyI, 12, .inl o_3))] H := hP
  have hD : va_D A [_, _, _, _, _, _, _, _, _, (m_d 3, .inl (cyI, 12, .inl o_3))] := hD
  refine lv_aload_n hx hb dX1_begin_36 rfl (lv_at hl 0 rfl) ?_
  refine va_get (D := (dC, dI)) (ci := 1) (v := .ref (m_d 4)) (C := RX1) (T := TX1) (N := 8) hx hb hts (g_c inlX1) hown hK hP 0 rfl rfl 4 (by decide) (hts _ (List.mem_cons_of_mem _ wm_5_22)) (fun _ h9 => h9) rfl dX1_begin_37 ?_
  refine lv_iconst (v := (0 : Int32)) hx hb dX1_begin_40 (by decide) ?_
  obtain ⟨o_4, ho_4, hf⟩ := bd_some hf
  refine ux_Sv (n := 2) (As := [.ref (m_d 4), .int (0 : Int32)]) (rest := []) (wc := [(m_d 4, .inl (cyI, 6, .inl v_d_took))]) (wr := [_, _, _, _, _, _, _, _, _]) ⟨hx, hb, hml, hown, hts⟩ hK hP hD hS hA hE [2] [0, 1, 3, 4, 5, 6, 7, 8, 9] (sg_h [(2, 1)] 10 rfl sk_z10_0 rfl) (sg_h [(0, 2), (3, 7)] 10 rfl sk_z10_1 rfl) nd_z10_0 nd_z10_1 nj_z10_0 (c_J7_fill_53178_6 l dC dI cyI cyJ cyZ cyB cyO tO vF adK adV (fun _ => m_d 4) v_d_took (0 : Int32) _ _ ho_4) wm_7_16 wm_7_17 wm_7_14 wm_7_18 ⟨rfl, rfl⟩ (by decide +kernel) rfl ⟨Nat.le_of_ble_eq_true rfl, Nat.le_of_ble_eq_true rfl⟩ hl.1 rfl (Nat.le_of_ble_eq_true rfl) dX1_begin_41 ⟨Nat.le_of_ble_eq_true rfl, Nat.le_of_ble_eq_true rfl⟩ (fun H locs hP hD hS => ?_)
  have hP : va_P (dC, dI) vwCl [_, _, _, _, _, _, _, _, _, (m_d 4, .inl (cyI, 6, .inl o_4))] H := hP
  have hD : va_D A [_, _, _, _, _, _, _, _, _, (m_d 4, .inl (cyI, 6, .inl o_4))] := hD
  refine lv_aload_n hx hb dX1_begin_44 rfl (lv_at hl 0 rfl) ?_
  refine va_get (D := (dC, dI)) (ci := 1) (v := .ref (m_d 5)) (C := RX1) (T := TX1) (N := 8) hx hb hts (g_c inlX1) hown hK hP 0 rfl rfl 5 (by decide) (hts _ (List.mem_cons_of_mem _ wm_5_23)) (fun _ h9 => h9) rfl dX1_begin_45 ?_
  refine lv_iconst (v := (0 : Int32)) hx hb dX1_begin_48 (by decide) ?_
  obtain ⟨o_5, ho_5, hf⟩ := bd_some hf
  refine ux_Sv (n := 2) (As := [.ref (m_d 5), .int (0 : Int32)]) (rest := []) (wc := [(m_d 5, .inl (cyI, 6, .inl v_d_dryDays))]) (wr := [_, _, _, _, _, _, _, _, _]) ⟨hx, hb, hml, hown, hts⟩ hK hP hD hS hA hE [2] [0, 1, 3, 4, 5, 6, 7, 8, 9] (sg_h [(2, 1)] 10 rfl sk_z10_0 rfl) (sg_h [(0, 2), (3, 7)] 10 rfl sk_z10_1 rfl) nd_z10_0 nd_z10_1 nj_z10_0 (c_J7_fill_53178_6 l dC dI cyI cyJ cyZ cyB cyO tO vF adK adV (fun _ => m_d 5) v_d_dryDays (0 : Int32) _ _ ho_5) wm_7_16 wm_7_17 wm_7_14 wm_7_18 ⟨rfl, rfl⟩ (by decide +kernel) rfl ⟨Nat.le_of_ble_eq_true rfl, Nat.le_of_ble_eq_true rfl⟩ hl.1 rfl (Nat.le_of_ble_eq_true rfl) dX1_begin_49 ⟨Nat.le_of_ble_eq_true rfl, Nat.le_of_ble_eq_true rfl⟩ (fun H locs hP hD hS => ?_)
  have hP : va_P (dC, dI) vwCl [_, _, _, _, _, _, _, _, _, (m_d 5, .inl (cyI, 6, .inl o_5))] H := hP
  have hD : va_D A [_, _, _, _, _, _, _, _, _, (m_d 5, .inl (cyI, 6, .inl o_5))] := hD
  refine lv_aload_n hx hb dX1_begin_52 rfl (lv_at hl 0 rfl) ?_
  refine va_get (D := (dC, dI)) (ci := 1) (v := .ref (m_d 6)) (C := RX1) (T := TX1) (N := 8) hx hb hts (g_c inlX1) hown hK hP 0 rfl rfl 6 (by decide) (hts _ (List.mem_cons_of_mem _ wm_6_0)) (fun _ h9 => h9) rfl dX1_begin_53 ?_
  refine lv_bipush (v := (-2 : Int32)) hx hb dX1_begin_56 (by decide) ?_
  obtain ⟨o_6, ho_6, hf⟩ := bd_some hf
  refine ux_Sv (n := 2) (As := [.ref (m_d 6), .int (-2 : Int32)]) (rest := []) (wc := [(m_d 6, .inl (cyI, 6, .inl v_d_firstDry))]) (wr := [_, _, _, _, _, _, _, _, _]) ⟨hx, hb, hml, hown, hts⟩ hK hP hD hS hA hE [2] [0, 1, 3, 4, 5, 6, 7, 8, 9] (sg_h [(2, 1)] 10 rfl sk_z10_0 rfl) (sg_h [(0, 2), (3, 7)] 10 rfl sk_z10_1 rfl) nd_z10_0 nd_z10_1 nj_z10_0 (c_J7_fill_53178_6 l dC dI cyI cyJ cyZ cyB cyO tO vF adK adV (fun _ => m_d 6) v_d_firstDry (-2 : Int32) _ _ ho_6) wm_7_16 wm_7_17 wm_7_14 wm_7_18 ⟨rfl, rfl⟩ (by decide +kernel) rfl ⟨Nat.le_of_ble_eq_true rfl, Nat.le_of_ble_eq_true rfl⟩ hl.1 rfl (Nat.le_of_ble_eq_true rfl) dX1_begin_58 ⟨Nat.le_of_ble_eq_true rfl, Nat.le_of_ble_eq_true rfl⟩ (fun H locs hP hD hS => ?_)
  have hP : va_P (dC, dI) vwCl [_, _, _, _, _, _, _, _, _, (m_d 6, .inl (cyI, 6, .inl o_6))] H := hP
  have hD : va_D A [_, _, _, _, _, _, _, _, _, (m_d 6, .inl (cyI, 6, .inl o_6))] := hD
  refine lv_aload_n hx hb dX1_begin_61 rfl (lv_at hl 0 rfl) ?_
  refine va_get (D := (dC, dI)) (ci := 1) (v := .ref (m_d 7)) (C := RX1) (T := TX1) (N := 8) hx hb hts (g_c inlX1) hown hK hP 0 rfl rfl 7 (by decide) (hts _ (List.mem_cons_of_mem _ wm_6_1)) (fun _ h9 => h9) rfl dX1_begin_62 ?_
  refine lv_iconst (v := (0 : Int32)) hx hb dX1_begin_65 (by decide) ?_
  obtain ⟨o_7, ho_7, hf⟩ := bd_some hf
  refine ux_Sv (n := 2) (As := [.ref (m_d 7), .int (0 : Int32)]) (rest := []) (wc := [(m_d 7, .inl (cyI, 6, .inl v_d_total))]) (wr := [_, _, _, _, _, _, _, _, _]) ⟨hx, hb, hml, hown, hts⟩ hK hP hD hS hA hE [2] [0, 1, 3, 4, 5, 6, 7, 8, 9] (sg_h [(2, 1)] 10 rfl sk_z10_0 rfl) (sg_h [(0, 2), (3, 7)] 10 rfl sk_z10_1 rfl) nd_z10_0 nd_z10_1 nj_z10_0 (c_J7_fill_53178_6 l dC dI cyI cyJ cyZ cyB cyO tO vF adK adV (fun _ => m_d 7) v_d_total (0 : Int32) _ _ ho_7) wm_7_16 wm_7_17 wm_7_14 wm_7_18 ⟨rfl, rfl⟩ (by decide +kernel) rfl ⟨Nat.le_of_ble_eq_true rfl, Nat.le_of_ble_eq_true rfl⟩ hl.1 rfl (Nat.le_of_ble_eq_true rfl) dX1_begin_66 ⟨Nat.le_of_ble_eq_true rfl, Nat.le_of_ble_eq_true rfl⟩ (fun H locs hP hD hS => ?_)
  have hP : va_P (dC, dI) vwCl [_, _, _, _, _, _, _, _, _, (m_d 7, .inl (cyI, 6, .inl o_7))] H := hP
  have hD : va_D A [_, _, _, _, _, _, _, _, _, (m_d 7, .inl (cyI, 6, .inl o_7))] := hD
  exact hret _ _ _ _ ((0 : Int32), a_1, o_2, o_3, o_4, o_5, o_6, o_7) dX1_begin_69 (Option.some.inj hf) (hP.sub [0, 1, 4, 5, 6, 7, 8, 9, 2, 3] (ux_pick (sg_h [(0, 2), (4, 6), (2, 2)] 10 rfl sk_z10_2 rfl))) (hD.sub [0, 1, 4, 5, 6, 7, 8, 9, 2, 3] nd_z10_2 (sg_h [(0, 2), (4, 6), (2, 2)] 10 rfl sk_z10_2 rfl)) hS
def f_X1_become (v_o_day : Int32) (v_o_water : (Nat → Int32)) (v_o_salt : (Nat → Int64)) (v_o_seen : (Nat → Int32)) (v_o_took : (Nat → Int32)) (v_o_dryDays : (Nat → Int32)) (v_o_firstDry : (Nat → Int32)) (v_o_total : (Nat → Int32)) (v_d_day : Int32) (v_d_water : (Nat → Int32)) (v_d_salt : (Nat → Int64)) (v_d_seen : (Nat → Int32)) (v_d_took : (Nat → Int32)) (v_d_dryDays : (Nat → Int32)) (v_d_firstDry : (Nat → Int32)) (v_d_total : (Nat → Int32)) : Option (Int32 × (Nat → Int32) × (Nat → Int64) × (Nat → Int32) × (Nat → Int32) × (Nat → Int32) × (Nat → Int32) × (Nat → Int32)) := nm (va_cpy v_o_water v_d_water (0 : Int32).toNatClampNeg (0 : Int32).toNatClampNeg (12 : Int32).toNatClampNeg) (fun a_1 => nm (va_cpy v_o_salt v_d_salt (0 : Int32).toNatClampNeg (0 : Int32).toNatClampNeg (12 : Int32).toNatClampNeg) (fun a_2 => nm (va_cpy v_o_seen v_d_seen (0 : Int32).toNatClampNeg (0 : Int32).toNatClampNeg (12 : Int32).toNatClampNeg) (fun a_3 => nm (va_cpy v_o_took v_d_took (0 : Int32).toNatClampNeg (0 : Int32).toNatClampNeg (6 : Int32).toNatClampNeg) (fun a_4 => nm (va_cpy v_o_dryDays v_d_dryDays (0 : Int32).toNatClampNeg (0 : Int32).toNatClampNeg (6 : Int32).toNatClampNeg) (fun a_5 => nm (va_cpy v_o_firstDry v_d_firstDry (0 : Int32).toNatClampNeg (0 : Int32).toNatClampNeg (6 : Int32).toNatClampNeg) (fun a_6 => nm (va_cpy v_o_total v_d_total (0 : Int32).toNatClampNeg (0 : Int32).toNatClampNeg (6 : Int32).toNatClampNeg) (fun a_7 => some (v_o_day, a_1, a_2, a_3, a_4, a_5, a_6, a_7))))))))
set_option maxRecDepth 100000 in
set_option maxHeartbeats 8000000 in
theorem c_X1_become (l : Launch) (dC : Nat → ClassId) (dI : Nat → Nat → Nat) (cyI cyJ cyZ cyB cyO : ClassId) (tO : Nat) (vF : Value) (adK adV : Nat → Nat) (h_d : Nat) (m_d : Nat → Nat) (h_o : Nat) (m_o : Nat → Nat) (v_d_day : Int32) (v_d_water : (Nat → Int32)) (v_d_salt : (Nat → Int64)) (v_d_seen : (Nat → Int32)) (v_d_took : (Nat → Int32)) (v_d_dryDays : (Nat → Int32)) (v_d_firstDry : (Nat → Int32)) (v_d_total : (Nat → Int32)) (v_o_day : Int32) (v_o_water : (Nat → Int32)) (v_o_salt : (Nat → Int64)) (v_o_seen : (Nat → Int32)) (v_o_took : (Nat → Int32)) (v_o_dryDays : (Nat → Int32)) (v_o_firstDry : (Nat → Int32)) (v_o_total : (Nat → Int32))  (sz : Nat) (out : Int32 × (Nat → Int32) × (Nat → Int64) × (Nat → Int32) × (Nat → Int32) × (Nat → Int32) × (Nat → Int32) × (Nat → Int32)) (hf : f_X1_become v_o_day v_o_water v_o_salt v_o_seen v_o_took v_o_dryDays v_o_firstDry v_o_total v_d_day v_d_water v_d_salt v_d_seen v_d_took v_d_dryDays v_d_firstDry v_d_total = some out) : Met l yX1_become (Cond.code yX1_become cX1_become 2 none :: wsL_law) ({ frames := 1, cells := 0, slots := 0, locals := 40 } : Room) (va_Pc [.ref h_d, .ref h_o] (ux_pre (dC, dI) vwCl (tyG cyI cyJ cyZ cyB cyO) [(h_d, .inr (1, oX1 m_d v_d_day)), (m_d 1, .inl (cyI, 12, .inl v_d_water)), (m_d 2, .inl (cyJ, 12, .inr (.inl v_d_salt))), (m_d 3, .inl (cyI, 12, .inl v_d_seen)), (m_d 4, .inl (cyI, 6, .inl v_d_took)), (m_d 5, .inl (cyI, 6, .inl v_d_dryDays)), (m_d 6, .inl (cyI, 6, .inl v_d_firstDry)), (m_d 7, .inl (cyI, 6, .inl v_d_total)), (h_o, .inr (1, oX1 m_o v_o_day)), (m_o 1, .inl (cyI, 12, .inl v_o_water)), (m_o 2, .inl (cyJ, 12, .inr (.inl v_o_salt))), (m_o 3, .inl (cyI, 12, .inl v_o_seen)), (m_o 4, .inl (cyI, 6, .inl v_o_took)), (m_o 5, .inl (cyI, 6, .inl v_o_dryDays)), (m_o 6, .inl (cyI, 6, .inl v_o_firstDry)), (m_o 7, .inl (cyI, 6, .inl v_o_total))] sz (xE tO vF adK adV))) (va_Qv (fun u : Int32 × (Nat → Int32) × (Nat → Int64) × (Nat → Int32) × (Nat → Int32) × (Nat → Int32) × (Nat → Int32) × (Nat → Int32) => u = out) (ux_at (dC, dI) vwCl (tyG cyI cyJ cyZ cyB cyO) [(h_d, .inr (1, oX1 m_d v_d_day)), (m_d 1, .inl (cyI, 12, .inl v_d_water)), (m_d 2, .inl (cyJ, 12, .inr (.inl v_d_salt))), (m_d 3, .inl (cyI, 12, .inl v_d_seen)), (m_d 4, .inl (cyI, 6, .inl v_d_took)), (m_d 5, .inl (cyI, 6, .inl v_d_dryDays)), (m_d 6, .inl (cyI, 6, .inl v_d_firstDry)), (m_d 7, .inl (cyI, 6, .inl v_d_total)), (h_o, .inr (1, oX1 m_o v_o_day)), (m_o 1, .inl (cyI, 12, .inl v_o_water)), (m_o 2, .inl (cyJ, 12, .inr (.inl v_o_salt))), (m_o 3, .inl (cyI, 12, .inl v_o_seen)), (m_o 4, .inl (cyI, 6, .inl v_o_took)), (m_o 5, .inl (cyI, 6, .inl v_o_dryDays)), (m_o 6, .inl (cyI, 6, .inl v_o_firstDry)), (m_o 7, .inl (cyI, 6, .inl v_o_total))] sz (fun u : Int32 × (Nat → Int32) × (Nat → Int64) × (Nat → Int32) × (Nat → Int32) × (Nat → Int32) × (Nat → Int32) × (Nat → Int32) => [(h_d, .inr (1, oX1 m_d u.1)), (m_d 1, .inl (cyI, 12, .inl u.2.1)), (m_d 2, .inl (cyJ, 12, .inr (.inl u.2.2.1))), (m_d 3, .inl (cyI, 12, .inl u.2.2.2.1)), (m_d 4, .inl (cyI, 6, .inl u.2.2.2.2.1)), (m_d 5, .inl (cyI, 6, .inl u.2.2.2.2.2.1)), (m_d 6, .inl (cyI, 6, .inl u.2.2.2.2.2.2.1)), (m_d 7, .inl (cyI, 6, .inl u.2.2.2.2.2.2.2)), (h_o, .inr (1, oX1 m_o v_o_day)), (m_o 1, .inl (cyI, 12, .inl v_o_water)), (m_o 2, .inl (cyJ, 12, .inr (.inl v_o_salt))), (m_o 3, .inl (cyI, 12, .inl v_o_seen)), (m_o 4, .inl (cyI, 6, .inl v_o_took)), (m_o 5, .inl (cyI, 6, .inl v_o_dryDays)), (m_o 6, .inl (cyI, 6, .inl v_o_firstDry)), (m_o 7, .inl (cyI, 6, .inl v_o_total))])) (va_A [(h_d, .inr (1, oX1 m_d v_d_day)), (m_d 1, .inl (cyI, 12, .inl v_d_water)), (m_d 2, .inl (cyJ, 12, .inr (.inl v_d_salt))), (m_d 3, .inl (cyI, 12, .inl v_d_seen)), (m_d 4, .inl (cyI, 6, .inl v_d_took)), (m_d 5, .inl (cyI, 6, .inl v_d_dryDays)), (m_d 6, .inl (cyI, 6, .inl v_d_firstDry)), (m_d 7, .inl (cyI, 6, .inl v_d_total)), (h_o, .inr (1, oX1 m_o v_o_day)), (m_o 1, .inl (cyI, 12, .inl v_o_water)), (m_o 2, .inl (cyJ, 12, .inr (.inl v_o_salt))), (m_o 3, .inl (cyI, 12, .inl v_o_seen)), (m_o 4, .inl (cyI, 6, .inl v_o_took)), (m_o 5, .inl (cyI, 6, .inl v_o_dryDays)), (m_o 6, .inl (cyI, 6, .inl v_o_firstDry)), (m_o 7, .inl (cyI, 6, .inl v_o_total))] sz)) 0 0 (va_A [(h_d, .inr (1, oX1 m_d v_d_day)), (m_d 1, .inl (cyI, 12, .inl v_d_water)), (m_d 2, .inl (cyJ, 12, .inr (.inl v_d_salt))), (m_d 3, .inl (cyI, 12, .inl v_d_seen)), (m_d 4, .inl (cyI, 6, .inl v_d_took)), (m_d 5, .inl (cyI, 6, .inl v_d_dryDays)), (m_d 6, .inl (cyI, 6, .inl v_d_firstDry)), (m_d 7, .inl (cyI, 6, .inl v_d_total)), (h_o, .inr (1, oX1 m_o v_o_day)), (m_o 1, .inl (cyI, 12, .inl v_o_water)), (m_o 2, .inl (cyJ, 12, .inr (.inl v_o_salt))), (m_o 3, .inl (cyI, 12, .inl v_o_seen)), (m_o 4, .inl (cyI, 6, .inl v_o_took)), (m_o 5, .inl (cyI, 6, .inl v_o_dryDays)), (m_o 6, .inl (cyI, 6, .inl v_o_firstDry)), (m_o 7, .inl (cyI, 6, .inl v_o_total))] sz) := by
  refine ux_metv (by decide +kernel) (Nat.le_of_ble_eq_true rfl) ?_
  intro p e s m below meth c A Q ls hx hb hml hts hown hA hP hK hD hE hl hret
  have hown : s.vm.findClass RX1 = some m.cls := hown
  have hS : va_S A s.heap s.heap [] := va_S.rf
  have hl : lv_has ls 2 [(0, .ref h_d), (1, .ref h_o)] := hl
  unfold f_X1_become at hf
  refine lv_aload_n hx hb dX1_become_0 rfl (lv_at hl 0 rfl) ?_
  refine lv_aload_n hx hb dX1_become_1 rfl (lv_at hl 1 rfl) ?_
  refine va_get (D := (dC, dI)) (ci := 1) (v := .int v_o_day) (C := RX1) (T := TX1) (N := 8) hx hb hts (g_c inlX1) hown hK hP 8 rfl rfl 0 (by decide) (hts _ (List.mem_cons_of_mem _ wm_5_18)) (fun _ h9 => h9) rfl dX1_become_2 ?_
  refine va_put (D := (dC, dI)) (ci := 1) (v := .int v_o_day) (ty := .int) (C := RX1) (T := TX1) (N := 8) hx hb hts (g_c inlX1) tyX1 tyX1_ok nmX1 hown hK hP hD hS 0 rfl rfl 0 (by decide) (hts _ (List.mem_cons_of_mem _ wm_5_18)) (fun _ h9 => h9) rfl (by decide +kernel) rfl rfl (Nat.le_of_ble_eq_true rfl) dX1_become_5 (fun H locs hP hD hS => ?_)
  have hP : va_P (dC, dI) vwCl [(h_d, .inr (1, oX1 m_d v_o_day)), (m_d 1, .inl (cyI, 12, .inl v_d_water)), (m_d 2, .inl (cyJ, 12, .inr (.inl v_d_salt))), (m_d 3, .inl (cyI, 12, .inl v_d_seen)), (m_d 4, .inl (cyI, 6, .inl v_d_took)), (m_d 5, .inl (cyI, 6, .inl v_d_dryDays)), (m_d 6, .inl (cyI, 6, .inl v_d_firstDry)), (m_d 7, .inl (cyI, 6, .inl v_d_total)), (h_o, .inr (1, oX1 m_o v_o_day)), (m_o 1, .inl (cyI, 12, .inl v_o_water)), (m_o 2, .inl (cyJ, 12, .inr (.inl v_o_salt))), (m_o 3, .inl (cyI, 12, .inl v_o_seen)), (m_o 4, .inl (cyI, 6, .inl v_o_took)), (m_o 5, .inl (cyI, 6, .inl v_o_dryDays)), (m_o 6, .inl (cyI, 6, .inl v_o_firstDry)), (m_o 7, .inl (cyI, 6, .inl v_o_total))] H := hP
  have hD : va_D A [(h_d, .inr (1, oX1 m_d v_o_day)), (m_d 1, .inl (cyI, 12, .inl v_d_water)), (m_d 2, .inl (cyJ, 12, .inr (.inl v_d_salt))), (m_d 3, .inl (cyI, 12, .inl v_d_seen)), (m_d 4, .inl (cyI, 6, .inl v_d_took)), (m_d 5, .inl (cyI, 6, .inl v_d_dryDays)), (m_d 6, .inl (cyI, 6, .inl v_d_firstDry)), (m_d 7, .inl (cyI, 6, .inl v_d_total)), (h_o, .inr (1, oX1 m_o v_o_day)), (m_o 1, .inl (cyI, 12, .inl v_o_water)), (m_o 2, .inl (cyJ, 12, .inr (.inl v_o_salt))), (m_o 3, .inl (cyI, 12, .inl v_o_seen)), (m_o 4, .inl (cyI, 6, .inl v_o_took)), (m_o 5, .inl (cyI, 6, .inl v_o_dryDays)), (m_o 6, .inl (cyI, 6, .inl v_o_firstDry)), (m_o 7, .inl (cyI, 6, .inl v_o_total))] := hD
  refine lv_aload_n hx hb dX1_become_8 rfl (lv_at hl 1 rfl) ?_
  refine va_get (D := (dC, dI)) (ci := 1) (v := .ref (m_o 1)) (C := RX1) (T := TX1) (N := 8) hx hb hts (g_c inlX1) hown hK hP 8 rfl rfl 1 (by decide) (hts _ (List.mem_cons_of_mem _ wm_5_19)) (fun _ h9 => h9) rfl dX1_become_9 ?_
  refine lv_iconst (v := (0 : Int32)) hx hb dX1_become_12 (by decide) ?_
  refine lv_aload_n hx hb dX1_become_13 rfl (lv_at hl 0 rfl) ?_
  refine va_get (D := (dC, dI)) (ci := 1) (v := .ref (m_d 1)) (C := RX1) (T := TX1) (N := 8) hx hb hts (g_c inlX1) hown hK hP 0 rfl rfl 1 (by decide) (hts _ (List.mem_cons_of_mem _ wm_5_19)) (fun _ h9 => h9) rfl dX1_become_14 ?_
  refine lv_iconst (v := (0 : Int32)) hx hb dX1_become_17 (by decide) ?_
  refine lv_bipush (v := (12 : Int32)) hx hb dX1_become_18 (by decide) ?_
  obtain ⟨a_1, ea_1, hf⟩ := nm_some hf
  refine va_copyi hx hb (hml.trans hl.1.symm) hown (hts _ (List.mem_cons_of_mem _ wm_7_8)) (hts _ (List.mem_cons_of_mem _ wm_7_9)) (hts _ (List.mem_cons_of_mem _ wm_7_10)) (hts _ (List.mem_cons_of_mem _ wm_7_11)) hK hP hD hS 9 1 0 0 rfl rfl rfl rfl rfl (by decide) (by decide) (by decide) (by decide) (by decide) (fun _ _ => rfl) (Nat.le_of_ble_eq_true rfl) (Nat.le_of_ble_eq_true rfl) dX1_become_20 (fun H locs hP hD hS => ?_)
  have hP : va_P (dC, dI) vwCl [(h_d, .inr (1, oX1 m_d v_o_day)), (m_d 1, .inl (cyI, 12, .inl a_1)), (m_d 2, .inl (cyJ, 12, .inr (.inl v_d_salt))), (m_d 3, .inl (cyI, 12, .inl v_d_seen)), (m_d 4, .inl (cyI, 6, .inl v_d_took)), (m_d 5, .inl (cyI, 6, .inl v_d_dryDays)), (m_d 6, .inl (cyI, 6, .inl v_d_firstDry)), (m_d 7, .inl (cyI, 6, .inl v_d_total)), (h_o, .inr (1, oX1 m_o v_o_day)), (m_o 1, .inl (cyI, 12, .inl v_o_water)), (m_o 2, .inl (cyJ, 12, .inr (.inl v_o_salt))), (m_o 3, .inl (cyI, 12, .inl v_o_seen)), (m_o 4, .inl (cyI, 6, .inl v_o_took)), (m_o 5, .inl (cyI, 6, .inl v_o_dryDays)), (m_o 6, .inl (cyI, 6, .inl v_o_firstDry)), (m_o 7, .inl (cyI, 6, .inl v_o_total))] H := by rw [ea_1]; exact hP
  have hD : va_D A [(h_d, .inr (1, oX1 m_d v_o_day)), (m_d 1, .inl (cyI, 12, .inl a_1)), (m_d 2, .inl (cyJ, 12, .inr (.inl v_d_salt))), (m_d 3, .inl (cyI, 12, .inl v_d_seen)), (m_d 4, .inl (cyI, 6, .inl v_d_took)), (m_d 5, .inl (cyI, 6, .inl v_d_dryDays)), (m_d 6, .inl (cyI, 6, .inl v_d_firstDry)), (m_d 7, .inl (cyI, 6, .inl v_d_total)), (h_o, .inr (1, oX1 m_o v_o_day)), (m_o 1, .inl (cyI, 12, .inl v_o_water)), (m_o 2, .inl (cyJ, 12, .inr (.inl v_o_salt))), (m_o 3, .inl (cyI, 12, .inl v_o_seen)), (m_o 4, .inl (cyI, 6, .inl v_o_took)), (m_o 5, .inl (cyI, 6, .inl v_o_dryDays)), (m_o 6, .inl (cyI, 6, .inl v_o_firstDry)), (m_o 7, .inl (cyI, 6, .inl v_o_total))] := by rw [ea_1]; exact hD
  refine lv_aload_n hx hb dX1_become_23 rfl (lv_at hl 1 rfl) ?_
  refine va_get (D := (dC, dI)) (ci := 1) (v := .ref (m_o 2)) (C := RX1) (T := TX1) (N := 8) hx hb hts (g_c inlX1) hown hK hP 8 rfl rfl 2 (by decide) (hts _ (List.mem_cons_of_mem _ wm_5_20)) (fun _ h9 => h9) rfl dX1_become_24 ?_
  refine lv_iconst (v := (0 : Int32)) hx hb dX1_become_27 (by decide) ?_
  refine lv_aload_n hx hb dX1_become_28 rfl (lv_at hl 0 rfl) ?_
  refine va_get (D := (dC, dI)) (ci := 1) (v := .ref (m_d 2)) (C := RX1) (T := TX1) (N := 8) hx hb hts (g_c inlX1) hown hK hP 0 rfl rfl 2 (by decide) (hts _ (List.mem_cons_of_mem _ wm_5_20)) (fun _ h9 => h9) rfl dX1_become_29 ?_
  refine lv_iconst (v := (0 : Int32)) hx hb dX1_become_32 (by decide) ?_
  refine lv_bipush (v := (12 : Int32)) hx hb dX1_become_33 (by decide) ?_
  obtain ⟨a_2, ea_2, hf⟩ := nm_some hf
  refine va_copyl hx hb (hml.trans hl.1.symm) hown (hts _ (List.mem_cons_of_mem _ wm_7_8)) (hts _ (List.mem_cons_of_mem _ wm_7_9)) (hts _ (List.mem_cons_of_mem _ wm_7_10)) (hts _ (List.mem_cons_of_mem _ wm_7_11)) hK hP hD hS 10 2 1 1 rfl rfl rfl rfl rfl (by decide) (by decide) (by decide) (by decide) (by decide) (fun _ _ => rfl) (Nat.le_of_ble_eq_true rfl) (Nat.le_of_ble_eq_true rfl) dX1_become_35 (fun H locs hP hD hS => ?_)
  have hP : va_P (dC, dI) vwCl [(h_d, .inr (1, oX1 m_d v_o_day)), (m_d 1, .inl (cyI, 12, .inl a_1)), (m_d 2, .inl (cyJ, 12, .inr (.inl a_2))), (m_d 3, .inl (cyI, 12, .inl v_d_seen)), (m_d 4, .inl (cyI, 6, .inl v_d_took)), (m_d 5, .inl (cyI, 6, .inl v_d_dryDays)), (m_d 6, .inl (cyI, 6, .inl v_d_firstDry)), (m_d 7, .inl (cyI, 6, .inl v_d_total)), (h_o, .inr (1, oX1 m_o v_o_day)), (m_o 1, .inl (cyI, 12, .inl v_o_water)), (m_o 2, .inl (cyJ, 12, .inr (.inl v_o_salt))), (m_o 3, .inl (cyI, 12, .inl v_o_seen)), (m_o 4, .inl (cyI, 6, .inl v_o_took)), (m_o 5, .inl (cyI, 6, .inl v_o_dryDays)), (m_o 6, .inl (cyI, 6, .inl v_o_firstDry)), (m_o 7, .inl (cyI, 6, .inl v_o_total))] H := by rw [ea_2]; exact hP
  have hD : va_D A [(h_d, .inr (1, oX1 m_d v_o_day)), (m_d 1, .inl (cyI, 12, .inl a_1)), (m_d 2, .inl (cyJ, 12, .inr (.inl a_2))), (m_d 3, .inl (cyI, 12, .inl v_d_seen)), (m_d 4, .inl (cyI, 6, .inl v_d_took)), (m_d 5, .inl (cyI, 6, .inl v_d_dryDays)), (m_d 6, .inl (cyI, 6, .inl v_d_firstDry)), (m_d 7, .inl (cyI, 6, .inl v_d_total)), (h_o, .inr (1, oX1 m_o v_o_day)), (m_o 1, .inl (cyI, 12, .inl v_o_water)), (m_o 2, .inl (cyJ, 12, .inr (.inl v_o_salt))), (m_o 3, .inl (cyI, 12, .inl v_o_seen)), (m_o 4, .inl (cyI, 6, .inl v_o_took)), (m_o 5, .inl (cyI, 6, .inl v_o_dryDays)), (m_o 6, .inl (cyI, 6, .inl v_o_firstDry)), (m_o 7, .inl (cyI, 6, .inl v_o_total))] := by rw [ea_2]; exact hD
  refine lv_aload_n hx hb dX1_become_38 rfl (lv_at hl 1 rfl) ?_
  refine va_get (D := (dC, dI)) (ci := 1) (v := .ref (m_o 3)) (C := RX1) (T := TX1) (N := 8) hx hb hts (g_c inlX1) hown hK hP 8 rfl rfl 3 (by decide) (hts _ (List.mem_cons_of_mem _ wm_5_21)) (fun _ h9 => h9) rfl dX1_become_39 ?_
  refine lv_iconst (v := (0 : Int32)) hx hb dX1_become_42 (by decide) ?_
  refine lv_aload_n hx hb dX1_become_43 rfl (lv_at hl 0 rfl) ?_
  refine va_get (D := (dC, dI)) (ci := 1) (v := .ref (m_d 3)) (C := RX1) (T := TX1) (N := 8) hx hb hts (g_c inlX1) hown hK hP 0 rfl rfl 3 (by decide) (hts _ (List.mem_cons_of_mem _ wm_5_21)) (fun _ h9 => h9) rfl dX1_become_44 ?_
  refine lv_iconst (v := (0 : Int32)) hx hb dX1_become_47 (by decide) ?_
  refine lv_bipush (v := (12 : Int32)) hx hb dX1_become_48 (by decide) ?_
  obtain ⟨a_3, ea_3, hf⟩ := nm_some hf
  refine va_copyi hx hb (hml.trans hl.1.symm) hown (hts _ (List.mem_cons_of_mem _ wm_7_8)) (hts _ (List.mem_cons_of_mem _ wm_7_9)) (hts _ (List.mem_cons_of_mem _ wm_7_10)) (hts _ (List.mem_cons_of_mem _ wm_7_11)) hK hP hD hS 11 3 0 0 rfl rfl rfl rfl rfl (by decide) (by decide) (by decide) (by decide) (by decide) (fun _ _ => rfl) (Nat.le_of_ble_eq_true rfl) (Nat.le_of_ble_eq_true rfl) dX1_become_50 (fun H locs hP hD hS => ?_)
  have hP : va_P (dC, dI) vwCl [(h_d, .inr (1, oX1 m_d v_o_day)), (m_d 1, .inl (cyI, 12, .inl a_1)), (m_d 2, .inl (cyJ, 12, .inr (.inl a_2))), (m_d 3, .inl (cyI, 12, .inl a_3)), (m_d 4, .inl (cyI, 6, .inl v_d_took)), (m_d 5, .inl (cyI, 6, .inl v_d_dryDays)), (m_d 6, .inl (cyI, 6, .inl v_d_firstDry)), (m_d 7, .inl (cyI, 6, .inl v_d_total)), (h_o, .inr (1, oX1 m_o v_o_day)), (m_o 1, .inl (cyI, 12, .inl v_o_water)), (m_o 2, .inl (cyJ, 12, .inr (.inl v_o_salt))), (m_o 3, .inl (cyI, 12, .inl v_o_seen)), (m_o 4, .inl (cyI, 6, .inl v_o_took)), (m_o 5, .inl (cyI, 6, .inl v_o_dryDays)), (m_o 6, .inl (cyI, 6, .inl v_o_firstDry)), (m_o 7, .inl (cyI, 6, .inl v_o_total))] H := by rw [ea_3]; exact hP
  have hD : va_D A [(h_d, .inr (1, oX1 m_d v_o_day)), (m_d 1, .inl (cyI, 12, .inl a_1)), (m_d 2, .inl (cyJ, 12, .inr (.inl a_2))), (m_d 3, .inl (cyI, 12, .inl a_3)), (m_d 4, .inl (cyI, 6, .inl v_d_took)), (m_d 5, .inl (cyI, 6, .inl v_d_dryDays)), (m_d 6, .inl (cyI, 6, .inl v_d_firstDry)), (m_d 7, .inl (cyI, 6, .inl v_d_total)), (h_o, .inr (1, oX1 m_o v_o_day)), (m_o 1, .inl (cyI, 12, .inl v_o_water)), (m_o 2, .inl (cyJ, 12, .inr (.inl v_o_salt))), (m_o 3, .inl (cyI, 12, .inl v_o_seen)), (m_o 4, .inl (cyI, 6, .inl v_o_took)), (m_o 5, .inl (cyI, 6, .inl v_o_dryDays)), (m_o 6, .inl (cyI, 6, .inl v_o_firstDry)), (m_o 7, .inl (cyI, 6, .inl v_o_total))] := by rw [ea_3]; exact hD
  refine lv_aload_n hx hb dX1_become_53 rfl (lv_at hl 1 rfl) ?_
  refine va_get (D := (dC, dI)) (ci := 1) (v := .ref (m_o 4)) (C := RX1) (T := TX1) (N := 8) hx hb hts (g_c inlX1) hown hK hP 8 rfl rfl 4 (by decide) (hts _ (List.mem_cons_of_mem _ wm_5_22)) (fun _ h9 => h9) rfl dX1_become_54 ?_
  refine lv_iconst (v := (0 : Int32)) hx hb dX1_become_57 (by decide) ?_
  refine lv_aload_n hx hb dX1_become_58 rfl (lv_at hl 0 rfl) ?_
  refine va_get (D := (dC, dI)) (ci := 1) (v := .ref (m_d 4)) (C := RX1) (T := TX1) (N := 8) hx hb hts (g_c inlX1) hown hK hP 0 rfl rfl 4 (by decide) (hts _ (List.mem_cons_of_mem _ wm_5_22)) (fun _ h9 => h9) rfl dX1_become_59 ?_
  refine lv_iconst (v := (0 : Int32)) hx hb dX1_become_62 (by decide) ?_
  refine lv_bipush (v := (6 : Int32)) hx hb dX1_become_63 (by decide) ?_
  obtain ⟨a_4, ea_4, hf⟩ := nm_some hf
  refine va_copyi hx hb (hml.trans hl.1.symm) hown (hts _ (List.mem_cons_of_mem _ wm_7_8)) (hts _ (List.mem_cons_of_mem _ wm_7_9)) (hts _ (List.mem_cons_of_mem _ wm_7_10)) (hts _ (List.mem_cons_of_mem _ wm_7_11)) hK hP hD hS 12 4 0 0 rfl rfl rfl rfl rfl (by decide) (by decide) (by decide) (by decide) (by decide) (fun _ _ => rfl) (Nat.le_of_ble_eq_true rfl) (Nat.le_of_ble_eq_true rfl) dX1_become_65 (fun H locs hP hD hS => ?_)
  have hP : va_P (dC, dI) vwCl [(h_d, .inr (1, oX1 m_d v_o_day)), (m_d 1, .inl (cyI, 12, .inl a_1)), (m_d 2, .inl (cyJ, 12, .inr (.inl a_2))), (m_d 3, .inl (cyI, 12, .inl a_3)), (m_d 4, .inl (cyI, 6, .inl a_4)), (m_d 5, .inl (cyI, 6, .inl v_d_dryDays)), (m_d 6, .inl (cyI, 6, .inl v_d_firstDry)), (m_d 7, .inl (cyI, 6, .inl v_d_total)), (h_o, .inr (1, oX1 m_o v_o_day)), (m_o 1, .inl (cyI, 12, .inl v_o_water)), (m_o 2, .inl (cyJ, 12, .inr (.inl v_o_salt))), (m_o 3, .inl (cyI, 12, .inl v_o_seen)), (m_o 4, .inl (cyI, 6, .inl v_o_took)), (m_o 5, .inl (cyI, 6, .inl v_o_dryDays)), (m_o 6, .inl (cyI, 6, .inl v_o_firstDry)), (m_o 7, .inl (cyI, 6, .inl v_o_total))] H := by rw [ea_4]; exact hP
  have hD : va_D A [(h_d, .inr (1, oX1 m_d v_o_day)), (m_d 1, .inl (cyI, 12, .inl a_1)), (m_d 2, .inl (cyJ, 12, .inr (.inl a_2))), (m_d 3, .inl (cyI, 12, .inl a_3)), (m_d 4, .inl (cyI, 6, .inl a_4)), (m_d 5, .inl (cyI, 6, .inl v_d_dryDays)), (m_d 6, .inl (cyI, 6, .inl v_d_firstDry)), (m_d 7, .inl (cyI, 6, .inl v_d_total)), (h_o, .inr (1, oX1 m_o v_o_day)), (m_o 1, .inl (cyI, 12, .inl v_o_water)), (m_o 2, .inl (cyJ, 12, .inr (.inl v_o_salt))), (m_o 3, .inl (cyI, 12, .inl v_o_seen)), (m_o 4, .inl (cyI, 6, .inl v_o_took)), (m_o 5, .inl (cyI, 6, .inl v_o_dryDays)), (m_o 6, .inl (cyI, 6, .inl v_o_firstDry)), (m_o 7, .inl (cyI, 6, .inl v_o_total))] := by rw [ea_4]; exact hD
  refine lv_aload_n hx hb dX1_become_68 rfl (lv_at hl 1 rfl) ?_
  refine va_get (D := (dC, dI)) (ci := 1) (v := .ref (m_o 5)) (C := RX1) (T := TX1) (N := 8) hx hb hts (g_c inlX1) hown hK hP 8 rfl rfl 5 (by decide) (hts _ (List.mem_cons_of_mem _ wm_5_23)) (fun _ h9 => h9) rfl dX1_become_69 ?_
  refine lv_iconst (v := (0 : Int32)) hx hb dX1_become_72 (by decide) ?_
  refine lv_aload_n hx hb dX1_become_73 rfl (lv_at hl 0 rfl) ?_
  refine va_get (D := (dC, dI)) (ci := 1) (v := .ref (m_d 5)) (C := RX1) (T := TX1) (N := 8) hx hb hts (g_c inlX1) hown hK hP 0 rfl rfl 5 (by decide) (hts _ (List.mem_cons_of_mem _ wm_5_23)) (fun _ h9 => h9) rfl dX1_become_74 ?_
  refine lv_iconst (v := (0 : Int32)) hx hb dX1_become_77 (by decide) ?_
  refine lv_bipush (v := (6 : Int32)) hx hb dX1_become_78 (by decide) ?_
  obtain ⟨a_5, ea_5, hf⟩ := nm_some hf
  refine va_copyi hx hb (hml.trans hl.1.symm) hown (hts _ (List.mem_cons_of_mem _ wm_7_8)) (hts _ (List.mem_cons_of_mem _ wm_7_9)) (hts _ (List.mem_cons_of_mem _ wm_7_10)) (hts _ (List.mem_cons_of_mem _ wm_7_11)) hK hP hD hS 13 5 0 0 rfl rfl rfl rfl rfl (by decide) (by decide) (by decide) (by decide) (by decide) (fun _ _ => rfl) (Nat.le_of_ble_eq_true rfl) (Nat.le_of_ble_eq_true rfl) dX1_become_80 (fun H locs hP hD hS => ?_)
  have hP : va_P (dC, dI) vwCl [(h_d, .inr (1, oX1 m_d v_o_day)), (m_d 1, .inl (cyI, 12, .inl a_1)), (m_d 2, .inl (cyJ, 12, .inr (.inl a_2))), (m_d 3, .inl (cyI, 12, .inl a_3)), (m_d 4, .inl (cyI, 6, .inl a_4)), (m_d 5, .inl (cyI, 6, .inl a_5)), (m_d 6, .inl (cyI, 6, .inl v_d_firstDry)), (m_d 7, .inl (cyI, 6, .inl v_d_total)), (h_o, .inr (1, oX1 m_o v_o_day)), (m_o 1, .inl (cyI, 12, .inl v_o_water)), (m_o 2, .inl (cyJ, 12, .inr (.inl v_o_salt))), (m_o 3, .inl (cyI, 12, .inl v_o_seen)), (m_o 4, .inl (cyI, 6, .inl v_o_took)), (m_o 5, .inl (cyI, 6, .inl v_o_dryDays)), (m_o 6, .inl (cyI, 6, .inl v_o_firstDry)), (m_o 7, .inl (cyI, 6, .inl v_o_total))] H := by rw [ea_5]; exact hP
  have hD : va_D A [(h_d, .inr (1, oX1 m_d v_o_day)), (m_d 1, .inl (cyI, 12, .inl a_1)), (m_d 2, .inl (cyJ, 12, .inr (.inl a_2))), (m_d 3, .inl (cyI, 12, .inl a_3)), (m_d 4, .inl (cyI, 6, .inl a_4)), (m_d 5, .inl (cyI, 6, .inl a_5)), (m_d 6, .inl (cyI, 6, .inl v_d_firstDry)), (m_d 7, .inl (cyI, 6, .inl v_d_total)), (h_o, .inr (1, oX1 m_o v_o_day)), (m_o 1, .inl (cyI, 12, .inl v_o_water)), (m_o 2, .inl (cyJ, 12, .inr (.inl v_o_salt))), (m_o 3, .inl (cyI, 12, .inl v_o_seen)), (m_o 4, .inl (cyI, 6, .inl v_o_took)), (m_o 5, .inl (cyI, 6, .inl v_o_dryDays)), (m_o 6, .inl (cyI, 6, .inl v_o_firstDry)), (m_o 7, .inl (cyI, 6, .inl v_o_total))] := by rw [ea_5]; exact hD
  refine lv_aload_n hx hb dX1_become_83 rfl (lv_at hl 1 rfl) ?_
  refine va_get (D := (dC, dI)) (ci := 1) (v := .ref (m_o 6)) (C := RX1) (T := TX1) (N := 8) hx hb hts (g_c inlX1) hown hK hP 8 rfl rfl 6 (by decide) (hts _ (List.mem_cons_of_mem _ wm_6_0)) (fun _ h9 => h9) rfl dX1_become_84 ?_
  refine lv_iconst (v := (0 : Int32)) hx hb dX1_become_87 (by decide) ?_
  refine lv_aload_n hx hb dX1_become_88 rfl (lv_at hl 0 rfl) ?_
  refine va_get (D := (dC, dI)) (ci := 1) (v := .ref (m_d 6)) (C := RX1) (T := TX1) (N := 8) hx hb hts (g_c inlX1) hown hK hP 0 rfl rfl 6 (by decide) (hts _ (List.mem_cons_of_mem _ wm_6_0)) (fun _ h9 => h9) rfl dX1_become_89 ?_
  refine lv_iconst (v := (0 : Int32)) hx hb dX1_become_92 (by decide) ?_
  refine lv_bipush (v := (6 : Int32)) hx hb dX1_become_93 (by decide) ?_
  obtain ⟨a_6, ea_6, hf⟩ := nm_some hf
  refine va_copyi hx hb (hml.trans hl.1.symm) hown (hts _ (List.mem_cons_of_mem _ wm_7_8)) (hts _ (List.mem_cons_of_mem _ wm_7_9)) (hts _ (List.mem_cons_of_mem _ wm_7_10)) (hts _ (List.mem_cons_of_mem _ wm_7_11)) hK hP hD hS 14 6 0 0 rfl rfl rfl rfl rfl (by decide) (by decide) (by decide) (by decide) (by decide) (fun _ _ => rfl) (Nat.le_of_ble_eq_true rfl) (Nat.le_of_ble_eq_true rfl) dX1_become_95 (fun H locs hP hD hS => ?_)
  have hP : va_P (dC, dI) vwCl [(h_d, .inr (1, oX1 m_d v_o_day)), (m_d 1, .inl (cyI, 12, .inl a_1)), (m_d 2, .inl (cyJ, 12, .inr (.inl a_2))), (m_d 3, .inl (cyI, 12, .inl a_3)), (m_d 4, .inl (cyI, 6, .inl a_4)), (m_d 5, .inl (cyI, 6, .inl a_5)), (m_d 6, .inl (cyI, 6, .inl a_6)), (m_d 7, .inl (cyI, 6, .inl v_d_total)), (h_o, .inr (1, oX1 m_o v_o_day)), (m_o 1, .inl (cyI, 12, .inl v_o_water)), (m_o 2, .inl (cyJ, 12, .inr (.inl v_o_salt))), (m_o 3, .inl (cyI, 12, .inl v_o_seen)), (m_o 4, .inl (cyI, 6, .inl v_o_took)), (m_o 5, .inl (cyI, 6, .inl v_o_dryDays)), (m_o 6, .inl (cyI, 6, .inl v_o_firstDry)), (m_o 7, .inl (cyI, 6, .inl v_o_total))] H := by rw [ea_6]; exact hP
  have hD : va_D A [(h_d, .inr (1, oX1 m_d v_o_day)), (m_d 1, .inl (cyI, 12, .inl a_1)), (m_d 2, .inl (cyJ, 12, .inr (.inl a_2))), (m_d 3, .inl (cyI, 12, .inl a_3)), (m_d 4, .inl (cyI, 6, .inl a_4)), (m_d 5, .inl (cyI, 6, .inl a_5)), (m_d 6, .inl (cyI, 6, .inl a_6)), (m_d 7, .inl (cyI, 6, .inl v_d_total)), (h_o, .inr (1, oX1 m_o v_o_day)), (m_o 1, .inl (cyI, 12, .inl v_o_water)), (m_o 2, .inl (cyJ, 12, .inr (.inl v_o_salt))), (m_o 3, .inl (cyI, 12, .inl v_o_seen)), (m_o 4, .inl (cyI, 6, .inl v_o_took)), (m_o 5, .inl (cyI, 6, .inl v_o_dryDays)), (m_o 6, .inl (cyI, 6, .inl v_o_firstDry)), (m_o 7, .inl (cyI, 6, .inl v_o_total))] := by rw [ea_6]; exact hD
  refine lv_aload_n hx hb dX1_become_98 rfl (lv_at hl 1 rfl) ?_
  refine va_get (D := (dC, dI)) (ci := 1) (v := .ref (m_o 7)) (C := RX1) (T := TX1) (N := 8) hx hb hts (g_c inlX1) hown hK hP 8 rfl rfl 7 (by decide) (hts _ (List.mem_cons_of_mem _ wm_6_1)) (fun _ h9 => h9) rfl dX1_become_99 ?_
  refine lv_iconst (v := (0 : Int32)) hx hb dX1_become_102 (by decide) ?_
  refine lv_aload_n hx hb dX1_become_103 rfl (lv_at hl 0 rfl) ?_
  refine va_get (D := (dC, dI)) (ci := 1) (v := .ref (m_d 7)) (C := RX1) (T := TX1) (N := 8) hx hb hts (g_c inlX1) hown hK hP 0 rfl rfl 7 (by decide) (hts _ (List.mem_cons_of_mem _ wm_6_1)) (fun _ h9 => h9) rfl dX1_become_104 ?_
  refine lv_iconst (v := (0 : Int32)) hx hb dX1_become_107 (by decide) ?_
  refine lv_bipush (v := (6 : Int32)) hx hb dX1_become_108 (by decide) ?_
  obtain ⟨a_7, ea_7, hf⟩ := nm_some hf
  refine va_copyi hx hb (hml.trans hl.1.symm) hown (hts _ (List.mem_cons_of_mem _ wm_7_8)) (hts _ (List.mem_cons_of_mem _ wm_7_9)) (hts _ (List.mem_cons_of_mem _ wm_7_10)) (hts _ (List.mem_cons_of_mem _ wm_7_11)) hK hP hD hS 15 7 0 0 rfl rfl rfl rfl rfl (by decide) (by decide) (by decide) (by decide) (by decide) (fun _ _ => rfl) (Nat.le_of_ble_eq_true rfl) (Nat.le_of_ble_eq_true rfl) dX1_become_110 (fun H locs hP hD hS => ?_)
  have hP : va_P (dC, dI) vwCl [(h_d, .inr (1, oX1 m_d v_o_day)), (m_d 1, .inl (cyI, 12, .inl a_1)), (m_d 2, .inl (cyJ, 12, .inr (.inl a_2))), (m_d 3, .inl (cyI, 12, .inl a_3)), (m_d 4, .inl (cyI, 6, .inl a_4)), (m_d 5, .inl (cyI, 6, .inl a_5)), (m_d 6, .inl (cyI, 6, .inl a_6)), (m_d 7, .inl (cyI, 6, .inl a_7)), (h_o, .inr (1, oX1 m_o v_o_day)), (m_o 1, .inl (cyI, 12, .inl v_o_water)), (m_o 2, .inl (cyJ, 12, .inr (.inl v_o_salt))), (m_o 3, .inl (cyI, 12, .inl v_o_seen)), (m_o 4, .inl (cyI, 6, .inl v_o_took)), (m_o 5, .inl (cyI, 6, .inl v_o_dryDays)), (m_o 6, .inl (cyI, 6, .inl v_o_firstDry)), (m_o 7, .inl (cyI, 6, .inl v_o_total))] H := by rw [ea_7]; exact hP
  have hD : va_D A [(h_d, .inr (1, oX1 m_d v_o_day)), (m_d 1, .inl (cyI, 12, .inl a_1)), (m_d 2, .inl (cyJ, 12, .inr (.inl a_2))), (m_d 3, .inl (cyI, 12, .inl a_3)), (m_d 4, .inl (cyI, 6, .inl a_4)), (m_d 5, .inl (cyI, 6, .inl a_5)), (m_d 6, .inl (cyI, 6, .inl a_6)), (m_d 7, .inl (cyI, 6, .inl a_7)), (h_o, .inr (1, oX1 m_o v_o_day)), (m_o 1, .inl (cyI, 12, .inl v_o_water)), (m_o 2, .inl (cyJ, 12, .inr (.inl v_o_salt))), (m_o 3, .inl (cyI, 12, .inl v_o_seen)), (m_o 4, .inl (cyI, 6, .inl v_o_took)), (m_o 5, .inl (cyI, 6, .inl v_o_dryDays)), (m_o 6, .inl (cyI, 6, .inl v_o_firstDry)), (m_o 7, .inl (cyI, 6, .inl v_o_total))] := by rw [ea_7]; exact hD
  exact hret _ _ _ _ (v_o_day, a_1, a_2, a_3, a_4, a_5, a_6, a_7) dX1_become_113 (Option.some.inj hf) hP hD hS
