set_option maxRecDepth 100000 in
theorem nd_z193c_0 : va_nd [1, 2, 3] = true := nd_f (by decide +kernel)
set_option maxRecDepth 100000 in
theorem nd_z193c_1 : va_nd [0] = true := nd_f (by decide +kernel)
set_option maxRecDepth 100000 in
theorem nj_z193c_0 : ∀ i ∈ ([0] : List Nat), i ∉ ([1, 2, 3] : List Nat) := nj_f (by decide +kernel)
set_option maxRecDepth 100000 in
theorem sk_z193c_0 : sgk [(1, 3)] [1, 2, 3] 4 = true := by decide +kernel
set_option maxRecDepth 100000 in
theorem sk_z193c_1 : sgk [(0, 1)] [0] 4 = true := by decide +kernel
def f_X6_bridges_b13_st (kr : Int32 → Int32 → Int32 → Option (Int32))  (v_g_cells : Int32) (v_g_passes : Int32) (v_g_passFrom : (Nat → Int32)) (v_g_passTo : (Nat → Int32)) (x1 : Int32) (x2 : Int32) (x3 : Int32) : Option (Int32) := if v_g_passes ≤ x3 then (some (x2)) else (bd (f_X3_bodiesWithout v_g_cells v_g_passes v_g_passFrom v_g_passTo x3) (fun o_2 => if o_2 ≤ x1 then (kr x1 x2 (x3 + (1 : Int32))) else (kr x1 (x2 ||| ((1 : Int32) <<< (x3 &&& 31))) (x3 + (1 : Int32)))))
def f_X6_bridges_b13  (v_g_cells : Int32) (v_g_passes : Int32) (v_g_passFrom : (Nat → Int32)) (v_g_passTo : (Nat → Int32)) : Nat → Int32 → Int32 → Int32 → Option (Int32)
  | 0 => fun _ _ _ => none
  | n + 1 => f_X6_bridges_b13_st (f_X6_bridges_b13 v_g_cells v_g_passes v_g_passFrom v_g_passTo n) v_g_cells v_g_passes v_g_passFrom v_g_passTo
def f_X6_bridges (v_g_cells : Int32) (v_g_passes : Int32) (v_g_passFrom : (Nat → Int32)) (v_g_passTo : (Nat → Int32)) : Option (Int32) := bd (f_X3_bodiesWithout v_g_cells v_g_passes v_g_passFrom v_g_passTo (-1 : Int32)) (fun o_1 => f_X6_bridges_b13 v_g_cells v_g_passes v_g_passFrom v_g_passTo fuel o_1 (0 : Int32) (0 : Int32))
set_option maxRecDepth 100000 in
set_option maxHeartbeats 8000000 in
theorem c_X6_bridges (l : Launch) (dC : Nat → ClassId) (dI : Nat → Nat → Nat) (cyI cyJ cyZ cyB cyO : ClassId) (tO : Nat) (vF : Value) (adK adV : Nat → Nat) (h_w : Nat) (m_w : Nat → Nat) (h_r : Nat) (m_r : Nat → Nat) (h_g : Nat) (m_g : Nat → Nat) (h_p : Nat) (m_p : Nat → Nat) (h_c : Nat) (m_c : Nat → Nat) (h_n : Nat) (m_n : Nat → Nat) (h_d : Nat) (m_d : Nat → Nat) (h_e : Nat) (m_e : Nat → Nat) (v_w_length : Int32) (v_w_faultPlace : Int32) (v_g_cells : Int32) (v_g_passes : Int32) (v_g_rivers : Int32) (v_g_villages : Int32) (v_g_rains : Int32) (v_g_passFrom : (Nat → Int32)) (v_g_passTo : (Nat → Int32))  (sz : Nat) (out : Int32) (hf : f_X6_bridges v_g_cells v_g_passes v_g_passFrom v_g_passTo = some out) : Met l yX6_bridges (Cond.code yX6_bridges cX6_bridges 4 (some .int) :: wsL_law) ({ frames := 2, cells := 0, slots := 0, locals := 50 } : Room) (va_Pc [.ref h_w] (ux_pre (dC, dI) vwCl (tyG cyI cyJ cyZ cyB cyO) [(h_w, .inr (6, oX6 m_w v_w_length v_w_faultPlace h_r h_g h_p h_c h_n h_d h_e)), (h_g, .inr (3, oX3 m_g v_g_cells v_g_passes v_g_rivers v_g_villages v_g_rains)), (m_g 5, .inl (cyI, 20, .inl v_g_passFrom)), (m_g 6, .inl (cyI, 20, .inl v_g_passTo))] sz (xE tO vF adK adV))) (va_Qi (fun (r : Int32) (_ : Unit) => r = out) (ux_at (dC, dI) vwCl (tyG cyI cyJ cyZ cyB cyO) [(h_w, .inr (6, oX6 m_w v_w_length v_w_faultPlace h_r h_g h_p h_c h_n h_d h_e)), (h_g, .inr (3, oX3 m_g v_g_cells v_g_passes v_g_rivers v_g_villages v_g_rains)), (m_g 5, .inl (cyI, 20, .inl v_g_passFrom)), (m_g 6, .inl (cyI, 20, .inl v_g_passTo))] sz (fun u : Unit => [(h_w, .inr (6, oX6 m_w v_w_length v_w_faultPlace h_r h_g h_p h_c h_n h_d h_e)), (h_g, .inr (3, oX3 m_g v_g_cells v_g_passes v_g_rivers v_g_villages v_g_rains)), (m_g 5, .inl (cyI, 20, .inl v_g_passFrom)), (m_g 6, .inl (cyI, 20, .inl v_g_passTo))])) (va_A [(h_w, .inr (6, oX6 m_w v_w_length v_w_faultPlace h_r h_g h_p h_c h_n h_d h_e)), (h_g, .inr (3, oX3 m_g v_g_cells v_g_passes v_g_rivers v_g_villages v_g_rains)), (m_g 5, .inl (cyI, 20, .inl v_g_passFrom)), (m_g 6, .inl (cyI, 20, .inl v_g_passTo))] sz)) 0 0 (va_A [(h_w, .inr (6, oX6 m_w v_w_length v_w_faultPlace h_r h_g h_p h_c h_n h_d h_e)), (h_g, .inr (3, oX3 m_g v_g_cells v_g_passes v_g_rivers v_g_villages v_g_rains)), (m_g 5, .inl (cyI, 20, .inl v_g_passFrom)), (m_g 6, .inl (cyI, 20, .inl v_g_passTo))] sz) := by
  refine ux_meti0 (by decide +kernel) (Nat.le_of_ble_eq_true rfl) ?_
  intro p e s m below meth c A Q ls hx hb hml hts hown hA hP hK hD hE hl hret
  have hown : s.vm.findClass RX6 = some m.cls := hown
  have hS : va_S A s.heap s.heap [] := va_S.rf
  have hl : lv_has ls 4 [(0, .ref h_w)] := hl
  have hb_13 : ∀ (n : Nat) (x1 : Int32) (x2 : Int32) (x3 : Int32), f_X6_bridges_b13 v_g_cells v_g_passes v_g_passFrom v_g_passTo n x1 x2 x3 = some out → ∀ (H : Heap) (locs : List Loc) (ls : Array Slot), va_P (dC, dI) vwCl [(h_w, .inr (6, oX6 m_w v_w_length v_w_faultPlace h_r h_g h_p h_c h_n h_d h_e)), (h_g, .inr (3, oX3 m_g v_g_cells v_g_passes v_g_rivers v_g_villages v_g_rains)), (m_g 5, .inl (cyI, 20, .inl v_g_passFrom)), (m_g 6, .inl (cyI, 20, .inl v_g_passTo))] H → va_D A [(h_w, .inr (6, oX6 m_w v_w_length v_w_faultPlace h_r h_g h_p h_c h_n h_d h_e)), (h_g, .inr (3, oX3 m_g v_g_cells v_g_passes v_g_rivers v_g_villages v_g_rains)), (m_g 5, .inl (cyI, 20, .inl v_g_passFrom)), (m_g 6, .inl (cyI, 20, .inl v_g_passTo))] → va_S A s.heap H locs → lv_has ls 4 [(0, .ref h_w), (1, .int x1), (2, .int x2), (3, .int x3)] → W p l e ({ frames := 2, cells := 0, slots := 0, locals := 50 } : Room) s m ([.ref h_w] : List Value).toArray below meth c H locs 0 0 Q (F0 m 13 ls []) := by
    intro  n
    induction n with
    | zero =>
      intro x1 x2 x3 hf
      exact no_some hf
    | succ n ih =>
      intro x1 x2 x3 hf H locs ls hP hD hS hl
      have hf : f_X6_bridges_b13_st (f_X6_bridges_b13 v_g_cells v_g_passes v_g_passFrom v_g_passTo n) v_g_cells v_g_passes v_g_passFrom v_g_passTo x1 x2 x3 = some out := hf
      unfold f_X6_bridges_b13_st at hf
      refine lv_iload_n hx hb dX6_bridges_13 rfl (lv_at hl 3 rfl) ?_
      refine lv_aload_n hx hb dX6_bridges_14 rfl (lv_at hl 0 rfl) ?_
      refine va_get (D := (dC, dI)) (ci := 6) (v := .ref h_g) (C := RX6) (T := TX6) (N := 12) hx hb hts (g_c inlX6) hown hK hP 0 rfl rfl 4 (by decide) (hts _ (List.mem_cons_of_mem _ wm_1_23)) (fun _ h9 => h9) rfl dX6_bridges_15 ?_
      refine va_get (D := (dC, dI)) (ci := 3) (v := .int v_g_passes) (C := RX3) (T := TX3) (N := 20) hx hb hts (g_c inlX3) hown hK hP 1 rfl rfl 4 (by decide) (hts _ (List.mem_cons_of_mem _ wm_41_9)) (fun _ h9 => h9) rfl dX6_bridges_18 ?_
      refine lv_icmp_ge (tgt := 48) hx hb dX6_bridges_21 (by decide) (fun c_1 => ?_) (fun c_1 => ?_)
      · have hf := (if_pos c_1).symm.trans hf
        refine lv_iload_n hx hb dX6_bridges_48 rfl (lv_at hl 2 rfl) ?_
        exact hret _ _ _ _ x2 dX6_bridges_49 (Option.some.inj hf) hP hD hS
      · have hf := (if_neg c_1).symm.trans hf
        refine lv_aload_n hx hb dX6_bridges_24 rfl (lv_at hl 0 rfl) ?_
        refine va_get (D := (dC, dI)) (ci := 6) (v := .ref h_g) (C := RX6) (T := TX6) (N := 12) hx hb hts (g_c inlX6) hown hK hP 0 rfl rfl 4 (by decide) (hts _ (List.mem_cons_of_mem _ wm_1_23)) (fun _ h9 => h9) rfl dX6_bridges_25 ?_
        refine lv_iload_n hx hb dX6_bridges_28 rfl (lv_at hl 3 rfl) ?_
        obtain ⟨o_2, ho_2, hf⟩ := bd_some hf
        refine ux_Vi0 (n := 1) (As := [.int x3]) (rest := []) (wc := [(h_g, .inr (3, oX3 m_g v_g_cells v_g_passes v_g_rivers v_g_villages v_g_rains)), (m_g 5, .inl (cyI, 20, .inl v_g_passFrom)), (m_g 6, .inl (cyI, 20, .inl v_g_passTo))]) (wr := [_]) ⟨hx, hb, hml, hown, hts⟩ hK hP hD hS hA hE [1, 2, 3] [0] (sg_h [(1, 3)] 4 rfl sk_z193c_0 rfl) (sg_h [(0, 1)] 4 rfl sk_z193c_1 rfl) nd_z193c_0 nd_z193c_1 nj_z193c_0 (c_X3_bodiesWithout l dC dI cyI cyJ cyZ cyB cyO tO vF adK adV h_g m_g v_g_cells v_g_passes v_g_rivers v_g_villages v_g_rains v_g_passFrom v_g_passTo x3 _ _ ho_2) 3 0 rfl rfl wm_49_11 wm_49_12 wm_49_13 wm_1_22 wm_49_14 ⟨rfl, rfl⟩ (by decide +kernel) rfl ⟨Nat.le_of_ble_eq_true rfl, Nat.le_of_ble_eq_true rfl⟩ hl.1 rfl (Nat.le_of_ble_eq_true rfl) dX6_bridges_29 ⟨Nat.le_of_ble_eq_true rfl, Nat.le_of_ble_eq_true rfl⟩ (fun H locs hP hD hS => ?_)
        have hP : va_P (dC, dI) vwCl [_, (h_g, .inr (3, oX3 m_g v_g_cells v_g_passes v_g_rivers v_g_villages v_g_rains)), (m_g 5, .inl (cyI, 20, .inl v_g_passFrom)), (m_g 6, .inl (cyI, 20, .inl v_g_passTo))] H := hP
        have hD : va_D A [_, (h_g, .inr (3, oX3 m_g v_g_cells v_g_passes v_g_rivers v_g_villages v_g_rains)), (m_g 5, .inl (cyI, 20, .inl v_g_passFrom)), (m_g 6, .inl (cyI, 20, .inl v_g_passTo))] := hD
        refine lv_iload_n hx hb dX6_bridges_32 rfl (lv_at hl 1 rfl) ?_
        refine lv_icmp_le (tgt := 42) hx hb dX6_bridges_33 (by decide) (fun c_3 => ?_) (fun c_3 => ?_)
        · have hf := (if_pos c_3).symm.trans hf
          refine lv_iinc (v := x3 + (1 : Int32)) (lv' := [(3, .int (x3 + (1 : Int32))), (0, .ref h_w), (1, .int x1), (2, .int x2)]) hx hb dX6_bridges_42 hl (k := 3) rfl rfl (by decide) rfl (fun ls hl => ?_)
          refine lv_goto (tgt := 13) hx hb dX6_bridges_45 (by decide) ?_
          exact ih _ _ _ hf _ _ _ hP hD hS (lv_sub hl [1, 2, 3, 0] rfl)
        · have hf := (if_neg c_3).symm.trans hf
          refine lv_iload_n hx hb dX6_bridges_36 rfl (lv_at hl 2 rfl) ?_
          refine lv_iconst (v := (1 : Int32)) hx hb dX6_bridges_37 (by decide) ?_
          refine lv_iload_n hx hb dX6_bridges_38 rfl (lv_at hl 3 rfl) ?_
          refine lv_ishl hx hb dX6_bridges_39 ?_
          refine lv_ior hx hb dX6_bridges_40 ?_
          refine lv_istore_n (lv' := [(2, .int (x2 ||| ((1 : Int32) <<< (x3 &&& 31)))), (0, .ref h_w), (1, .int x1), (3, .int x3)]) hx hb dX6_bridges_41 rfl hl (by decide) rfl (fun ls hl => ?_)
          refine lv_iinc (v := x3 + (1 : Int32)) (lv' := [(3, .int (x3 + (1 : Int32))), (2, .int (x2 ||| ((1 : Int32) <<< (x3 &&& 31)))), (0, .ref h_w), (1, .int x1)]) hx hb dX6_bridges_42 hl (k := 3) rfl rfl (by decide) rfl (fun ls hl => ?_)
          refine lv_goto (tgt := 13) hx hb dX6_bridges_45 (by decide) ?_
          exact ih _ _ _ hf _ _ _ hP hD hS (lv_sub hl [2, 3, 1, 0] rfl)
  unfold f_X6_bridges at hf
  refine lv_aload_n hx hb dX6_bridges_0 rfl (lv_at hl 0 rfl) ?_
  refine va_get (D := (dC, dI)) (ci := 6) (v := .ref h_g) (C := RX6) (T := TX6) (N := 12) hx hb hts (g_c inlX6) hown hK hP 0 rfl rfl 4 (by decide) (hts _ (List.mem_cons_of_mem _ wm_1_23)) (fun _ h9 => h9) rfl dX6_bridges_1 ?_
  refine lv_iconst (v := (-1 : Int32)) hx hb dX6_bridges_4 (by decide) ?_
  obtain ⟨o_1, ho_1, hf⟩ := bd_some hf
  refine ux_Vi0 (n := 1) (As := [.int (-1 : Int32)]) (rest := []) (wc := [(h_g, .inr (3, oX3 m_g v_g_cells v_g_passes v_g_rivers v_g_villages v_g_rains)), (m_g 5, .inl (cyI, 20, .inl v_g_passFrom)), (m_g 6, .inl (cyI, 20, .inl v_g_passTo))]) (wr := [_]) ⟨hx, hb, hml, hown, hts⟩ hK hP hD hS hA hE [1, 2, 3] [0] (sg_h [(1, 3)] 4 rfl sk_z193c_0 rfl) (sg_h [(0, 1)] 4 rfl sk_z193c_1 rfl) nd_z193c_0 nd_z193c_1 nj_z193c_0 (c_X3_bodiesWithout l dC dI cyI cyJ cyZ cyB cyO tO vF adK adV h_g m_g v_g_cells v_g_passes v_g_rivers v_g_villages v_g_rains v_g_passFrom v_g_passTo (-1 : Int32) _ _ ho_1) 3 0 rfl rfl wm_49_11 wm_49_12 wm_49_13 wm_1_22 wm_49_14 ⟨rfl, rfl⟩ (by decide +kernel) rfl ⟨Nat.le_of_ble_eq_true rfl, Nat.le_of_ble_eq_true rfl⟩ hl.1 rfl (Nat.le_of_ble_eq_true rfl) dX6_bridges_5 ⟨Nat.le_of_ble_eq_true rfl, Nat.le_of_ble_eq_true rfl⟩ (fun H locs hP hD hS => ?_)
  have hP : va_P (dC, dI) vwCl [_, (h_g, .inr (3, oX3 m_g v_g_cells v_g_passes v_g_rivers v_g_villages v_g_rains)), (m_g 5, .inl (cyI, 20, .inl v_g_passFrom)), (m_g 6, .inl (cyI, 20, .inl v_g_passTo))] H := hP
  have hD : va_D A [_, (h_g, .inr (3, oX3 m_g v_g_cells v_g_passes v_g_rivers v_g_villages v_g_rains)), (m_g 5, .inl (cyI, 20, .inl v_g_passFrom)), (m_g 6, .inl (cyI, 20, .inl v_g_passTo))] := hD
  refine lv_istore_n (lv' := [(1, .int o_1), (0, .ref h_w)]) hx hb dX6_bridges_8 rfl hl (by decide) rfl (fun ls hl => ?_)
  refine lv_iconst (v := (0 : Int32)) hx hb dX6_bridges_9 (by decide) ?_
  refine lv_istore_n (lv' := [(2, .int (0 : Int32)), (1, .int o_1), (0, .ref h_w)]) hx hb dX6_bridges_10 rfl hl (by decide) rfl (fun ls hl => ?_)
  refine lv_iconst (v := (0 : Int32)) hx hb dX6_bridges_11 (by decide) ?_
  refine lv_istore_n (lv' := [(3, .int (0 : Int32)), (2, .int (0 : Int32)), (1, .int o_1), (0, .ref h_w)]) hx hb dX6_bridges_12 rfl hl (by decide) rfl (fun ls hl => ?_)
  exact hb_13 _ _ _ _ hf _ _ _ hP hD hS (lv_sub hl [3, 2, 1, 0] rfl)
